set_option maxHeartbeats 4000000 in
set_option maxRecDepth 100000 in
theorem c_X0_isWithin (l : Launch) (x a b : Int32) (lo hi : Int) (hA : a.toInt = lo) (hB : b.toInt = hi) : Met l yX0_isWithin wsX0_isWithin ({ frames := 0, cells := 0, slots := 0, locals := 0 }) (va_Pc [.int x, .int a, .int b] (fun U => True)) (vp_Si (fun r => r = bI (lo ≤ x.toInt ∧ x.toInt ≤ hi))) 0 0 (fun _ => False) := by
  refine Met.ofW (cc := cX0_isWithin) (maxL := 3) (ret := (some .boolean)) (by decide) rfl ?_
  intro p e s m args below meth c s₁ B hml hv
  obtain ⟨rfl, -⟩ := hv
  have hx := B.exec
  have hb := B.bytes
  have hr := B.returns
  have hts := atoms_spec (ws := wsX0_isWithin) B.pre
  have hown : s.vm.findClass RX0 = some m.cls := findClass_of_methodNamed B.named
  have hlocks := B.notSynchronized
  have hl := lv_entry ([.int x, .int a, .int b]) (n := 3) (Nat.le_of_ble_eq_true rfl)
  rw [lg_entry_eq]
  generalize (lg_sl ([.int x, .int a, .int b]) ++ List.replicate (3 - (lg_sl ([.int x, .int a, .int b])).length) Slot.unset).toArray = ls at hl ⊢
  have hl : lv_has ls 3 [(0, .int x), (1, .int a), (2, .int b)] := hl
  refine lv_iload_n hx hb dX0_isWithin_0 rfl (lv_at hl 0 rfl) ?_
  refine lv_iload_n hx hb dX0_isWithin_1 rfl (lv_at hl 1 rfl) ?_
  refine lv_icmp_lt (tgt := 14) hx hb dX0_isWithin_2 (by decide) (fun c2 => ?_) (fun c2 => ?_)
  · -- taken at 2
    have c2 : x.toInt < a.toInt := (Int32.lt_iff_toInt_lt).mp c2
    refine lv_iconst (v := 0) hx hb dX0_isWithin_14 (by decide) ?_
    exact W.zret (v := 0) hx hb hr rfl (fun t ht hW => ⟨0, rfl, (bI_0 (by omega)).symm, ht⟩) t_nil dX0_isWithin_15
  · -- not taken at 2
    have c2 : ¬ x.toInt < a.toInt := fun q9 => c2 ((Int32.lt_iff_toInt_lt).mpr q9)
    refine lv_iload_n hx hb dX0_isWithin_5 rfl (lv_at hl 0 rfl) ?_
    refine lv_iload_n hx hb dX0_isWithin_6 rfl (lv_at hl 2 rfl) ?_
    refine lv_icmp_gt (tgt := 14) hx hb dX0_isWithin_7 (by decide) (fun c7 => ?_) (fun c7 => ?_)
    · -- taken at 7
      have c7 : b.toInt < x.toInt := (Int32.lt_iff_toInt_lt).mp c7
      refine lv_iconst (v := 0) hx hb dX0_isWithin_14 (by decide) ?_
      exact W.zret (v := 0) hx hb hr rfl (fun t ht hW => ⟨0, rfl, (bI_0 (by omega)).symm, ht⟩) t_nil dX0_isWithin_15
    · -- not taken at 7
      have c7 : ¬ b.toInt < x.toInt := fun q9 => c7 ((Int32.lt_iff_toInt_lt).mpr q9)
      refine lv_iconst (v := 1) hx hb dX0_isWithin_10 (by decide) ?_
      refine lv_goto (tgt := 15) hx hb dX0_isWithin_11 (by decide) ?_
      exact W.zret (v := 1) hx hb hr rfl (fun t ht hW => ⟨1, rfl, (bI_1 (by omega)).symm, ht⟩) t_nil dX0_isWithin_15
set_option maxHeartbeats 4000000 in
set_option maxRecDepth 100000 in
theorem c_X0_firstRowFrom (l : Launch) (dC : Nat → ClassId) (dI : Nat → Nat → Nat) (x a1 a2 a3 a4 : Nat) (cI : ClassId) (S F X Y : Nat → Int32) (n : Nat) (ar sl : Int32) (mu ml : Int64) (ck : Int32) (ic : Nat) (ds js ps ss : Int64) (tc : Nat) (p1 : Int32) (hn : n ≤ 40) : Met l yX0_firstRowFrom wsX0_firstRowFrom ({ frames := 0, cells := 0, slots := 0, locals := 0 }) (va_Pc [.ref x, .int p1] (fun U => va_P (dC, dI) vwCl (wX x a1 a2 a3 a4 cI S F X Y n ar sl mu ml ck ic ds js ps ss tc) U.heap ∧ va_K (dC, dI) vwCl [(cI, .int)] U)) (vp_Si (fun r => ∃ k, k ≤ n ∧ r = nI k ∧ (∀ j, j < k → (S j).toInt < p1.toInt) ∧ (k < n → p1.toInt ≤ (S k).toInt))) 0 0 (fun _ => False) := by
  refine Met.ofW (cc := cX0_firstRowFrom) (maxL := 3) (ret := (some .int)) (by decide) rfl ?_
  intro p e s m args below meth c s₁ B hml hv
  obtain ⟨rfl, hP, hK⟩ := hv
  have hx := B.exec
  have hb := B.bytes
  have hr := B.returns
  have hts := atoms_spec (ws := wsX0_firstRowFrom) B.pre
  have hown : s.vm.findClass RX0 = some m.cls := findClass_of_methodNamed B.named
  have hlocks := B.notSynchronized
  have hinX0 : ∀ w ∈ wsX00, w ∈ wsX0_firstRowFrom := fun w h => List.mem_cons_of_mem _ (inX0 w h)
  have f34 := hts _ (List.mem_cons_of_mem _ wl_X0_34)
  have f9 := hts _ (List.mem_cons_of_mem _ wl_X0_9)
  have hl := lv_entry ([.ref x, .int p1]) (n := 3) (Nat.le_of_ble_eq_true rfl)
  rw [lg_entry_eq]
  generalize (lg_sl ([.ref x, .int p1]) ++ List.replicate (3 - (lg_sl ([.ref x, .int p1])).length) Slot.unset).toArray = ls at hl ⊢
  have hl : lv_has ls 3 [(0, .ref x), (1, .int p1)] := hl
  have L2 : ∀ (f : Nat) (k : Nat) (ls : Array Slot), n + 1 ≤ k + f → (k ≤ n) → (∀ j, j < k → (S j).toInt < p1.toInt) → lv_has ls 3 [(2, .int (nI k)), (0, .ref x), (1, .int p1)] → W p l e (headSpec wsX0_firstRowFrom ({ frames := 0, cells := 0, slots := 0, locals := 0 })).room s m ([.ref x, .int p1] : List Value).toArray below meth c s.heap [] 0 0 (MQ below (vp_Si (fun r => ∃ k, k ≤ n ∧ r = nI k ∧ (∀ j, j < k → (S j).toInt < p1.toInt) ∧ (k < n → p1.toInt ≤ (S k).toInt))) ([.ref x, .int p1] : List Value).toArray s 0 0 (fun _ => False)) (F0 m 2 ls []) := by
    intro f
    induction f with
    | zero => intro k ls hm hk ha hl; exact absurd hm (by omega)
    | succ f ih =>
      intro k ls hm hk ha hl
      refine lv_iload_n hx hb dX0_firstRowFrom_2 rfl (lv_at hl 0 rfl) ?_
      refine lv_aload_n hx hb dX0_firstRowFrom_3 rfl (lv_at hl 1 rfl) ?_
      refine va_get (D := (dC, dI)) (ci := 0) (v := .int (nI n)) (C := RX0) (T := TX0) (N := 16) hx hb hts hinX0 hown hK hP 0 rfl rfl 2 (by decide) f34 (fun _ h9 => h9) rfl dX0_firstRowFrom_4 ?_
      refine lv_icmp_ge (tgt := 28) hx hb dX0_firstRowFrom_7 (by decide) (fun c7 => ?_) (fun c7 => ?_)
      · -- taken at 7
        have c7 : n ≤ k := (nI_leI (a := n) (b := k) (by omega) (by omega)).mp c7
        refine lv_aload_n hx hb dX0_firstRowFrom_28 rfl (lv_at hl 1 rfl) ?_
        refine va_get (D := (dC, dI)) (ci := 0) (v := .int (nI n)) (C := RX0) (T := TX0) (N := 16) hx hb hts hinX0 hown hK hP 0 rfl rfl 2 (by decide) f34 (fun _ h9 => h9) rfl dX0_firstRowFrom_29 ?_
        exact W.iret (v := nI n) hx hb hr (fun t ht hW => ⟨nI n, rfl, ⟨n, Nat.le_refl n, rfl, fun j hj => ha j (by omega), fun q => absurd q (Nat.lt_irrefl n)⟩, ht⟩) t_nil dX0_firstRowFrom_32
      · -- not taken at 7
        have c7 : ¬ n ≤ k := fun q9 => c7 ((nI_leI (a := n) (b := k) (by omega) (by omega)).mpr q9)
        refine lv_aload_n hx hb dX0_firstRowFrom_10 rfl (lv_at hl 1 rfl) ?_
        refine va_get (D := (dC, dI)) (ci := 0) (v := .ref a1) (C := RX0) (T := TX0) (N := 16) hx hb hts hinX0 hown hK hP 0 rfl rfl 0 (by decide) f9 (fun _ h9 => h9) rfl dX0_firstRowFrom_11 ?_
        refine lv_iload_n hx hb dX0_firstRowFrom_14 rfl (lv_at hl 0 rfl) ?_
        refine va_iald (D := (dC, dI)) hx hb hK hP 1 0 rfl rfl (vp_in_nI (show k < 40 by omega) (by decide)) dX0_firstRowFrom_15 ?_
        refine W.eq (congrArg (fun z => F0 m 16 ls (.int z :: [])) (congrArg S (nI_clamp (show k < 2 ^ 31 by omega)))) ?_
        refine lv_iload_n hx hb dX0_firstRowFrom_16 rfl (lv_at hl 2 rfl) ?_
        refine lv_icmp_lt (tgt := 22) hx hb dX0_firstRowFrom_17 (by decide) (fun c17 => ?_) (fun c17 => ?_)
        · -- taken at 17
          have c17 : (S k).toInt < p1.toInt := (Int32.lt_iff_toInt_lt).mp c17
          refine lv_iinc (v := nI (k + 1)) (lv' := [(2, .int (nI (k + 1))), (0, .ref x), (1, .int p1)]) hx hb dX0_firstRowFrom_22 hl (k := 0) rfl ((nI_succ _).symm) (by decide) rfl (fun ls hl => ?_)
          refine lv_goto (tgt := 2) hx hb dX0_firstRowFrom_25 (by decide) ?_
          exact ih (k + 1) ls (by omega) (by omega) (lt_s ha c17) (lv_sub hl [0, 1, 2] rfl)
        · -- not taken at 17
          have c17 : ¬ (S k).toInt < p1.toInt := fun q9 => c17 ((Int32.lt_iff_toInt_lt).mpr q9)
          refine lv_iload_n hx hb dX0_firstRowFrom_20 rfl (lv_at hl 0 rfl) ?_
          exact W.iret (v := nI k) hx hb hr (fun t ht hW => ⟨nI k, rfl, ⟨k, hk, rfl, ha, fun _ => by omega⟩, ht⟩) t_nil dX0_firstRowFrom_21
  refine lv_iconst (v := 0) hx hb dX0_firstRowFrom_0 (by decide) ?_
  refine lv_istore_n (lv' := [(2, .int 0), (0, .ref x), (1, .int p1)]) hx hb dX0_firstRowFrom_1 rfl hl (by decide) rfl (fun ls hl => ?_)
  exact L2 (n + 1) 0 ls (by omega) (Nat.zero_le _) (fun j hj => absurd hj (Nat.not_lt_zero j)) (lv_sub hl [0, 1, 2] rfl)
set_option maxHeartbeats 4000000 in
set_option maxRecDepth 100000 in
theorem c_X0_lastRowUpTo (l : Launch) (dC : Nat → ClassId) (dI : Nat → Nat → Nat) (x a1 a2 a3 a4 : Nat) (cI : ClassId) (S F X Y : Nat → Int32) (n : Nat) (ar sl : Int32) (mu ml : Int64) (ck : Int32) (ic : Nat) (ds js ps ss : Int64) (tc : Nat) (p1 : Int32) (hn : n ≤ 40) : Met l yX0_lastRowUpTo wsX0_lastRowUpTo ({ frames := 0, cells := 0, slots := 0, locals := 0 }) (va_Pc [.ref x, .int p1] (fun U => va_P (dC, dI) vwCl (wX x a1 a2 a3 a4 cI S F X Y n ar sl mu ml ck ic ds js ps ss tc) U.heap ∧ va_K (dC, dI) vwCl [(cI, .int)] U)) (vp_Si (fun r => ∃ k : Nat, k ≤ n ∧ r.toInt = (k : Int) - 1 ∧ (∀ j, k ≤ j → j < n → p1.toInt < (S j).toInt) ∧ (0 < k → (S (k - 1)).toInt ≤ p1.toInt))) 0 0 (fun _ => False) := by
  refine Met.ofW (cc := cX0_lastRowUpTo) (maxL := 3) (ret := (some .int)) (by decide) rfl ?_
  intro p e s m args below meth c s₁ B hml hv
  obtain ⟨rfl, hP, hK⟩ := hv
  have hx := B.exec
  have hb := B.bytes
  have hr := B.returns
  have hts := atoms_spec (ws := wsX0_lastRowUpTo) B.pre
  have hown : s.vm.findClass RX0 = some m.cls := findClass_of_methodNamed B.named
  have hlocks := B.notSynchronized
  have hinX0 : ∀ w ∈ wsX00, w ∈ wsX0_lastRowUpTo := fun w h => List.mem_cons_of_mem _ (inX0 w h)
  have f34 := hts _ (List.mem_cons_of_mem _ wl_X0_34)
  have f9 := hts _ (List.mem_cons_of_mem _ wl_X0_9)
  have hl := lv_entry ([.ref x, .int p1]) (n := 3) (Nat.le_of_ble_eq_true rfl)
  rw [lg_entry_eq]
  generalize (lg_sl ([.ref x, .int p1]) ++ List.replicate (3 - (lg_sl ([.ref x, .int p1])).length) Slot.unset).toArray = ls at hl ⊢
  have hl : lv_has ls 3 [(0, .ref x), (1, .int p1)] := hl
  have L7 : ∀ (f : Nat) (k : Nat) (z : Int32) (ls : Array Slot), k + 1 ≤ f → (k ≤ n) → (z.toInt = (k : Int) - 1) → (∀ j, k ≤ j → j < n → p1.toInt < (S j).toInt) → lv_has ls 3 [(2, .int z), (0, .ref x), (1, .int p1)] → W p l e (headSpec wsX0_lastRowUpTo ({ frames := 0, cells := 0, slots := 0, locals := 0 })).room s m ([.ref x, .int p1] : List Value).toArray below meth c s.heap [] 0 0 (MQ below (vp_Si (fun r => ∃ k : Nat, k ≤ n ∧ r.toInt = (k : Int) - 1 ∧ (∀ j, k ≤ j → j < n → p1.toInt < (S j).toInt) ∧ (0 < k → (S (k - 1)).toInt ≤ p1.toInt))) ([.ref x, .int p1] : List Value).toArray s 0 0 (fun _ => False)) (F0 m 7 ls []) := by
    intro f
    induction f with
    | zero => intro k z ls hm hk hz ha hl; exact absurd hm (by omega)
    | succ f ih =>
      intro k z ls hm hk hz ha hl
      refine lv_iload_n hx hb dX0_lastRowUpTo_7 rfl (lv_at hl 0 rfl) ?_
      refine lv_if_lt (tgt := 29) hx hb dX0_lastRowUpTo_8 (by decide) (fun c8 => ?_) (fun c8 => ?_)
      · -- taken at 8
        have c8 : z.toInt < 0 := (Int32.lt_iff_toInt_lt).mp c8
        refine lv_iconst (v := (-1)) hx hb dX0_lastRowUpTo_29 (by decide) ?_
        exact W.iret (v := (-1)) hx hb hr (fun t ht hW => ⟨(-1), rfl, ⟨0, Nat.zero_le _, by decide, fun j h1 h2 => ha j (by omega) h2, fun q => absurd q (by decide)⟩, ht⟩) t_nil dX0_lastRowUpTo_30
      · -- not taken at 8
        have c8 : ¬ z.toInt < 0 := fun q9 => c8 ((Int32.lt_iff_toInt_lt).mpr q9)
        refine lv_aload_n hx hb dX0_lastRowUpTo_11 rfl (lv_at hl 1 rfl) ?_
        refine va_get (D := (dC, dI)) (ci := 0) (v := .ref a1) (C := RX0) (T := TX0) (N := 16) hx hb hts hinX0 hown hK hP 0 rfl rfl 0 (by decide) f9 (fun _ h9 => h9) rfl dX0_lastRowUpTo_12 ?_
        refine lv_iload_n hx hb dX0_lastRowUpTo_15 rfl (lv_at hl 0 rfl) ?_
        refine va_iald (D := (dC, dI)) hx hb hK hP 1 0 rfl rfl (vp_in_iff.mpr ⟨by omega, by omega⟩) dX0_lastRowUpTo_16 ?_
        refine W.eq (congrArg (fun z => F0 m 17 ls (.int z :: [])) (congrArg S (cl_of (j := k - 1) (by omega)))) ?_
        refine lv_iload_n hx hb dX0_lastRowUpTo_17 rfl (lv_at hl 2 rfl) ?_
        refine lv_icmp_gt (tgt := 23) hx hb dX0_lastRowUpTo_18 (by decide) (fun c18 => ?_) (fun c18 => ?_)
        · -- taken at 18
          have c18 : p1.toInt < (S (k - 1)).toInt := (Int32.lt_iff_toInt_lt).mp c18
          refine lv_iinc (v := z + (-1)) (lv' := [(2, .int (z + (-1))), (0, .ref x), (1, .int p1)]) hx hb dX0_lastRowUpTo_23 hl (k := 0) rfl (rfl) (by decide) rfl (fun ls hl => ?_)
          refine lv_goto (tgt := 7) hx hb dX0_lastRowUpTo_26 (by decide) ?_
          exact ih (k - 1) (z + (-1)) ls (by omega) (by omega) (i32_m1 (by omega) (by omega)) (ext_dn (by omega) ha c18) (lv_sub hl [0, 1, 2] rfl)
        · -- not taken at 18
          have c18 : ¬ p1.toInt < (S (k - 1)).toInt := fun q9 => c18 ((Int32.lt_iff_toInt_lt).mpr q9)
          refine lv_iload_n hx hb dX0_lastRowUpTo_21 rfl (lv_at hl 0 rfl) ?_
          exact W.iret (v := z) hx hb hr (fun t ht hW => ⟨z, rfl, ⟨k, hk, hz, ha, fun _ => by omega⟩, ht⟩) t_nil dX0_lastRowUpTo_22
  refine lv_aload_n hx hb dX0_lastRowUpTo_0 rfl (lv_at hl 0 rfl) ?_
  refine va_get (D := (dC, dI)) (ci := 0) (v := .int (nI n)) (C := RX0) (T := TX0) (N := 16) hx hb hts hinX0 hown hK hP 0 rfl rfl 2 (by decide) f34 (fun _ h9 => h9) rfl dX0_lastRowUpTo_1 ?_
  refine lv_iconst (v := 1) hx hb dX0_lastRowUpTo_4 (by decide) ?_
  refine lv_isub hx hb dX0_lastRowUpTo_5 ?_
  refine lv_istore_n (lv' := [(2, .int ((nI n) - 1)), (0, .ref x), (1, .int p1)]) hx hb dX0_lastRowUpTo_6 rfl hl (by decide) rfl (fun ls hl => ?_)
  exact L7 (n + 1) n (nI n - 1) ls (by omega) (Nat.le_refl n) (nI_m1 hn) (fun j h1 h2 => absurd h2 (Nat.not_lt.mpr h1)) (lv_sub hl [0, 1, 2] rfl)
set_option maxHeartbeats 4000000 in
set_option maxRecDepth 100000 in
theorem c_X0_excessOverLine (l : Launch) (dC : Nat → ClassId) (dI : Nat → Nat → Nat) (x a1 a2 a3 a4 : Nat) (cI : ClassId) (S F X Y : Nat → Int32) (n : Nat) (ar sl : Int32) (mu ml : Int64) (ck : Int32) (ic : Nat) (ds js ps ss : Int64) (tc : Nat) (p1 p2 : Int32) (k : Nat) (hk : p1.toInt = (k : Int)) (hk40 : k < 40) : Met l yX0_excessOverLine wsX0_excessOverLine ({ frames := 0, cells := 0, slots := 0, locals := 0 }) (va_Pc [.ref x, .int p1, .int p2] (fun U => va_P (dC, dI) vwCl (wX x a1 a2 a3 a4 cI S F X Y n ar sl mu ml ck ic ds js ps ss tc) U.heap ∧ va_K (dC, dI) vwCl [(cI, .int)] U)) (vp_Sl (fun r => r = exl S F mu ml p2 k)) 0 0 (fun _ => False) := by
  refine Met.ofW (cc := cX0_excessOverLine) (maxL := 3) (ret := (some .long)) (by decide) rfl ?_
  intro p e s m args below meth c s₁ B hml hv
  obtain ⟨rfl, hP, hK⟩ := hv
  have hx := B.exec
  have hb := B.bytes
  have hr := B.returns
  have hts := atoms_spec (ws := wsX0_excessOverLine) B.pre
  have hown : s.vm.findClass RX0 = some m.cls := findClass_of_methodNamed B.named
  have hlocks := B.notSynchronized
  have hinX0 : ∀ w ∈ wsX00, w ∈ wsX0_excessOverLine := fun w h => List.mem_cons_of_mem _ (inX0 w h)
  have f13 := hts _ (List.mem_cons_of_mem _ wl_X0_13)
  have f72 := hts _ (List.mem_cons_of_mem _ wl_X0_72)
  have f68 := hts _ (List.mem_cons_of_mem _ wl_X0_68)
  have f9 := hts _ (List.mem_cons_of_mem _ wl_X0_9)
  have hl := lv_entry ([.ref x, .int p1, .int p2]) (n := 3) (Nat.le_of_ble_eq_true rfl)
  rw [lg_entry_eq]
  generalize (lg_sl ([.ref x, .int p1, .int p2]) ++ List.replicate (3 - (lg_sl ([.ref x, .int p1, .int p2])).length) Slot.unset).toArray = ls at hl ⊢
  have hl : lv_has ls 3 [(0, .ref x), (1, .int p1), (2, .int p2)] := hl
  refine lv_aload_n hx hb dX0_excessOverLine_0 rfl (lv_at hl 0 rfl) ?_
  refine va_get (D := (dC, dI)) (ci := 0) (v := .ref a2) (C := RX0) (T := TX0) (N := 16) hx hb hts hinX0 hown hK hP 0 rfl rfl 1 (by decide) f13 (fun _ h9 => h9) rfl dX0_excessOverLine_1 ?_
  refine lv_iload_n hx hb dX0_excessOverLine_4 rfl (lv_at hl 1 rfl) ?_
  refine va_iald (D := (dC, dI)) hx hb hK hP 2 0 rfl rfl (vp_in_iff.mpr ⟨by omega, by omega⟩) dX0_excessOverLine_5 ?_
  refine W.eq (congrArg (fun z => F0 m 6 ls (.int z :: [])) (congrArg F (cl_of (j := k) (hk)))) ?_
  refine lv_i2l hx hb dX0_excessOverLine_6 rfl ?_
  refine lv_aload_n hx hb dX0_excessOverLine_7 rfl (lv_at hl 0 rfl) ?_
  refine va_get (D := (dC, dI)) (ci := 0) (v := .long ml) (C := RX0) (T := TX0) (N := 16) hx hb hts hinX0 hown hK hP 0 rfl rfl 6 (by decide) f72 (fun _ h9 => h9) rfl dX0_excessOverLine_8 ?_
  refine lv_lmul hx hb dX0_excessOverLine_11 ?_
  refine lv_aload_n hx hb dX0_excessOverLine_12 rfl (lv_at hl 0 rfl) ?_
  refine va_get (D := (dC, dI)) (ci := 0) (v := .long mu) (C := RX0) (T := TX0) (N := 16) hx hb hts hinX0 hown hK hP 0 rfl rfl 5 (by decide) f68 (fun _ h9 => h9) rfl dX0_excessOverLine_13 ?_
  refine lv_aload_n hx hb dX0_excessOverLine_16 rfl (lv_at hl 0 rfl) ?_
  refine va_get (D := (dC, dI)) (ci := 0) (v := .ref a1) (C := RX0) (T := TX0) (N := 16) hx hb hts hinX0 hown hK hP 0 rfl rfl 0 (by decide) f9 (fun _ h9 => h9) rfl dX0_excessOverLine_17 ?_
  refine lv_iload_n hx hb dX0_excessOverLine_20 rfl (lv_at hl 1 rfl) ?_
  refine va_iald (D := (dC, dI)) hx hb hK hP 1 0 rfl rfl (vp_in_iff.mpr ⟨by omega, by omega⟩) dX0_excessOverLine_21 ?_
  refine W.eq (congrArg (fun z => F0 m 22 ls (.int z :: [.long mu, .long (((F k).toInt64) * ml)])) (congrArg S (cl_of (j := k) (hk)))) ?_
  refine lv_iload_n hx hb dX0_excessOverLine_22 rfl (lv_at hl 2 rfl) ?_
  refine lv_isub hx hb dX0_excessOverLine_23 ?_
  refine lv_i2l hx hb dX0_excessOverLine_24 rfl ?_
  refine lv_lmul hx hb dX0_excessOverLine_25 ?_
  refine lv_lsub hx hb dX0_excessOverLine_26 ?_
  exact W.lret (v := (((F k).toInt64) * ml) - (mu * (((S k) - p2).toInt64))) hx hb hr (fun t ht hW => ⟨(((F k).toInt64) * ml) - (mu * (((S k) - p2).toInt64)), rfl, rfl, ht⟩) t_nil dX0_excessOverLine_27
set_option maxHeartbeats 4000000 in
set_option maxRecDepth 100000 in
theorem c_X0_meetingRow (l : Launch) (dC : Nat → ClassId) (dI : Nat → Nat → Nat) (x a1 a2 a3 a4 : Nat) (cI : ClassId) (S F X Y : Nat → Int32) (n : Nat) (ar sl : Int32) (mu ml : Int64) (ck : Int32) (ic : Nat) (ds js ps ss : Int64) (tc : Nat) (p1 : Int32) (hn : n ≤ 40) : Met l yX0_meetingRow wsX0_meetingRow ({ frames := 1, cells := 0, slots := 0, locals := 22 }) (va_Pc [.ref x, .int p1] (fun U => va_P (dC, dI) vwCl (wX x a1 a2 a3 a4 cI S F X Y n ar sl mu ml ck ic ds js ps ss tc) U.heap ∧ va_K (dC, dI) vwCl [(cI, .int)] U)) (vp_Si (fun r => (∃ k, 1 ≤ k ∧ k < n ∧ r = nI k ∧ mtg (exl S F mu ml p1) k ∧ ∀ j, 1 ≤ j → j < k → ¬ mtg (exl S F mu ml p1) j) ∨ (r = -1 ∧ ∀ j, 1 ≤ j → j < n → ¬ mtg (exl S F mu ml p1) j))) 0 0 (fun _ => False) := by
  refine Met.ofW (cc := cX0_meetingRow) (maxL := 3) (ret := (some .int)) (by decide) rfl ?_
  intro p e s m args below meth c s₁ B hml hv
  obtain ⟨rfl, hP, hK⟩ := hv
  have hx := B.exec
  have hb := B.bytes
  have hr := B.returns
  have hts := atoms_spec (ws := wsX0_meetingRow) B.pre
  have hown : s.vm.findClass RX0 = some m.cls := findClass_of_methodNamed B.named
  have hlocks := B.notSynchronized
  have hinX0 : ∀ w ∈ wsX00, w ∈ wsX0_meetingRow := fun w h => List.mem_cons_of_mem _ (inX0 w h)
  have f34 := hts _ (List.mem_cons_of_mem _ wl_X0_34)
  have hl := lv_entry ([.ref x, .int p1]) (n := 3) (Nat.le_of_ble_eq_true rfl)
  rw [lg_entry_eq]
  generalize (lg_sl ([.ref x, .int p1]) ++ List.replicate (3 - (lg_sl ([.ref x, .int p1])).length) Slot.unset).toArray = ls at hl ⊢
  have hl : lv_has ls 3 [(0, .ref x), (1, .int p1)] := hl
  have L2 : ∀ (f : Nat) (k : Nat) (ls : Array Slot), n + 2 ≤ k + f → (1 ≤ k) → (k ≤ n + 1) → (∀ j, 1 ≤ j → j < k → ¬ mtg (exl S F mu ml p1) j) → lv_has ls 3 [(2, .int (nI k)), (0, .ref x), (1, .int p1)] → W p l e (headSpec wsX0_meetingRow ({ frames := 1, cells := 0, slots := 0, locals := 22 })).room s m ([.ref x, .int p1] : List Value).toArray below meth c s.heap [] 0 0 (MQ below (vp_Si (fun r => (∃ k, 1 ≤ k ∧ k < n ∧ r = nI k ∧ mtg (exl S F mu ml p1) k ∧ ∀ j, 1 ≤ j → j < k → ¬ mtg (exl S F mu ml p1) j) ∨ (r = -1 ∧ ∀ j, 1 ≤ j → j < n → ¬ mtg (exl S F mu ml p1) j))) ([.ref x, .int p1] : List Value).toArray s 0 0 (fun _ => False)) (F0 m 2 ls []) := by
    intro f
    induction f with
    | zero => intro k ls hm hk hk2 ha hl; exact absurd hm (by omega)
    | succ f ih =>
      intro k ls hm hk hk2 ha hl
      refine lv_iload_n hx hb dX0_meetingRow_2 rfl (lv_at hl 0 rfl) ?_
      refine lv_aload_n hx hb dX0_meetingRow_3 rfl (lv_at hl 1 rfl) ?_
      refine va_get (D := (dC, dI)) (ci := 0) (v := .int (nI n)) (C := RX0) (T := TX0) (N := 16) hx hb hts hinX0 hown hK hP 0 rfl rfl 2 (by decide) f34 (fun _ h9 => h9) rfl dX0_meetingRow_4 ?_
      refine lv_icmp_ge (tgt := 42) hx hb dX0_meetingRow_7 (by decide) (fun c7 => ?_) (fun c7 => ?_)
      · -- taken at 7
        have c7 : n ≤ k := (nI_leI (a := n) (b := k) (by omega) (by omega)).mp c7
        refine lv_iconst (v := (-1)) hx hb dX0_meetingRow_42 (by decide) ?_
        exact W.iret (v := (-1)) hx hb hr (fun t ht hW => ⟨(-1), rfl, Or.inr ⟨rfl, fun j h1 h2 => ha j h1 (by omega)⟩, ht⟩) t_nil dX0_meetingRow_43
      · -- not taken at 7
        have c7 : ¬ n ≤ k := fun q9 => c7 ((nI_leI (a := n) (b := k) (by omega) (by omega)).mpr q9)
        refine lv_aload_n hx hb dX0_meetingRow_10 rfl (lv_at hl 1 rfl) ?_
        refine lv_iload_n hx hb dX0_meetingRow_11 rfl (lv_at hl 0 rfl) ?_
        refine lv_iload_n hx hb dX0_meetingRow_12 rfl (lv_at hl 2 rfl) ?_
        refine vp_callSl (W.runV (As := [.int (nI k), .int p1]) (rest := []) ⟨hx, hb, hml, hown, hts⟩ (c_X0_excessOverLine l dC dI x a1 a2 a3 a4 cI S F X Y n ar sl mu ml ck ic ds js ps ss tc (nI k) p1 k (nI_toInt (by omega)) (by omega)) (cwV 2 hts (gV wl_X0_91 wi_X0_excessOverLine wv_X0_excessOverLine wi_X0 wc_X0_excessOverLine) rfl rfl rfl (by decide +kernel) ⟨Nat.le_of_ble_eq_true rfl, Nat.le_of_ble_eq_true rfl⟩) ⟨fun a U g mk q => ⟨q.1, q.2.1, va_K.moved (u := U) (U := U.calling g mk a) (Vm.Alike.refl U.vm) q.2.2⟩, va_recv hK hP (ci := 0) (q0 := 0) rfl rfl, fun U hU hW => ⟨rfl, by rw [hU]; exact hP, va_K.moved hW.alike hK⟩⟩ rfl rfl hl.1 rfl (lv_room (Nat.le_of_ble_eq_true rfl)) dX0_meetingRow_13 ⟨Nat.le_of_ble_eq_true rfl, Nat.le_of_ble_eq_true rfl⟩) (fun r13 h13 => ?_)
        subst h13
        refine lv_lconst (v := 0) hx hb dX0_meetingRow_16 (by decide) ?_
        refine W.lcmp hx hb dX0_meetingRow_17 ?_
        refine lv_if_gt (tgt := 36) hx hb dX0_meetingRow_18 (by decide) (fun c18 => ?_) (fun c18 => ?_)
        · -- taken at 18
          have c18 := (lg_cmp_gt _ _).mp c18
          have c18 : 0 < (exl S F mu ml p1 k).toInt := (Int64.lt_iff_toInt_lt).mp c18
          refine lv_iinc (v := nI (k + 1)) (lv' := [(2, .int (nI (k + 1))), (0, .ref x), (1, .int p1)]) hx hb dX0_meetingRow_36 hl (k := 0) rfl ((nI_succ _).symm) (by decide) rfl (fun ls hl => ?_)
          refine lv_goto (tgt := 2) hx hb dX0_meetingRow_39 (by decide) ?_
          exact ih (k + 1) ls (by omega) (by omega) (by omega) (ext_up ha (fun q => by have := q.1; have := q.2; omega)) (lv_sub hl [0, 1, 2] rfl)
        · -- not taken at 18
          have c18 := fun q9 => c18 ((lg_cmp_gt _ _).mpr q9)
          have c18 : ¬ 0 < (exl S F mu ml p1 k).toInt := fun q9 => c18 ((Int64.lt_iff_toInt_lt).mpr q9)
          refine lv_aload_n hx hb dX0_meetingRow_21 rfl (lv_at hl 1 rfl) ?_
          refine lv_iload_n hx hb dX0_meetingRow_22 rfl (lv_at hl 0 rfl) ?_
          refine lv_iconst (v := 1) hx hb dX0_meetingRow_23 (by decide) ?_
          refine lv_isub hx hb dX0_meetingRow_24 ?_
          refine lv_iload_n hx hb dX0_meetingRow_25 rfl (lv_at hl 2 rfl) ?_
          refine vp_callSl (W.runV (As := [.int ((nI k) - 1), .int p1]) (rest := []) ⟨hx, hb, hml, hown, hts⟩ (c_X0_excessOverLine l dC dI x a1 a2 a3 a4 cI S F X Y n ar sl mu ml ck ic ds js ps ss tc ((nI k) - 1) p1 (k - 1) (nI_sub1 (by omega) (by omega)) (by omega)) (cwV 2 hts (gV wl_X0_91 wi_X0_excessOverLine wv_X0_excessOverLine wi_X0 wc_X0_excessOverLine) rfl rfl rfl (by decide +kernel) ⟨Nat.le_of_ble_eq_true rfl, Nat.le_of_ble_eq_true rfl⟩) ⟨fun a U g mk q => ⟨q.1, q.2.1, va_K.moved (u := U) (U := U.calling g mk a) (Vm.Alike.refl U.vm) q.2.2⟩, va_recv hK hP (ci := 0) (q0 := 0) rfl rfl, fun U hU hW => ⟨rfl, by rw [hU]; exact hP, va_K.moved hW.alike hK⟩⟩ rfl rfl hl.1 rfl (lv_room (Nat.le_of_ble_eq_true rfl)) dX0_meetingRow_26 ⟨Nat.le_of_ble_eq_true rfl, Nat.le_of_ble_eq_true rfl⟩) (fun r26 h26 => ?_)
          subst h26
          refine lv_lconst (v := 0) hx hb dX0_meetingRow_29 (by decide) ?_
          refine W.lcmp hx hb dX0_meetingRow_30 ?_
          refine lv_if_le (tgt := 36) hx hb dX0_meetingRow_31 (by decide) (fun c31 => ?_) (fun c31 => ?_)
          · -- taken at 31
            have c31 := (lg_cmp_le _ _).mp c31
            have c31 : (exl S F mu ml p1 (k - 1)).toInt ≤ 0 := (Int64.le_iff_toInt_le).mp c31
            refine lv_iinc (v := nI (k + 1)) (lv' := [(2, .int (nI (k + 1))), (0, .ref x), (1, .int p1)]) hx hb dX0_meetingRow_36 hl (k := 0) rfl ((nI_succ _).symm) (by decide) rfl (fun ls hl => ?_)
            refine lv_goto (tgt := 2) hx hb dX0_meetingRow_39 (by decide) ?_
            exact ih (k + 1) ls (by omega) (by omega) (by omega) (ext_up ha (fun q => by have := q.1; have := q.2; omega)) (lv_sub hl [0, 1, 2] rfl)
          · -- not taken at 31
            have c31 := fun q9 => c31 ((lg_cmp_le _ _).mpr q9)
            have c31 : ¬ (exl S F mu ml p1 (k - 1)).toInt ≤ 0 := fun q9 => c31 ((Int64.le_iff_toInt_le).mpr q9)
            refine lv_iload_n hx hb dX0_meetingRow_34 rfl (lv_at hl 0 rfl) ?_
            exact W.iret (v := nI k) hx hb hr (fun t ht hW => ⟨nI k, rfl, Or.inl ⟨k, hk, by omega, rfl, ⟨by omega, by omega⟩, ha⟩, ht⟩) t_nil dX0_meetingRow_35
  refine lv_iconst (v := 1) hx hb dX0_meetingRow_0 (by decide) ?_
  refine lv_istore_n (lv' := [(2, .int 1), (0, .ref x), (1, .int p1)]) hx hb dX0_meetingRow_1 rfl hl (by decide) rfl (fun ls hl => ?_)
  exact L2 (n + 2) 1 ls (by omega) (by decide) (by omega) (fun j h1 h2 => absurd h1 (by omega)) (lv_sub hl [0, 1, 2] rfl)
set_option maxHeartbeats 4000000 in
set_option maxRecDepth 100000 in
theorem c_X0_firstRowOfGreatestForce (l : Launch) (dC : Nat → ClassId) (dI : Nat → Nat → Nat) (x a1 a2 a3 a4 : Nat) (cI : ClassId) (S F X Y : Nat → Int32) (n : Nat) (ar sl : Int32) (mu ml : Int64) (ck : Int32) (ic : Nat) (ds js ps ss : Int64) (tc : Nat) (hn : n ≤ 40) (hn0 : 0 < n) : Met l yX0_firstRowOfGreatestForce wsX0_firstRowOfGreatestForce ({ frames := 0, cells := 0, slots := 0, locals := 0 }) (va_Pc [.ref x] (fun U => va_P (dC, dI) vwCl (wX x a1 a2 a3 a4 cI S F X Y n ar sl mu ml ck ic ds js ps ss tc) U.heap ∧ va_K (dC, dI) vwCl [(cI, .int)] U)) (vp_Si (fun r => r = nI (pk F n))) 0 0 (fun _ => False) := by
  refine Met.ofW (cc := cX0_firstRowOfGreatestForce) (maxL := 3) (ret := (some .int)) (by decide) rfl ?_
  intro p e s m args below meth c s₁ B hml hv
  obtain ⟨rfl, hP, hK⟩ := hv
  have hx := B.exec
  have hb := B.bytes
  have hr := B.returns
  have hts := atoms_spec (ws := wsX0_firstRowOfGreatestForce) B.pre
  have hown : s.vm.findClass RX0 = some m.cls := findClass_of_methodNamed B.named
  have hlocks := B.notSynchronized
  have hinX0 : ∀ w ∈ wsX00, w ∈ wsX0_firstRowOfGreatestForce := fun w h => List.mem_cons_of_mem _ (inX0 w h)
  have f34 := hts _ (List.mem_cons_of_mem _ wl_X0_34)
  have f13 := hts _ (List.mem_cons_of_mem _ wl_X0_13)
  have hl := lv_entry ([.ref x]) (n := 3) (Nat.le_of_ble_eq_true rfl)
  rw [lg_entry_eq]
  generalize (lg_sl ([.ref x]) ++ List.replicate (3 - (lg_sl ([.ref x])).length) Slot.unset).toArray = ls at hl ⊢
  have hl : lv_has ls 3 [(0, .ref x)] := hl
  have L4 : ∀ (f k : Nat) (ls : Array Slot), n + 1 ≤ k + f → 1 ≤ k → k ≤ n → lv_has ls 3 [(2, .int (nI k)), (1, .int (nI (pk F k))), (0, .ref x)] → W p l e (headSpec wsX0_firstRowOfGreatestForce ({ frames := 0, cells := 0, slots := 0, locals := 0 })).room s m ([.ref x] : List Value).toArray below meth c s.heap [] 0 0 (MQ below (vp_Si (fun r => r = nI (pk F n))) ([.ref x] : List Value).toArray s 0 0 (fun _ => False)) (F0 m 4 ls []) := by
    intro f
    induction f with
    | zero => intro k ls hm h1 h2 hl; exact absurd hm (by omega)
    | succ f ih =>
      intro k ls hm h1 h2 hl
      have hpk := pkf_lt F h1
      refine lv_iload_n hx hb dX0_firstRowOfGreatestForce_4 rfl (lv_at hl 0 rfl) ?_
      refine lv_aload_n hx hb dX0_firstRowOfGreatestForce_5 rfl (lv_at hl 2 rfl) ?_
      refine va_get (D := (dC, dI)) (ci := 0) (v := .int (nI n)) (C := RX0) (T := TX0) (N := 16) hx hb hts hinX0 hown hK hP 0 rfl rfl 2 (by decide) f34 (fun _ h9 => h9) rfl dX0_firstRowOfGreatestForce_6 ?_
      refine lv_icmp_ge (tgt := 35) hx hb dX0_firstRowOfGreatestForce_9 (by decide) (fun c9 => ?_) (fun c9 => ?_)
      · -- taken at 9
        have c9 : n ≤ k := (nI_leI (a := n) (b := k) (by omega) (by omega)).mp c9
        refine lv_iload_n hx hb dX0_firstRowOfGreatestForce_35 rfl (lv_at hl 1 rfl) ?_
        exact W.iret (v := nI (pk F k)) hx hb hr (fun t ht hW => ⟨nI (pk F k), rfl, by rw [show n = k by omega], ht⟩) t_nil dX0_firstRowOfGreatestForce_36
      · -- not taken at 9
        have c9 : ¬ n ≤ k := fun q9 => c9 ((nI_leI (a := n) (b := k) (by omega) (by omega)).mpr q9)
        refine lv_aload_n hx hb dX0_firstRowOfGreatestForce_12 rfl (lv_at hl 2 rfl) ?_
        refine va_get (D := (dC, dI)) (ci := 0) (v := .ref a2) (C := RX0) (T := TX0) (N := 16) hx hb hts hinX0 hown hK hP 0 rfl rfl 1 (by decide) f13 (fun _ h9 => h9) rfl dX0_firstRowOfGreatestForce_13 ?_
        refine lv_iload_n hx hb dX0_firstRowOfGreatestForce_16 rfl (lv_at hl 0 rfl) ?_
        refine va_iald (D := (dC, dI)) hx hb hK hP 2 0 rfl rfl (vp_in_nI (show k < 40 by omega) (by decide)) dX0_firstRowOfGreatestForce_17 ?_
        refine W.eq (congrArg (fun z => F0 m 18 ls (.int z :: [])) (congrArg F (nI_clamp (show k < 2 ^ 31 by omega)))) ?_
        refine lv_aload_n hx hb dX0_firstRowOfGreatestForce_18 rfl (lv_at hl 2 rfl) ?_
        refine va_get (D := (dC, dI)) (ci := 0) (v := .ref a2) (C := RX0) (T := TX0) (N := 16) hx hb hts hinX0 hown hK hP 0 rfl rfl 1 (by decide) f13 (fun _ h9 => h9) rfl dX0_firstRowOfGreatestForce_19 ?_
        refine lv_iload_n hx hb dX0_firstRowOfGreatestForce_22 rfl (lv_at hl 1 rfl) ?_
        refine va_iald (D := (dC, dI)) hx hb hK hP 2 0 rfl rfl (vp_in_nI (show pk F k < 40 by omega) (by decide)) dX0_firstRowOfGreatestForce_23 ?_
        refine W.eq (congrArg (fun z => F0 m 24 ls (.int z :: [.int (F k)])) (congrArg F (nI_clamp (show pk F k < 2 ^ 31 by omega)))) ?_
        refine lv_icmp_le (tgt := 29) hx hb dX0_firstRowOfGreatestForce_24 (by decide) (fun c24 => ?_) (fun c24 => ?_)
        · -- taken at 24
          have c24 : (F k).toInt ≤ (F (pk F k)).toInt := (Int32.le_iff_toInt_le).mp c24
          refine lv_iinc (v := nI (k + 1)) (lv' := [(2, .int (nI (k + 1))), (1, .int (nI (pk F k))), (0, .ref x)]) hx hb dX0_firstRowOfGreatestForce_29 hl (k := 0) rfl ((nI_succ _).symm) (by decide) rfl (fun ls hl => ?_)
          refine lv_goto (tgt := 4) hx hb dX0_firstRowOfGreatestForce_32 (by decide) ?_
          exact ih (k + 1) ls (by omega) (by omega) (by omega) (by rw [pkf_f F k (by omega)]; exact (lv_sub hl [0, 1, 2] rfl))
        · -- not taken at 24
          have c24 : ¬ (F k).toInt ≤ (F (pk F k)).toInt := fun q9 => c24 ((Int32.le_iff_toInt_le).mpr q9)
          refine lv_iload_n hx hb dX0_firstRowOfGreatestForce_27 rfl (lv_at hl 0 rfl) ?_
          refine lv_istore_n (lv' := [(1, .int (nI k)), (2, .int (nI k)), (0, .ref x)]) hx hb dX0_firstRowOfGreatestForce_28 rfl hl (by decide) rfl (fun ls hl => ?_)
          refine lv_iinc (v := nI (k + 1)) (lv' := [(2, .int (nI (k + 1))), (1, .int (nI k)), (0, .ref x)]) hx hb dX0_firstRowOfGreatestForce_29 hl (k := 1) rfl ((nI_succ _).symm) (by decide) rfl (fun ls hl => ?_)
          refine lv_goto (tgt := 4) hx hb dX0_firstRowOfGreatestForce_32 (by decide) ?_
          exact ih (k + 1) ls (by omega) (by omega) (by omega) (by rw [pkf_t F k (by omega)]; exact (lv_sub hl [0, 1, 2] rfl))
  refine lv_iconst (v := 0) hx hb dX0_firstRowOfGreatestForce_0 (by decide) ?_
  refine W.eq (congrArg (fun z => F0 m 1 ls (.int z :: [])) (pkf_1 F)) ?_
  refine lv_istore_n (lv' := [(1, .int (nI (pk F 1))), (0, .ref x)]) hx hb dX0_firstRowOfGreatestForce_1 rfl hl (by decide) rfl (fun ls hl => ?_)
  refine lv_iconst (v := 1) hx hb dX0_firstRowOfGreatestForce_2 (by decide) ?_
  refine lv_istore_n (lv' := [(2, .int 1), (1, .int (nI (pk F 1))), (0, .ref x)]) hx hb dX0_firstRowOfGreatestForce_3 rfl hl (by decide) rfl (fun ls hl => ?_)
  exact L4 (n + 1) 1 ls (by omega) (by decide) (by omega) (lv_sub hl [0, 1, 2] rfl)
set_option maxHeartbeats 4000000 in
set_option maxRecDepth 100000 in
theorem c_X0_fallsBelowHalfBehind (l : Launch) (dC : Nat → ClassId) (dI : Nat → Nat → Nat) (x a1 a2 a3 a4 : Nat) (cI : ClassId) (S F X Y : Nat → Int32) (n : Nat) (ar sl : Int32) (mu ml : Int64) (ck : Int32) (ic : Nat) (ds js ps ss : Int64) (tc : Nat) (q : Nat) (hn : n ≤ 40) (hq : q < n) (hF : ∀ j, j < n → 0 ≤ (F j).toInt ∧ (F j).toInt ≤ 1000000) : Met l yX0_fallsBelowHalfBehind wsX0_fallsBelowHalfBehind ({ frames := 0, cells := 0, slots := 0, locals := 0 }) (va_Pc [.ref x, .int (nI q)] (fun U => va_P (dC, dI) vwCl (wX x a1 a2 a3 a4 cI S F X Y n ar sl mu ml ck ic ds js ps ss tc) U.heap ∧ va_K (dC, dI) vwCl [(cI, .int)] U)) (vp_Si (fun r => (r = 1 ∧ hfb F n q) ∨ (r = 0 ∧ ¬ hfb F n q))) 0 0 (fun _ => False) := by
  refine Met.ofW (cc := cX0_fallsBelowHalfBehind) (maxL := 3) (ret := (some .boolean)) (by decide) rfl ?_
  intro p e s m args below meth c s₁ B hml hv
  obtain ⟨rfl, hP, hK⟩ := hv
  have hx := B.exec
  have hb := B.bytes
  have hr := B.returns
  have hts := atoms_spec (ws := wsX0_fallsBelowHalfBehind) B.pre
  have hown : s.vm.findClass RX0 = some m.cls := findClass_of_methodNamed B.named
  have hlocks := B.notSynchronized
  have hinX0 : ∀ w ∈ wsX00, w ∈ wsX0_fallsBelowHalfBehind := fun w h => List.mem_cons_of_mem _ (inX0 w h)
  have f34 := hts _ (List.mem_cons_of_mem _ wl_X0_34)
  have f13 := hts _ (List.mem_cons_of_mem _ wl_X0_13)
  have hl := lv_entry ([.ref x, .int (nI q)]) (n := 3) (Nat.le_of_ble_eq_true rfl)
  rw [lg_entry_eq]
  generalize (lg_sl ([.ref x, .int (nI q)]) ++ List.replicate (3 - (lg_sl ([.ref x, .int (nI q)])).length) Slot.unset).toArray = ls at hl ⊢
  have hl : lv_has ls 3 [(0, .ref x), (1, .int (nI q))] := hl
  have L4 : ∀ (f : Nat) (k : Nat) (ls : Array Slot), n + 1 ≤ k + f → (q < k) → (k ≤ n) → (∀ j, q < j → j < k → ¬ (F j).toInt * 2 < (F q).toInt) → lv_has ls 3 [(2, .int (nI k)), (0, .ref x), (1, .int (nI q))] → W p l e (headSpec wsX0_fallsBelowHalfBehind ({ frames := 0, cells := 0, slots := 0, locals := 0 })).room s m ([.ref x, .int (nI q)] : List Value).toArray below meth c s.heap [] 0 0 (MQ below (vp_Si (fun r => (r = 1 ∧ hfb F n q) ∨ (r = 0 ∧ ¬ hfb F n q))) ([.ref x, .int (nI q)] : List Value).toArray s 0 0 (fun _ => False)) (F0 m 4 ls []) := by
    intro f
    induction f with
    | zero => intro k ls hm hk hk2 ha hl; exact absurd hm (by omega)
    | succ f ih =>
      intro k ls hm hk hk2 ha hl
      refine lv_iload_n hx hb dX0_fallsBelowHalfBehind_4 rfl (lv_at hl 0 rfl) ?_
      refine lv_aload_n hx hb dX0_fallsBelowHalfBehind_5 rfl (lv_at hl 1 rfl) ?_
      refine va_get (D := (dC, dI)) (ci := 0) (v := .int (nI n)) (C := RX0) (T := TX0) (N := 16) hx hb hts hinX0 hown hK hP 0 rfl rfl 2 (by decide) f34 (fun _ h9 => h9) rfl dX0_fallsBelowHalfBehind_6 ?_
      refine lv_icmp_ge (tgt := 37) hx hb dX0_fallsBelowHalfBehind_9 (by decide) (fun c9 => ?_) (fun c9 => ?_)
      · -- taken at 9
        have c9 : n ≤ k := (nI_leI (a := n) (b := k) (by omega) (by omega)).mp c9
        refine lv_iconst (v := 0) hx hb dX0_fallsBelowHalfBehind_37 (by decide) ?_
        exact W.zret (v := 0) hx hb hr rfl (fun t ht hW => ⟨0, rfl, Or.inr ⟨rfl, fun ⟨j, h1, h2, h3⟩ => ha j h1 (by omega) h3⟩, ht⟩) t_nil dX0_fallsBelowHalfBehind_38
      · -- not taken at 9
        have c9 : ¬ n ≤ k := fun q9 => c9 ((nI_leI (a := n) (b := k) (by omega) (by omega)).mpr q9)
        refine lv_aload_n hx hb dX0_fallsBelowHalfBehind_12 rfl (lv_at hl 1 rfl) ?_
        refine va_get (D := (dC, dI)) (ci := 0) (v := .ref a2) (C := RX0) (T := TX0) (N := 16) hx hb hts hinX0 hown hK hP 0 rfl rfl 1 (by decide) f13 (fun _ h9 => h9) rfl dX0_fallsBelowHalfBehind_13 ?_
        refine lv_iload_n hx hb dX0_fallsBelowHalfBehind_16 rfl (lv_at hl 0 rfl) ?_
        refine va_iald (D := (dC, dI)) hx hb hK hP 2 0 rfl rfl (vp_in_nI (show k < 40 by omega) (by decide)) dX0_fallsBelowHalfBehind_17 ?_
        refine W.eq (congrArg (fun z => F0 m 18 ls (.int z :: [])) (congrArg F (nI_clamp (show k < 2 ^ 31 by omega)))) ?_
        refine lv_iconst (v := 2) hx hb dX0_fallsBelowHalfBehind_18 (by decide) ?_
        refine lv_imul hx hb dX0_fallsBelowHalfBehind_19 ?_
        refine lv_aload_n hx hb dX0_fallsBelowHalfBehind_20 rfl (lv_at hl 1 rfl) ?_
        refine va_get (D := (dC, dI)) (ci := 0) (v := .ref a2) (C := RX0) (T := TX0) (N := 16) hx hb hts hinX0 hown hK hP 0 rfl rfl 1 (by decide) f13 (fun _ h9 => h9) rfl dX0_fallsBelowHalfBehind_21 ?_
        refine lv_iload_n hx hb dX0_fallsBelowHalfBehind_24 rfl (lv_at hl 2 rfl) ?_
        refine va_iald (D := (dC, dI)) hx hb hK hP 2 0 rfl rfl (vp_in_nI (show q < 40 by omega) (by decide)) dX0_fallsBelowHalfBehind_25 ?_
        refine W.eq (congrArg (fun z => F0 m 26 ls (.int z :: [.int ((F k) * 2)])) (congrArg F (nI_clamp (show q < 2 ^ 31 by omega)))) ?_
        refine lv_icmp_ge (tgt := 31) hx hb dX0_fallsBelowHalfBehind_26 (by decide) (fun c26 => ?_) (fun c26 => ?_)
        · -- taken at 26
          have c26 : (F q).toInt ≤ ((F k) * 2).toInt := (Int32.le_iff_toInt_le).mp c26
          refine lv_iinc (v := nI (k + 1)) (lv' := [(2, .int (nI (k + 1))), (0, .ref x), (1, .int (nI q))]) hx hb dX0_fallsBelowHalfBehind_31 hl (k := 0) rfl ((nI_succ _).symm) (by decide) rfl (fun ls hl => ?_)
          refine lv_goto (tgt := 4) hx hb dX0_fallsBelowHalfBehind_34 (by decide) ?_
          exact ih (k + 1) ls (by omega) (by omega) (by omega) (ext_q ha (by have e9 := i32_x2 (hF k (by omega)).1 (hF k (by omega)).2; omega)) (lv_sub hl [0, 1, 2] rfl)
        · -- not taken at 26
          have c26 : ¬ (F q).toInt ≤ ((F k) * 2).toInt := fun q9 => c26 ((Int32.le_iff_toInt_le).mpr q9)
          refine lv_iconst (v := 1) hx hb dX0_fallsBelowHalfBehind_29 (by decide) ?_
          exact W.zret (v := 1) hx hb hr rfl (fun t ht hW => ⟨1, rfl, Or.inl ⟨rfl, k, hk, by omega, by have e9 := i32_x2 (hF k (by omega)).1 (hF k (by omega)).2; omega⟩, ht⟩) t_nil dX0_fallsBelowHalfBehind_30
  refine lv_iload_n hx hb dX0_fallsBelowHalfBehind_0 rfl (lv_at hl 1 rfl) ?_
  refine lv_iconst (v := 1) hx hb dX0_fallsBelowHalfBehind_1 (by decide) ?_
  refine lv_iadd hx hb dX0_fallsBelowHalfBehind_2 ?_
  refine W.eq (congrArg (fun z => F0 m 3 ls (.int z :: [])) (nI_1 q)) ?_
  refine lv_istore_n (lv' := [(2, .int (nI (q + 1))), (0, .ref x), (1, .int (nI q))]) hx hb dX0_fallsBelowHalfBehind_3 rfl hl (by decide) rfl (fun ls hl => ?_)
  exact L4 (n + 1) (q + 1) ls (by omega) (by omega) (by omega) (fun j h1 h2 => absurd h2 (by omega)) (lv_sub hl [0, 1, 2] rfl)
set_option maxHeartbeats 4000000 in
set_option maxRecDepth 100000 in
theorem c_X0_firstTableRowFrom (l : Launch) (dC : Nat → ClassId) (dI : Nat → Nat → Nat) (x a1 a2 a3 a4 : Nat) (cI : ClassId) (S F X Y : Nat → Int32) (n : Nat) (ar sl : Int32) (mu ml : Int64) (ck : Int32) (ic : Nat) (ds js ps ss : Int64) (tc : Nat) (p1 : Int32) (htc : tc ≤ 8) : Met l yX0_firstTableRowFrom wsX0_firstTableRowFrom ({ frames := 0, cells := 0, slots := 0, locals := 0 }) (va_Pc [.ref x, .int p1] (fun U => va_P (dC, dI) vwCl (wX x a1 a2 a3 a4 cI S F X Y n ar sl mu ml ck ic ds js ps ss tc) U.heap ∧ va_K (dC, dI) vwCl [(cI, .int)] U)) (vp_Si (fun r => (∃ k, k < tc ∧ r = nI k ∧ (∀ j, j < k → (X j).toInt < p1.toInt) ∧ p1.toInt ≤ (X k).toInt) ∨ (r = -1 ∧ ∀ j, j < tc → (X j).toInt < p1.toInt))) 0 0 (fun _ => False) := by
  refine Met.ofW (cc := cX0_firstTableRowFrom) (maxL := 3) (ret := (some .int)) (by decide) rfl ?_
  intro p e s m args below meth c s₁ B hml hv
  obtain ⟨rfl, hP, hK⟩ := hv
  have hx := B.exec
  have hb := B.bytes
  have hr := B.returns
  have hts := atoms_spec (ws := wsX0_firstTableRowFrom) B.pre
  have hown : s.vm.findClass RX0 = some m.cls := findClass_of_methodNamed B.named
  have hlocks := B.notSynchronized
  have hinX0 : ∀ w ∈ wsX00, w ∈ wsX0_firstTableRowFrom := fun w h => List.mem_cons_of_mem _ (inX0 w h)
  have f135 := hts _ (List.mem_cons_of_mem _ wl_X0_135)
  have f16 := hts _ (List.mem_cons_of_mem _ wl_X0_16)
  have hl := lv_entry ([.ref x, .int p1]) (n := 3) (Nat.le_of_ble_eq_true rfl)
  rw [lg_entry_eq]
  generalize (lg_sl ([.ref x, .int p1]) ++ List.replicate (3 - (lg_sl ([.ref x, .int p1])).length) Slot.unset).toArray = ls at hl ⊢
  have hl : lv_has ls 3 [(0, .ref x), (1, .int p1)] := hl
  have L2 : ∀ (f : Nat) (k : Nat) (ls : Array Slot), tc + 1 ≤ k + f → (k ≤ tc) → (∀ j, j < k → (X j).toInt < p1.toInt) → lv_has ls 3 [(2, .int (nI k)), (0, .ref x), (1, .int p1)] → W p l e (headSpec wsX0_firstTableRowFrom ({ frames := 0, cells := 0, slots := 0, locals := 0 })).room s m ([.ref x, .int p1] : List Value).toArray below meth c s.heap [] 0 0 (MQ below (vp_Si (fun r => (∃ k, k < tc ∧ r = nI k ∧ (∀ j, j < k → (X j).toInt < p1.toInt) ∧ p1.toInt ≤ (X k).toInt) ∨ (r = -1 ∧ ∀ j, j < tc → (X j).toInt < p1.toInt))) ([.ref x, .int p1] : List Value).toArray s 0 0 (fun _ => False)) (F0 m 2 ls []) := by
    intro f
    induction f with
    | zero => intro k ls hm hk ha hl; exact absurd hm (by omega)
    | succ f ih =>
      intro k ls hm hk ha hl
      refine lv_iload_n hx hb dX0_firstTableRowFrom_2 rfl (lv_at hl 0 rfl) ?_
      refine lv_aload_n hx hb dX0_firstTableRowFrom_3 rfl (lv_at hl 1 rfl) ?_
      refine va_get (D := (dC, dI)) (ci := 0) (v := .int (nI tc)) (C := RX0) (T := TX0) (N := 16) hx hb hts hinX0 hown hK hP 0 rfl rfl 15 (by decide) f135 (fun _ h9 => h9) rfl dX0_firstTableRowFrom_4 ?_
      refine lv_icmp_ge (tgt := 28) hx hb dX0_firstTableRowFrom_7 (by decide) (fun c7 => ?_) (fun c7 => ?_)
      · -- taken at 7
        have c7 : tc ≤ k := (nI_leI (a := tc) (b := k) (by omega) (by omega)).mp c7
        refine lv_iconst (v := (-1)) hx hb dX0_firstTableRowFrom_28 (by decide) ?_
        exact W.iret (v := (-1)) hx hb hr (fun t ht hW => ⟨(-1), rfl, Or.inr ⟨rfl, fun j hj => ha j (by omega)⟩, ht⟩) t_nil dX0_firstTableRowFrom_29
      · -- not taken at 7
        have c7 : ¬ tc ≤ k := fun q9 => c7 ((nI_leI (a := tc) (b := k) (by omega) (by omega)).mpr q9)
        refine lv_aload_n hx hb dX0_firstTableRowFrom_10 rfl (lv_at hl 1 rfl) ?_
        refine va_get (D := (dC, dI)) (ci := 0) (v := .ref a3) (C := RX0) (T := TX0) (N := 16) hx hb hts hinX0 hown hK hP 0 rfl rfl 13 (by decide) f16 (fun _ h9 => h9) rfl dX0_firstTableRowFrom_11 ?_
        refine lv_iload_n hx hb dX0_firstTableRowFrom_14 rfl (lv_at hl 0 rfl) ?_
        refine va_iald (D := (dC, dI)) hx hb hK hP 3 0 rfl rfl (vp_in_nI (show k < 8 by omega) (by decide)) dX0_firstTableRowFrom_15 ?_
        refine W.eq (congrArg (fun z => F0 m 16 ls (.int z :: [])) (congrArg X (nI_clamp (show k < 2 ^ 31 by omega)))) ?_
        refine lv_iload_n hx hb dX0_firstTableRowFrom_16 rfl (lv_at hl 2 rfl) ?_
        refine lv_icmp_lt (tgt := 22) hx hb dX0_firstTableRowFrom_17 (by decide) (fun c17 => ?_) (fun c17 => ?_)
        · -- taken at 17
          have c17 : (X k).toInt < p1.toInt := (Int32.lt_iff_toInt_lt).mp c17
          refine lv_iinc (v := nI (k + 1)) (lv' := [(2, .int (nI (k + 1))), (0, .ref x), (1, .int p1)]) hx hb dX0_firstTableRowFrom_22 hl (k := 0) rfl ((nI_succ _).symm) (by decide) rfl (fun ls hl => ?_)
          refine lv_goto (tgt := 2) hx hb dX0_firstTableRowFrom_25 (by decide) ?_
          exact ih (k + 1) ls (by omega) (by omega) (lt_s ha c17) (lv_sub hl [0, 1, 2] rfl)
        · -- not taken at 17
          have c17 : ¬ (X k).toInt < p1.toInt := fun q9 => c17 ((Int32.lt_iff_toInt_lt).mpr q9)
          refine lv_iload_n hx hb dX0_firstTableRowFrom_20 rfl (lv_at hl 0 rfl) ?_
          exact W.iret (v := nI k) hx hb hr (fun t ht hW => ⟨nI k, rfl, Or.inl ⟨k, by omega, rfl, ha, by omega⟩, ht⟩) t_nil dX0_firstTableRowFrom_21
  refine lv_iconst (v := 0) hx hb dX0_firstTableRowFrom_0 (by decide) ?_
  refine lv_istore_n (lv' := [(2, .int 0), (0, .ref x), (1, .int p1)]) hx hb dX0_firstTableRowFrom_1 rfl hl (by decide) rfl (fun ls hl => ?_)
  exact L2 (tc + 1) 0 ls (by omega) (Nat.zero_le _) (fun j hj => absurd hj (Nat.not_lt_zero j)) (lv_sub hl [0, 1, 2] rfl)
