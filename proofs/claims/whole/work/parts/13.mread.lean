set_option maxHeartbeats 4000000 in
set_option maxRecDepth 100000 in
theorem c_X1_in (l : Launch) (x a b : Int32) (lo hi : Int) (hA : a.toInt = lo) (hB : b.toInt = hi) : Met l yX1_in wsX1_in ({ frames := 0, cells := 0, slots := 0, locals := 0 }) (va_Pc [.int x, .int a, .int b] (fun U => True)) (vp_Si (fun r => r = bI (lo ≤ x.toInt ∧ x.toInt ≤ hi))) 0 0 (fun _ => False) := by
  refine Met.ofW (cc := cX1_in) (maxL := 3) (ret := (some .boolean)) (by decide) rfl ?_
  intro p e s m args below meth c s₁ B hml hv
  obtain ⟨rfl, -⟩ := hv
  have hx := B.exec
  have hb := B.bytes
  have hr := B.returns
  have hts := atoms_spec (ws := wsX1_in) B.pre
  have hown : s.vm.findClass RX1 = some m.cls := findClass_of_methodNamed B.named
  have hlocks := B.notSynchronized
  have hl := lv_entry ([.int x, .int a, .int b]) (n := 3) (Nat.le_of_ble_eq_true rfl)
  rw [lg_entry_eq]
  generalize (lg_sl ([.int x, .int a, .int b]) ++ List.replicate (3 - (lg_sl ([.int x, .int a, .int b])).length) Slot.unset).toArray = ls at hl ⊢
  have hl : lv_has ls 3 [(0, .int x), (1, .int a), (2, .int b)] := hl
  refine lv_iload_n hx hb dX1_in_0 rfl (lv_at hl 0 rfl) ?_
  refine lv_iload_n hx hb dX1_in_1 rfl (lv_at hl 1 rfl) ?_
  refine lv_icmp_lt (tgt := 14) hx hb dX1_in_2 (by decide) (fun c2 => ?_) (fun c2 => ?_)
  · -- taken at 2
    have c2 : x.toInt < a.toInt := (Int32.lt_iff_toInt_lt).mp c2
    refine lv_iconst (v := 0) hx hb dX1_in_14 (by decide) ?_
    exact W.zret (v := 0) hx hb hr rfl (fun t ht hW => ⟨0, rfl, (bI_0 (by omega)).symm, ht⟩) t_nil dX1_in_15
  · -- not taken at 2
    have c2 : ¬ x.toInt < a.toInt := fun q9 => c2 ((Int32.lt_iff_toInt_lt).mpr q9)
    refine lv_iload_n hx hb dX1_in_5 rfl (lv_at hl 0 rfl) ?_
    refine lv_iload_n hx hb dX1_in_6 rfl (lv_at hl 2 rfl) ?_
    refine lv_icmp_gt (tgt := 14) hx hb dX1_in_7 (by decide) (fun c7 => ?_) (fun c7 => ?_)
    · -- taken at 7
      have c7 : b.toInt < x.toInt := (Int32.lt_iff_toInt_lt).mp c7
      refine lv_iconst (v := 0) hx hb dX1_in_14 (by decide) ?_
      exact W.zret (v := 0) hx hb hr rfl (fun t ht hW => ⟨0, rfl, (bI_0 (by omega)).symm, ht⟩) t_nil dX1_in_15
    · -- not taken at 7
      have c7 : ¬ b.toInt < x.toInt := fun q9 => c7 ((Int32.lt_iff_toInt_lt).mpr q9)
      refine lv_iconst (v := 1) hx hb dX1_in_10 (by decide) ?_
      refine lv_goto (tgt := 15) hx hb dX1_in_11 (by decide) ?_
      exact W.zret (v := 1) hx hb hr rfl (fun t ht hW => ⟨1, rfl, (bI_1 (by omega)).symm, ht⟩) t_nil dX1_in_15
set_option maxHeartbeats 4000000 in
set_option maxRecDepth 100000 in
theorem c_X1_in8 (l : Launch) (x a b : Int64) (lo hi : Int) (hA : a.toInt = lo) (hB : b.toInt = hi) : Met l yX1_in8 wsX1_in8 ({ frames := 0, cells := 0, slots := 0, locals := 0 }) (va_Pc [.long x, .long a, .long b] (fun U => True)) (vp_Si (fun r => r = bI (lo ≤ x.toInt ∧ x.toInt ≤ hi))) 0 0 (fun _ => False) := by
  refine Met.ofW (cc := cX1_in8) (maxL := 6) (ret := (some .boolean)) (by decide) rfl ?_
  intro p e s m args below meth c s₁ B hml hv
  obtain ⟨rfl, -⟩ := hv
  have hx := B.exec
  have hb := B.bytes
  have hr := B.returns
  have hts := atoms_spec (ws := wsX1_in8) B.pre
  have hown : s.vm.findClass RX1 = some m.cls := findClass_of_methodNamed B.named
  have hlocks := B.notSynchronized
  have hl := lv_entry ([.long x, .long a, .long b]) (n := 6) (Nat.le_of_ble_eq_true rfl)
  rw [lg_entry_eq]
  generalize (lg_sl ([.long x, .long a, .long b]) ++ List.replicate (6 - (lg_sl ([.long x, .long a, .long b])).length) Slot.unset).toArray = ls at hl ⊢
  have hl : lv_has ls 6 [(0, .long x), (2, .long a), (4, .long b)] := hl
  refine lv_lload_n hx hb dX1_in8_0 rfl (lv_at hl 0 rfl) ?_
  refine lv_lload_n hx hb dX1_in8_1 rfl (lv_at hl 1 rfl) ?_
  refine W.lcmp hx hb dX1_in8_2 ?_
  refine lv_if_lt (tgt := 17) hx hb dX1_in8_3 (by decide) (fun c3 => ?_) (fun c3 => ?_)
  · -- taken at 3
    have c3 := (lg_cmp_lt _ _).mp c3
    have c3 : x.toInt < a.toInt := (Int64.lt_iff_toInt_lt).mp c3
    refine lv_iconst (v := 0) hx hb dX1_in8_17 (by decide) ?_
    exact W.zret (v := 0) hx hb hr rfl (fun t ht hW => ⟨0, rfl, (bI_0 (by omega)).symm, ht⟩) t_nil dX1_in8_18
  · -- not taken at 3
    have c3 := fun q9 => c3 ((lg_cmp_lt _ _).mpr q9)
    have c3 : ¬ x.toInt < a.toInt := fun q9 => c3 ((Int64.lt_iff_toInt_lt).mpr q9)
    refine lv_lload_n hx hb dX1_in8_6 rfl (lv_at hl 0 rfl) ?_
    refine lv_lload hx hb dX1_in8_7 (lv_at hl 2 rfl) ?_
    refine W.lcmp hx hb dX1_in8_9 ?_
    refine lv_if_gt (tgt := 17) hx hb dX1_in8_10 (by decide) (fun c10 => ?_) (fun c10 => ?_)
    · -- taken at 10
      have c10 := (lg_cmp_gt _ _).mp c10
      have c10 : b.toInt < x.toInt := (Int64.lt_iff_toInt_lt).mp c10
      refine lv_iconst (v := 0) hx hb dX1_in8_17 (by decide) ?_
      exact W.zret (v := 0) hx hb hr rfl (fun t ht hW => ⟨0, rfl, (bI_0 (by omega)).symm, ht⟩) t_nil dX1_in8_18
    · -- not taken at 10
      have c10 := fun q9 => c10 ((lg_cmp_gt _ _).mpr q9)
      have c10 : ¬ b.toInt < x.toInt := fun q9 => c10 ((Int64.lt_iff_toInt_lt).mpr q9)
      refine lv_iconst (v := 1) hx hb dX1_in8_13 (by decide) ?_
      refine lv_goto (tgt := 18) hx hb dX1_in8_14 (by decide) ?_
      exact W.zret (v := 1) hx hb hr rfl (fun t ht hW => ⟨1, rfl, (bI_1 (by omega)).symm, ht⟩) t_nil dX1_in8_18
set_option maxHeartbeats 4000000 in
set_option maxRecDepth 100000 in
theorem c_X1_above (l : Launch) (dC : Nat → ClassId) (dI : Nat → Nat → Nat) (m9 b1 b2 b3 b4 b5 b6 : Nat) (cI : ClassId) (S F D J X Y : Nat → Int32) (th : Int32) (n : Nat) (ar sl hd : Int32) (hu hw : Int64) (im tc : Nat) (fa : Int32) (up dn : Int64) (p1 p2 : Int32) (k : Nat) (hk : p1.toInt = (k : Int)) (hk40 : k < 40) : Met l yX1_above wsX1_above ({ frames := 0, cells := 0, slots := 0, locals := 0 }) (va_Pc [.ref m9, .int p1, .int p2] (fun U => va_P (dC, dI) vwCl (wM m9 b1 b2 b3 b4 b5 b6 cI S F D J X Y th n ar sl hd hu hw im tc fa up dn) U.heap ∧ va_K (dC, dI) vwCl [(cI, .int)] U)) (vp_Sl (fun r => r = exm S F hu hw sl p2 k)) 0 0 (fun _ => False) := by
  refine Met.ofW (cc := cX1_above) (maxL := 3) (ret := (some .long)) (by decide) rfl ?_
  intro p e s m args below meth c s₁ B hml hv
  obtain ⟨rfl, hP, hK⟩ := hv
  have hx := B.exec
  have hb := B.bytes
  have hr := B.returns
  have hts := atoms_spec (ws := wsX1_above) B.pre
  have hown : s.vm.findClass RX1 = some m.cls := findClass_of_methodNamed B.named
  have hlocks := B.notSynchronized
  have hinX1 : ∀ w ∈ wsX10, w ∈ wsX1_above := fun w h => List.mem_cons_of_mem _ (inX1 w h)
  have f13 := hts _ (List.mem_cons_of_mem _ wl_X1_13)
  have f68 := hts _ (List.mem_cons_of_mem _ wl_X1_68)
  have f65 := hts _ (List.mem_cons_of_mem _ wl_X1_65)
  have f7 := hts _ (List.mem_cons_of_mem _ wl_X1_7)
  have f54 := hts _ (List.mem_cons_of_mem _ wl_X1_54)
  have hl := lv_entry ([.ref m9, .int p1, .int p2]) (n := 3) (Nat.le_of_ble_eq_true rfl)
  rw [lg_entry_eq]
  generalize (lg_sl ([.ref m9, .int p1, .int p2]) ++ List.replicate (3 - (lg_sl ([.ref m9, .int p1, .int p2])).length) Slot.unset).toArray = ls at hl ⊢
  have hl : lv_has ls 3 [(0, .ref m9), (1, .int p1), (2, .int p2)] := hl
  refine lv_aload_n hx hb dX1_above_0 rfl (lv_at hl 0 rfl) ?_
  refine va_get (D := (dC, dI)) (ci := 1) (v := .ref b2) (C := RX1) (T := TX1) (N := 18) hx hb hts hinX1 hown hK hP 0 rfl rfl 3 (by decide) f13 (fun _ h9 => h9) rfl dX1_above_1 ?_
  refine lv_iload_n hx hb dX1_above_4 rfl (lv_at hl 1 rfl) ?_
  refine va_iald (D := (dC, dI)) hx hb hK hP 2 0 rfl rfl (vp_in_iff.mpr ⟨by omega, by omega⟩) dX1_above_5 ?_
  refine W.eq (congrArg (fun z => F0 m 6 ls (.int z :: [])) (congrArg F (cl_of (j := k) (hk)))) ?_
  refine lv_i2l hx hb dX1_above_6 rfl ?_
  refine lv_aload_n hx hb dX1_above_7 rfl (lv_at hl 0 rfl) ?_
  refine va_get (D := (dC, dI)) (ci := 1) (v := .long hw) (C := RX1) (T := TX1) (N := 18) hx hb hts hinX1 hown hK hP 0 rfl rfl 8 (by decide) f68 (fun _ h9 => h9) rfl dX1_above_8 ?_
  refine lv_lmul hx hb dX1_above_11 ?_
  refine lv_aload_n hx hb dX1_above_12 rfl (lv_at hl 0 rfl) ?_
  refine va_get (D := (dC, dI)) (ci := 1) (v := .long hu) (C := RX1) (T := TX1) (N := 18) hx hb hts hinX1 hown hK hP 0 rfl rfl 7 (by decide) f65 (fun _ h9 => h9) rfl dX1_above_13 ?_
  refine lv_aload_n hx hb dX1_above_16 rfl (lv_at hl 0 rfl) ?_
  refine va_get (D := (dC, dI)) (ci := 1) (v := .ref b1) (C := RX1) (T := TX1) (N := 18) hx hb hts hinX1 hown hK hP 0 rfl rfl 2 (by decide) f7 (fun _ h9 => h9) rfl dX1_above_17 ?_
  refine lv_iload_n hx hb dX1_above_20 rfl (lv_at hl 1 rfl) ?_
  refine va_iald (D := (dC, dI)) hx hb hK hP 1 0 rfl rfl (vp_in_iff.mpr ⟨by omega, by omega⟩) dX1_above_21 ?_
  refine W.eq (congrArg (fun z => F0 m 22 ls (.int z :: [.long hu, .long (((F k).toInt64) * hw)])) (congrArg S (cl_of (j := k) (hk)))) ?_
  refine lv_aload_n hx hb dX1_above_22 rfl (lv_at hl 0 rfl) ?_
  refine va_get (D := (dC, dI)) (ci := 1) (v := .int sl) (C := RX1) (T := TX1) (N := 18) hx hb hts hinX1 hown hK hP 0 rfl rfl 5 (by decide) f54 (fun _ h9 => h9) rfl dX1_above_23 ?_
  refine lv_isub hx hb dX1_above_26 ?_
  refine lv_iload_n hx hb dX1_above_27 rfl (lv_at hl 2 rfl) ?_
  refine lv_isub hx hb dX1_above_28 ?_
  refine lv_i2l hx hb dX1_above_29 rfl ?_
  refine lv_lmul hx hb dX1_above_30 ?_
  refine lv_lsub hx hb dX1_above_31 ?_
  exact W.lret (v := (((F k).toInt64) * hw) - (hu * ((((S k) - sl) - p2).toInt64))) hx hb hr (fun t ht hW => ⟨(((F k).toInt64) * hw) - (hu * ((((S k) - sl) - p2).toInt64)), rfl, rfl, ht⟩) t_nil dX1_above_32
set_option maxHeartbeats 4000000 in
set_option maxRecDepth 100000 in
theorem c_X1_peakRow (l : Launch) (dC : Nat → ClassId) (dI : Nat → Nat → Nat) (m9 b1 b2 b3 b4 b5 b6 : Nat) (cI : ClassId) (S F D J X Y : Nat → Int32) (th : Int32) (n : Nat) (ar sl hd : Int32) (hu hw : Int64) (im tc : Nat) (fa : Int32) (up dn : Int64) (hn : n ≤ 40) (hn0 : 0 < n) : Met l yX1_peakRow wsX1_peakRow ({ frames := 0, cells := 0, slots := 0, locals := 0 }) (va_Pc [.ref m9] (fun U => va_P (dC, dI) vwCl (wM m9 b1 b2 b3 b4 b5 b6 cI S F D J X Y th n ar sl hd hu hw im tc fa up dn) U.heap ∧ va_K (dC, dI) vwCl [(cI, .int)] U)) (vp_Si (fun r => r = nI (pk F n))) 0 0 (fun _ => False) := by
  refine Met.ofW (cc := cX1_peakRow) (maxL := 3) (ret := (some .int)) (by decide) rfl ?_
  intro p e s m args below meth c s₁ B hml hv
  obtain ⟨rfl, hP, hK⟩ := hv
  have hx := B.exec
  have hb := B.bytes
  have hr := B.returns
  have hts := atoms_spec (ws := wsX1_peakRow) B.pre
  have hown : s.vm.findClass RX1 = some m.cls := findClass_of_methodNamed B.named
  have hlocks := B.notSynchronized
  have hinX1 : ∀ w ∈ wsX10, w ∈ wsX1_peakRow := fun w h => List.mem_cons_of_mem _ (inX1 w h)
  have f44 := hts _ (List.mem_cons_of_mem _ wl_X1_44)
  have f13 := hts _ (List.mem_cons_of_mem _ wl_X1_13)
  have hl := lv_entry ([.ref m9]) (n := 3) (Nat.le_of_ble_eq_true rfl)
  rw [lg_entry_eq]
  generalize (lg_sl ([.ref m9]) ++ List.replicate (3 - (lg_sl ([.ref m9])).length) Slot.unset).toArray = ls at hl ⊢
  have hl : lv_has ls 3 [(0, .ref m9)] := hl
  have L4 : ∀ (f k : Nat) (ls : Array Slot), n + 1 ≤ k + f → 1 ≤ k → k ≤ n → lv_has ls 3 [(2, .int (nI k)), (1, .int (nI (pk F k))), (0, .ref m9)] → W p l e (headSpec wsX1_peakRow ({ frames := 0, cells := 0, slots := 0, locals := 0 })).room s m ([.ref m9] : List Value).toArray below meth c s.heap [] 0 0 (MQ below (vp_Si (fun r => r = nI (pk F n))) ([.ref m9] : List Value).toArray s 0 0 (fun _ => False)) (F0 m 4 ls []) := by
    intro f
    induction f with
    | zero => intro k ls hm h1 h2 hl; exact absurd hm (by omega)
    | succ f ih =>
      intro k ls hm h1 h2 hl
      have hpk := pkf_lt F h1
      refine lv_iload_n hx hb dX1_peakRow_4 rfl (lv_at hl 0 rfl) ?_
      refine lv_aload_n hx hb dX1_peakRow_5 rfl (lv_at hl 2 rfl) ?_
      refine va_get (D := (dC, dI)) (ci := 1) (v := .int (nI n)) (C := RX1) (T := TX1) (N := 18) hx hb hts hinX1 hown hK hP 0 rfl rfl 1 (by decide) f44 (fun _ h9 => h9) rfl dX1_peakRow_6 ?_
      refine lv_icmp_ge (tgt := 35) hx hb dX1_peakRow_9 (by decide) (fun c9 => ?_) (fun c9 => ?_)
      · -- taken at 9
        have c9 : n ≤ k := (nI_leI (a := n) (b := k) (by omega) (by omega)).mp c9
        refine lv_iload_n hx hb dX1_peakRow_35 rfl (lv_at hl 1 rfl) ?_
        exact W.iret (v := nI (pk F k)) hx hb hr (fun t ht hW => ⟨nI (pk F k), rfl, by rw [show n = k by omega], ht⟩) t_nil dX1_peakRow_36
      · -- not taken at 9
        have c9 : ¬ n ≤ k := fun q9 => c9 ((nI_leI (a := n) (b := k) (by omega) (by omega)).mpr q9)
        refine lv_aload_n hx hb dX1_peakRow_12 rfl (lv_at hl 2 rfl) ?_
        refine va_get (D := (dC, dI)) (ci := 1) (v := .ref b2) (C := RX1) (T := TX1) (N := 18) hx hb hts hinX1 hown hK hP 0 rfl rfl 3 (by decide) f13 (fun _ h9 => h9) rfl dX1_peakRow_13 ?_
        refine lv_iload_n hx hb dX1_peakRow_16 rfl (lv_at hl 0 rfl) ?_
        refine va_iald (D := (dC, dI)) hx hb hK hP 2 0 rfl rfl (vp_in_nI (show k < 40 by omega) (by decide)) dX1_peakRow_17 ?_
        refine W.eq (congrArg (fun z => F0 m 18 ls (.int z :: [])) (congrArg F (nI_clamp (show k < 2 ^ 31 by omega)))) ?_
        refine lv_aload_n hx hb dX1_peakRow_18 rfl (lv_at hl 2 rfl) ?_
        refine va_get (D := (dC, dI)) (ci := 1) (v := .ref b2) (C := RX1) (T := TX1) (N := 18) hx hb hts hinX1 hown hK hP 0 rfl rfl 3 (by decide) f13 (fun _ h9 => h9) rfl dX1_peakRow_19 ?_
        refine lv_iload_n hx hb dX1_peakRow_22 rfl (lv_at hl 1 rfl) ?_
        refine va_iald (D := (dC, dI)) hx hb hK hP 2 0 rfl rfl (vp_in_nI (show pk F k < 40 by omega) (by decide)) dX1_peakRow_23 ?_
        refine W.eq (congrArg (fun z => F0 m 24 ls (.int z :: [.int (F k)])) (congrArg F (nI_clamp (show pk F k < 2 ^ 31 by omega)))) ?_
        refine lv_icmp_le (tgt := 29) hx hb dX1_peakRow_24 (by decide) (fun c24 => ?_) (fun c24 => ?_)
        · -- taken at 24
          have c24 : (F k).toInt ≤ (F (pk F k)).toInt := (Int32.le_iff_toInt_le).mp c24
          refine lv_iinc (v := nI (k + 1)) (lv' := [(2, .int (nI (k + 1))), (1, .int (nI (pk F k))), (0, .ref m9)]) hx hb dX1_peakRow_29 hl (k := 0) rfl ((nI_succ _).symm) (by decide) rfl (fun ls hl => ?_)
          refine lv_goto (tgt := 4) hx hb dX1_peakRow_32 (by decide) ?_
          exact ih (k + 1) ls (by omega) (by omega) (by omega) (by rw [pkf_f F k (by omega)]; exact (lv_sub hl [0, 1, 2] rfl))
        · -- not taken at 24
          have c24 : ¬ (F k).toInt ≤ (F (pk F k)).toInt := fun q9 => c24 ((Int32.le_iff_toInt_le).mpr q9)
          refine lv_iload_n hx hb dX1_peakRow_27 rfl (lv_at hl 0 rfl) ?_
          refine lv_istore_n (lv' := [(1, .int (nI k)), (2, .int (nI k)), (0, .ref m9)]) hx hb dX1_peakRow_28 rfl hl (by decide) rfl (fun ls hl => ?_)
          refine lv_iinc (v := nI (k + 1)) (lv' := [(2, .int (nI (k + 1))), (1, .int (nI k)), (0, .ref m9)]) hx hb dX1_peakRow_29 hl (k := 1) rfl ((nI_succ _).symm) (by decide) rfl (fun ls hl => ?_)
          refine lv_goto (tgt := 4) hx hb dX1_peakRow_32 (by decide) ?_
          exact ih (k + 1) ls (by omega) (by omega) (by omega) (by rw [pkf_t F k (by omega)]; exact (lv_sub hl [0, 1, 2] rfl))
  refine lv_iconst (v := 0) hx hb dX1_peakRow_0 (by decide) ?_
  refine W.eq (congrArg (fun z => F0 m 1 ls (.int z :: [])) (pkf_1 F)) ?_
  refine lv_istore_n (lv' := [(1, .int (nI (pk F 1))), (0, .ref m9)]) hx hb dX1_peakRow_1 rfl hl (by decide) rfl (fun ls hl => ?_)
  refine lv_iconst (v := 1) hx hb dX1_peakRow_2 (by decide) ?_
  refine lv_istore_n (lv' := [(2, .int 1), (1, .int (nI (pk F 1))), (0, .ref m9)]) hx hb dX1_peakRow_3 rfl hl (by decide) rfl (fun ls hl => ?_)
  exact L4 (n + 1) 1 ls (by omega) (by decide) (by omega) (lv_sub hl [0, 1, 2] rfl)
set_option maxHeartbeats 4000000 in
set_option maxRecDepth 100000 in
theorem c_X1_rounded (l : Launch) (y1 y2 : Int64) (p3 : Int32) (h1 : -1000000000000 ≤ y1.toInt) (h2 : y1.toInt ≤ 1000000000000) (h3 : 1 ≤ y2.toInt) (h4 : y2.toInt ≤ 1000000000000) (h5 : 0 ≤ p3.toInt ∧ p3.toInt ≤ 2) : Met l yX1_rounded wsX1_rounded ({ frames := 0, cells := 0, slots := 0, locals := 0 }) (va_Pc [.long y1, .long y2, .int p3] (fun U => True)) (vp_Sl (fun r => r.toInt = rnd y1.toInt y2.toInt p3.toInt)) 0 0 (fun _ => False) := by
  refine Met.ofW (cc := cX1_rounded) (maxL := 10) (ret := (some .long)) (by decide) rfl ?_
  intro p e s m args below meth c s₁ B hml hv
  obtain ⟨rfl, -⟩ := hv
  have hx := B.exec
  have hb := B.bytes
  have hr := B.returns
  have hts := atoms_spec (ws := wsX1_rounded) B.pre
  have hown : s.vm.findClass RX1 = some m.cls := findClass_of_methodNamed B.named
  have hlocks := B.notSynchronized
  have k84 := hts _ (List.mem_cons_of_mem _ wl_X1_84)
  have hl := lv_entry ([.long y1, .long y2, .int p3]) (n := 10) (Nat.le_of_ble_eq_true rfl)
  rw [lg_entry_eq]
  generalize (lg_sl ([.long y1, .long y2, .int p3]) ++ List.replicate (10 - (lg_sl ([.long y1, .long y2, .int p3])).length) Slot.unset).toArray = ls at hl ⊢
  have hl : lv_has ls 10 [(0, .long y1), (2, .long y2), (4, .int p3)] := hl
  have J20 : ∀ (q : Int64) (ls : Array Slot), (q.toInt = y1.toInt / y2.toInt) → lv_has ls 10 [(5, .long q), (0, .long y1), (2, .long y2), (4, .int p3)] → W p l e (headSpec wsX1_rounded ({ frames := 0, cells := 0, slots := 0, locals := 0 })).room s m ([.long y1, .long y2, .int p3] : List Value).toArray below meth c s.heap [] 0 0 (MQ below (vp_Sl (fun r => r.toInt = rnd y1.toInt y2.toInt p3.toInt)) ([.long y1, .long y2, .int p3] : List Value).toArray s 0 0 (fun _ => False)) (F0 m 20 ls []) := by
    intro q ls hq hl
    refine lv_lload_n hx hb dX1_rounded_20 rfl (lv_at hl 1 rfl) ?_
    refine lv_lload hx hb dX1_rounded_21 (lv_at hl 0 rfl) ?_
    refine lv_lload_n hx hb dX1_rounded_23 rfl (lv_at hl 2 rfl) ?_
    refine lv_lmul hx hb dX1_rounded_24 ?_
    refine lv_lsub hx hb dX1_rounded_25 ?_
    refine lv_lstore (lv' := [(7, .long (y1 - (q * y2))), (5, .long q), (0, .long y1), (2, .long y2), (4, .int p3)]) hx hb dX1_rounded_26 hl (by decide) rfl (fun ls hl => ?_)
    obtain ⟨g1, g2, g3⟩ := rbr_tw h1 h2 h3 h4 hq
    obtain ⟨g4, g5⟩ := rbr_up h1 h2 h3 hq
    refine lv_iload hx hb dX1_rounded_28 (lv_at hl 4 rfl) ?_
    refine lv_if_ne (tgt := 52) hx hb dX1_rounded_30 (by decide) (fun c30 => ?_) (fun c30 => ?_)
    · -- taken at 30
      have c30 : ¬ p3.toInt = 0 := fun q9 => c30 ((Int32.toInt_inj.symm).mpr q9)
      refine lv_iload hx hb dX1_rounded_52 (lv_at hl 4 rfl) ?_
      refine lv_iconst (v := 1) hx hb dX1_rounded_54 (by decide) ?_
      refine lv_icmp_ne (tgt := 93) hx hb dX1_rounded_55 (by decide) (fun c55 => ?_) (fun c55 => ?_)
      · -- taken at 55
        have c55 : ¬ p3.toInt = 1 := fun q9 => c55 ((Int32.toInt_inj.symm).mpr q9)
        refine lv_iconst (v := 0) hx hb dX1_rounded_93 (by decide) ?_
        refine lv_istore (lv' := [(9, .int 0), (7, .long (y1 - (q * y2))), (5, .long q), (0, .long y1), (2, .long y2), (4, .int p3)]) hx hb dX1_rounded_94 hl (by decide) rfl (fun ls hl => ?_)
        refine lv_iload hx hb dX1_rounded_96 (lv_at hl 0 rfl) ?_
        refine lv_if_eq (tgt := 108) hx hb dX1_rounded_98 (by decide) (fun c98 => ?_) (fun c98 => ?_)
        · -- taken at 98
          refine lv_lload hx hb dX1_rounded_108 (lv_at hl 2 rfl) ?_
          exact W.lret (v := q) hx hb hr (fun t ht hW => ⟨q, rfl, by first | (rw [rnd_1 (by omega)]; exact hq) | (rw [rnd_2 (by omega) (by omega)]; exact hq), ht⟩) t_nil dX1_rounded_110
        · -- not taken at 98
          exact absurd c98 (by decide)
      · -- not taken at 55
        have c55 : p3.toInt = 1 := (Int32.toInt_inj.symm).mp c55
        refine lv_ldc2 (v := 2) hx hb hown k84 dX1_rounded_58 ?_
        refine lv_lload hx hb dX1_rounded_61 (lv_at hl 0 rfl) ?_
        refine lv_lmul hx hb dX1_rounded_63 ?_
        refine lv_lload_n hx hb dX1_rounded_64 rfl (lv_at hl 3 rfl) ?_
        refine W.lcmp hx hb dX1_rounded_65 ?_
        refine lv_if_gt (tgt := 89) hx hb dX1_rounded_66 (by decide) (fun c66 => ?_) (fun c66 => ?_)
        · -- taken at 66
          have c66 := (lg_cmp_gt _ _).mp c66
          have c66 : y2.toInt < (2 * (y1 - (q * y2))).toInt := (Int64.lt_iff_toInt_lt).mp c66
          refine lv_iconst (v := 1) hx hb dX1_rounded_89 (by decide) ?_
          refine lv_goto (tgt := 94) hx hb dX1_rounded_90 (by decide) ?_
          refine lv_istore (lv' := [(9, .int 1), (7, .long (y1 - (q * y2))), (5, .long q), (0, .long y1), (2, .long y2), (4, .int p3)]) hx hb dX1_rounded_94 hl (by decide) rfl (fun ls hl => ?_)
          refine lv_iload hx hb dX1_rounded_96 (lv_at hl 0 rfl) ?_
          refine lv_if_eq (tgt := 108) hx hb dX1_rounded_98 (by decide) (fun c98 => ?_) (fun c98 => ?_)
          · -- taken at 98
            exact absurd c98 (by decide)
          · -- not taken at 98
            refine lv_lload hx hb dX1_rounded_101 (lv_at hl 2 rfl) ?_
            refine lv_lconst (v := 1) hx hb dX1_rounded_103 (by decide) ?_
            refine lv_ladd hx hb dX1_rounded_104 ?_
            refine lv_goto (tgt := 110) hx hb dX1_rounded_105 (by decide) ?_
            exact W.lret (v := q + 1) hx hb hr (fun t ht hW => ⟨q + 1, rfl, by rw [rnd_3 (by omega) (by omega)]; exact g4, ht⟩) t_nil dX1_rounded_110
        · -- not taken at 66
          have c66 := fun q9 => c66 ((lg_cmp_gt _ _).mpr q9)
          have c66 : ¬ y2.toInt < (2 * (y1 - (q * y2))).toInt := fun q9 => c66 ((Int64.lt_iff_toInt_lt).mpr q9)
          refine lv_ldc2 (v := 2) hx hb hown k84 dX1_rounded_69 ?_
          refine lv_lload hx hb dX1_rounded_72 (lv_at hl 0 rfl) ?_
          refine lv_lmul hx hb dX1_rounded_74 ?_
          refine lv_lload_n hx hb dX1_rounded_75 rfl (lv_at hl 3 rfl) ?_
          refine W.lcmp hx hb dX1_rounded_76 ?_
          refine lv_if_ne (tgt := 93) hx hb dX1_rounded_77 (by decide) (fun c77 => ?_) (fun c77 => ?_)
          · -- taken at 77
            have c77 := fun q9 => c77 ((lg_cmp_eq _ _).mpr q9)
            have c77 : ¬ (2 * (y1 - (q * y2))).toInt = y2.toInt := fun q9 => c77 ((Int64.toInt_inj.symm).mpr q9)
            refine lv_iconst (v := 0) hx hb dX1_rounded_93 (by decide) ?_
            refine lv_istore (lv' := [(9, .int 0), (7, .long (y1 - (q * y2))), (5, .long q), (0, .long y1), (2, .long y2), (4, .int p3)]) hx hb dX1_rounded_94 hl (by decide) rfl (fun ls hl => ?_)
            refine lv_iload hx hb dX1_rounded_96 (lv_at hl 0 rfl) ?_
            refine lv_if_eq (tgt := 108) hx hb dX1_rounded_98 (by decide) (fun c98 => ?_) (fun c98 => ?_)
            · -- taken at 98
              refine lv_lload hx hb dX1_rounded_108 (lv_at hl 2 rfl) ?_
              exact W.lret (v := q) hx hb hr (fun t ht hW => ⟨q, rfl, by first | (rw [rnd_1 (by omega)]; exact hq) | (rw [rnd_2 (by omega) (by omega)]; exact hq), ht⟩) t_nil dX1_rounded_110
            · -- not taken at 98
              exact absurd c98 (by decide)
          · -- not taken at 77
            have c77 := (lg_cmp_eq _ _).mp c77
            have c77 : (2 * (y1 - (q * y2))).toInt = y2.toInt := (Int64.toInt_inj.symm).mp c77
            refine lv_lload hx hb dX1_rounded_80 (lv_at hl 1 rfl) ?_
            refine lv_lconst (v := 1) hx hb dX1_rounded_82 (by decide) ?_
            refine lv_land hx hb dX1_rounded_83 ?_
            refine lv_lconst (v := 1) hx hb dX1_rounded_84 (by decide) ?_
            refine W.lcmp hx hb dX1_rounded_85 ?_
            refine lv_if_ne (tgt := 93) hx hb dX1_rounded_86 (by decide) (fun c86 => ?_) (fun c86 => ?_)
            · -- taken at 86
              have c86 := fun q9 => c86 ((lg_cmp_eq _ _).mpr q9)
              have c86 : ¬ (q &&& 1).toInt = 1 := fun q9 => c86 ((Int64.toInt_inj.symm).mpr q9)
              refine lv_iconst (v := 0) hx hb dX1_rounded_93 (by decide) ?_
              refine lv_istore (lv' := [(9, .int 0), (7, .long (y1 - (q * y2))), (5, .long q), (0, .long y1), (2, .long y2), (4, .int p3)]) hx hb dX1_rounded_94 hl (by decide) rfl (fun ls hl => ?_)
              refine lv_iload hx hb dX1_rounded_96 (lv_at hl 0 rfl) ?_
              refine lv_if_eq (tgt := 108) hx hb dX1_rounded_98 (by decide) (fun c98 => ?_) (fun c98 => ?_)
              · -- taken at 98
                refine lv_lload hx hb dX1_rounded_108 (lv_at hl 2 rfl) ?_
                exact W.lret (v := q) hx hb hr (fun t ht hW => ⟨q, rfl, by first | (rw [rnd_1 (by omega)]; exact hq) | (rw [rnd_2 (by omega) (by omega)]; exact hq), ht⟩) t_nil dX1_rounded_110
              · -- not taken at 98
                exact absurd c98 (by decide)
            · -- not taken at 86
              have c86 := (lg_cmp_eq _ _).mp c86
              have c86 : (q &&& 1).toInt = 1 := (Int64.toInt_inj.symm).mp c86
              refine lv_iconst (v := 1) hx hb dX1_rounded_89 (by decide) ?_
              refine lv_goto (tgt := 94) hx hb dX1_rounded_90 (by decide) ?_
              refine lv_istore (lv' := [(9, .int 1), (7, .long (y1 - (q * y2))), (5, .long q), (0, .long y1), (2, .long y2), (4, .int p3)]) hx hb dX1_rounded_94 hl (by decide) rfl (fun ls hl => ?_)
              refine lv_iload hx hb dX1_rounded_96 (lv_at hl 0 rfl) ?_
              refine lv_if_eq (tgt := 108) hx hb dX1_rounded_98 (by decide) (fun c98 => ?_) (fun c98 => ?_)
              · -- taken at 98
                exact absurd c98 (by decide)
              · -- not taken at 98
                refine lv_lload hx hb dX1_rounded_101 (lv_at hl 2 rfl) ?_
                refine lv_lconst (v := 1) hx hb dX1_rounded_103 (by decide) ?_
                refine lv_ladd hx hb dX1_rounded_104 ?_
                refine lv_goto (tgt := 110) hx hb dX1_rounded_105 (by decide) ?_
                exact W.lret (v := q + 1) hx hb hr (fun t ht hW => ⟨q + 1, rfl, by rw [rnd_3 (by omega) (by omega)]; exact g4, ht⟩) t_nil dX1_rounded_110
    · -- not taken at 30
      have c30 : p3.toInt = 0 := (Int32.toInt_inj.symm).mp c30
      refine lv_ldc2 (v := 2) hx hb hown k84 dX1_rounded_33 ?_
      refine lv_lload hx hb dX1_rounded_36 (lv_at hl 0 rfl) ?_
      refine lv_lmul hx hb dX1_rounded_38 ?_
      refine lv_lload_n hx hb dX1_rounded_39 rfl (lv_at hl 3 rfl) ?_
      refine W.lcmp hx hb dX1_rounded_40 ?_
      refine lv_if_lt (tgt := 48) hx hb dX1_rounded_41 (by decide) (fun c41 => ?_) (fun c41 => ?_)
      · -- taken at 41
        have c41 := (lg_cmp_lt _ _).mp c41
        have c41 : (2 * (y1 - (q * y2))).toInt < y2.toInt := (Int64.lt_iff_toInt_lt).mp c41
        refine lv_iconst (v := 0) hx hb dX1_rounded_48 (by decide) ?_
        refine lv_goto (tgt := 94) hx hb dX1_rounded_49 (by decide) ?_
        refine lv_istore (lv' := [(9, .int 0), (7, .long (y1 - (q * y2))), (5, .long q), (0, .long y1), (2, .long y2), (4, .int p3)]) hx hb dX1_rounded_94 hl (by decide) rfl (fun ls hl => ?_)
        refine lv_iload hx hb dX1_rounded_96 (lv_at hl 0 rfl) ?_
        refine lv_if_eq (tgt := 108) hx hb dX1_rounded_98 (by decide) (fun c98 => ?_) (fun c98 => ?_)
        · -- taken at 98
          refine lv_lload hx hb dX1_rounded_108 (lv_at hl 2 rfl) ?_
          exact W.lret (v := q) hx hb hr (fun t ht hW => ⟨q, rfl, by first | (rw [rnd_1 (by omega)]; exact hq) | (rw [rnd_2 (by omega) (by omega)]; exact hq), ht⟩) t_nil dX1_rounded_110
        · -- not taken at 98
          exact absurd c98 (by decide)
      · -- not taken at 41
        have c41 := fun q9 => c41 ((lg_cmp_lt _ _).mpr q9)
        have c41 : ¬ (2 * (y1 - (q * y2))).toInt < y2.toInt := fun q9 => c41 ((Int64.lt_iff_toInt_lt).mpr q9)
        refine lv_iconst (v := 1) hx hb dX1_rounded_44 (by decide) ?_
        refine lv_goto (tgt := 94) hx hb dX1_rounded_45 (by decide) ?_
        refine lv_istore (lv' := [(9, .int 1), (7, .long (y1 - (q * y2))), (5, .long q), (0, .long y1), (2, .long y2), (4, .int p3)]) hx hb dX1_rounded_94 hl (by decide) rfl (fun ls hl => ?_)
        refine lv_iload hx hb dX1_rounded_96 (lv_at hl 0 rfl) ?_
        refine lv_if_eq (tgt := 108) hx hb dX1_rounded_98 (by decide) (fun c98 => ?_) (fun c98 => ?_)
        · -- taken at 98
          exact absurd c98 (by decide)
        · -- not taken at 98
          refine lv_lload hx hb dX1_rounded_101 (lv_at hl 2 rfl) ?_
          refine lv_lconst (v := 1) hx hb dX1_rounded_103 (by decide) ?_
          refine lv_ladd hx hb dX1_rounded_104 ?_
          refine lv_goto (tgt := 110) hx hb dX1_rounded_105 (by decide) ?_
          exact W.lret (v := q + 1) hx hb hr (fun t ht hW => ⟨q + 1, rfl, by rw [rnd_3 (by omega) (by omega)]; exact g4, ht⟩) t_nil dX1_rounded_110
  refine lv_lload_n hx hb dX1_rounded_0 rfl (lv_at hl 0 rfl) ?_
  refine lv_lload_n hx hb dX1_rounded_1 rfl (lv_at hl 1 rfl) ?_
  refine lv_ldiv hx hb dX1_rounded_2 (fun q => by rw [q] at h3; exact absurd h3 (by decide)) ?_
  refine lv_lstore (lv' := [(5, .long (y1 / y2)), (0, .long y1), (2, .long y2), (4, .int p3)]) hx hb dX1_rounded_3 hl (by decide) rfl (fun ls hl => ?_)
  obtain ⟨e1, e2, e3, e4, e5, e6⟩ := fl_d h1 h2 h3 h4
  have e7 := fl_t (U := y1.toInt) h3
  have e8 := fl_k (U := y1.toInt) h3
  refine lv_lload hx hb dX1_rounded_5 (lv_at hl 0 rfl) ?_
  refine lv_lload_n hx hb dX1_rounded_7 rfl (lv_at hl 2 rfl) ?_
  refine lv_lmul hx hb dX1_rounded_8 ?_
  refine lv_lload_n hx hb dX1_rounded_9 rfl (lv_at hl 1 rfl) ?_
  refine W.lcmp hx hb dX1_rounded_10 ?_
  refine lv_if_le (tgt := 20) hx hb dX1_rounded_11 (by decide) (fun c11 => ?_) (fun c11 => ?_)
  · -- taken at 11
    have c11 := (lg_cmp_le _ _).mp c11
    have c11 : ((y1 / y2) * y2).toInt ≤ y1.toInt := (Int64.le_iff_toInt_le).mp c11
    exact J20 (y1 / y2) ls (by omega) (lv_sub hl [0, 1, 2, 3] rfl)
  · -- not taken at 11
    have c11 := fun q9 => c11 ((lg_cmp_le _ _).mpr q9)
    have c11 : ¬ ((y1 / y2) * y2).toInt ≤ y1.toInt := fun q9 => c11 ((Int64.le_iff_toInt_le).mpr q9)
    refine lv_lload hx hb dX1_rounded_14 (lv_at hl 0 rfl) ?_
    refine lv_lconst (v := 1) hx hb dX1_rounded_16 (by decide) ?_
    refine lv_lsub hx hb dX1_rounded_17 ?_
    refine lv_lstore (lv' := [(5, .long ((y1 / y2) - 1)), (0, .long y1), (2, .long y2), (4, .int p3)]) hx hb dX1_rounded_18 hl (by decide) rfl (fun ls hl => ?_)
    exact J20 ((y1 / y2) - 1) ls (by omega) (lv_sub hl [0, 1, 2, 3] rfl)
set_option maxHeartbeats 4000000 in
set_option maxRecDepth 100000 in
theorem c_X1_thrown (l : Launch) (dC : Nat → ClassId) (dI : Nat → Nat → Nat) (m9 b1 b2 b3 b4 b5 b6 : Nat) (cI : ClassId) (S F D J X Y : Nat → Int32) (th : Int32) (n : Nat) (ar sl hd : Int32) (hu hw : Int64) (im tc : Nat) (fa : Int32) (up dn : Int64) : Met l yX1_thrown wsX1_thrown ({ frames := 0, cells := 0, slots := 0, locals := 0 }) (va_Pc [.ref m9] (fun U => va_P (dC, dI) vwCl (wM m9 b1 b2 b3 b4 b5 b6 cI S F D J X Y th n ar sl hd hu hw im tc fa up dn) U.heap ∧ va_K (dC, dI) vwCl [(cI, .int)] U)) (vp_Si (fun r => r = th)) 0 0 (fun _ => False) := by
  refine Met.ofW (cc := cX1_thrown) (maxL := 1) (ret := (some .int)) (by decide) rfl ?_
  intro p e s m args below meth c s₁ B hml hv
  obtain ⟨rfl, hP, hK⟩ := hv
  have hx := B.exec
  have hb := B.bytes
  have hr := B.returns
  have hts := atoms_spec (ws := wsX1_thrown) B.pre
  have hown : s.vm.findClass RX1 = some m.cls := findClass_of_methodNamed B.named
  have hlocks := B.notSynchronized
  have hinX1 : ∀ w ∈ wsX10, w ∈ wsX1_thrown := fun w h => List.mem_cons_of_mem _ (inX1 w h)
  have f28 := hts _ (List.mem_cons_of_mem _ wl_X1_28)
  have hl := lv_entry ([.ref m9]) (n := 1) (Nat.le_of_ble_eq_true rfl)
  rw [lg_entry_eq]
  generalize (lg_sl ([.ref m9]) ++ List.replicate (1 - (lg_sl ([.ref m9])).length) Slot.unset).toArray = ls at hl ⊢
  have hl : lv_has ls 1 [(0, .ref m9)] := hl
  refine lv_aload_n hx hb dX1_thrown_0 rfl (lv_at hl 0 rfl) ?_
  refine va_get (D := (dC, dI)) (ci := 1) (v := .int th) (C := RX1) (T := TX1) (N := 18) hx hb hts hinX1 hown hK hP 0 rfl rfl 0 (by decide) f28 (fun _ h9 => h9) rfl dX1_thrown_1 ?_
  exact W.iret (v := th) hx hb hr (fun t ht hW => ⟨th, rfl, rfl, ht⟩) t_nil dX1_thrown_4
