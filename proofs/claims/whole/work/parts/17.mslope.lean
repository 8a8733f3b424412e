set_option maxHeartbeats 4000000 in
set_option maxRecDepth 100000 in
theorem c_X1_slope (l : Launch) (dC : Nat → ClassId) (dI : Nat → Nat → Nat) (sz : Nat) (m9 b1 b2 b3 b4 b5 b6 : Nat) (cI : ClassId) (S F D J X Y : Nat → Int32) (th : Int32) (n : Nat) (ar sl hd : Int32) (hu hw : Int64) (im tc : Nat) (fa : Int32) (up dn : Int64) (p1 p2 p3 : Int32) (hn : n ≤ 40) (hrs : ris S n) (hSb : ∀ j, j < n → 0 ≤ (S j).toInt ∧ (S j).toInt ≤ 1000000) (hFb : ∀ j, j < n → 0 ≤ (F j).toInt ∧ (F j).toInt ≤ 1000000) : Met l yX1_slope wsX1_slope ({ frames := 1, cells := 0, slots := 0, locals := 31 }) (va_Pc [.ref m9, .int p1, .int p2, .int p3] (fun U => U.heap.size = sz ∧ va_P (dC, dI) vwCl (wM m9 b1 b2 b3 b4 b5 b6 cI S F D J X Y th n ar sl hd hu hw im tc fa up dn) U.heap ∧ va_K (dC, dI) vwCl [(cI, .int)] U ∧ va_D (fun _ => True) (wM m9 b1 b2 b3 b4 b5 b6 cI S F D J X Y th n ar sl hd hu hw im tc fa up dn))) (va_Ql (fun r (u : Int32 × Int64 × Int64 × Int64 × Int64) => (kd4 (0 ≤ p3.toInt ∧ p3.toInt ≤ 1) (ok_span p1 p2) (cl S p1.toInt n + 1 < cl S (p2.toInt + 1) n) True = 0 ∧ r.toInt = fr ((F (cl S (p2.toInt + 1) n - 1)).toInt - (F (cl S p1.toInt n)).toInt) ((S (cl S (p2.toInt + 1) n - 1)).toInt - (S (cl S p1.toInt n)).toInt) p3.toInt ∧ ((0 < ((F (cl S (p2.toInt + 1) n - 1)).toInt - (F (cl S p1.toInt n)).toInt) ∧ u.1 = 1 ∧ u.2.1.toInt = fr ((F (cl S (p2.toInt + 1) n - 1)).toInt - (F (cl S p1.toInt n)).toInt) ((S (cl S (p2.toInt + 1) n - 1)).toInt - (S (cl S p1.toInt n)).toInt) 0 ∧ u.2.2.1.toInt = fr ((F (cl S (p2.toInt + 1) n - 1)).toInt - (F (cl S p1.toInt n)).toInt) ((S (cl S (p2.toInt + 1) n - 1)).toInt - (S (cl S p1.toInt n)).toInt) 1) ∨ (¬ 0 < ((F (cl S (p2.toInt + 1) n - 1)).toInt - (F (cl S p1.toInt n)).toInt) ∧ u.1 = hd ∧ u.2.1 = hu ∧ u.2.2.1 = hw))) ∨ (¬ kd4 (0 ≤ p3.toInt ∧ p3.toInt ≤ 1) (ok_span p1 p2) (cl S p1.toInt n + 1 < cl S (p2.toInt + 1) n) True = 0 ∧ u.1 = hd ∧ u.2.1 = hu ∧ u.2.2.1 = hw)) (fun (u : Int32 × Int64 × Int64 × Int64 × Int64) t => at_w dC dI cI (va_A (wM m9 b1 b2 b3 b4 b5 b6 cI S F D J X Y th n ar sl hd hu hw im tc fa up dn) sz) (wM m9 b1 b2 b3 b4 b5 b6 cI S F D J X Y (kd4 (0 ≤ p3.toInt ∧ p3.toInt ≤ 1) (ok_span p1 p2) (cl S p1.toInt n + 1 < cl S (p2.toInt + 1) n) True) n ar sl u.1 u.2.1 u.2.2.1 im tc fa u.2.2.2.1 u.2.2.2.2) t) (va_A (wM m9 b1 b2 b3 b4 b5 b6 cI S F D J X Y th n ar sl hd hu hw im tc fa up dn) sz)) 0 0 (va_A (wM m9 b1 b2 b3 b4 b5 b6 cI S F D J X Y th n ar sl hd hu hw im tc fa up dn) sz) := by
  refine Met.ofW (cc := cX1_slope) (maxL := 8) (ret := (some .long)) (by decide) rfl ?_
  intro p e s m args below meth c s₁ B hml hv
  obtain ⟨rfl, hsz, hP, hK, hD0⟩ := hv
  have hx := B.exec
  have hb := B.bytes
  have hr := B.returns
  have hts := atoms_spec (ws := wsX1_slope) B.pre
  have hown : s.vm.findClass RX1 = some m.cls := findClass_of_methodNamed B.named
  have hlocks := B.notSynchronized
  have hinX1 : ∀ w ∈ wsX10, w ∈ wsX1_slope := fun w h => List.mem_cons_of_mem _ (inX1 w h)
  have f44 := hts _ (List.mem_cons_of_mem _ wl_X1_44)
  have f7 := hts _ (List.mem_cons_of_mem _ wl_X1_7)
  have k39 := hts _ (List.mem_cons_of_mem _ wl_X1_39)
  have f13 := hts _ (List.mem_cons_of_mem _ wl_X1_13)
  have f32 := hts _ (List.mem_cons_of_mem _ wl_X1_32)
  have f61 := hts _ (List.mem_cons_of_mem _ wl_X1_61)
  have f65 := hts _ (List.mem_cons_of_mem _ wl_X1_65)
  have f36 := hts _ (List.mem_cons_of_mem _ wl_X1_36)
  have f68 := hts _ (List.mem_cons_of_mem _ wl_X1_68)
  subst hsz
  have hD := hD0.self (sz := s.heap.size)
  generalize hAe : va_A (wM m9 b1 b2 b3 b4 b5 b6 cI S F D J X Y th n ar sl hd hu hw im tc fa up dn) s.heap.size = A at hD ⊢
  have hA : ∀ q : Nat, s.heap.size ≤ q → A q := fun q h => by rw [← hAe]; exact Or.inr h
  have hS : va_S A s.heap s.heap [] := va_S.rf
  have hl := lv_entry ([.ref m9, .int p1, .int p2, .int p3]) (n := 8) (Nat.le_of_ble_eq_true rfl)
  rw [lg_entry_eq]
  generalize (lg_sl ([.ref m9, .int p1, .int p2, .int p3]) ++ List.replicate (8 - (lg_sl ([.ref m9, .int p1, .int p2, .int p3])).length) Slot.unset).toArray = ls at hl ⊢
  have hl : lv_has ls 8 [(0, .ref m9), (1, .int p1), (2, .int p2), (3, .int p3)] := hl
  have L9 : ∀ (f : Nat) (k : Nat) (z4 : Int32) (z5 : Int32) (ls : Array Slot), n + 1 ≤ k + f → (k ≤ n) → (spf (cl S p1.toInt k) (cl S (p2.toInt + 1) k) z4 z5) → lv_has ls 8 [(6, .int (nI k)), (5, .int z5), (4, .int z4), (0, .ref m9), (1, .int p1), (2, .int p2), (3, .int p3)] → W p l e (headSpec wsX1_slope ({ frames := 1, cells := 0, slots := 0, locals := 31 })).room s m ([.ref m9, .int p1, .int p2, .int p3] : List Value).toArray below meth c s.heap [] 0 0 (MQ below (va_Ql (fun r (u : Int32 × Int64 × Int64 × Int64 × Int64) => (kd4 (0 ≤ p3.toInt ∧ p3.toInt ≤ 1) (ok_span p1 p2) (cl S p1.toInt n + 1 < cl S (p2.toInt + 1) n) True = 0 ∧ r.toInt = fr ((F (cl S (p2.toInt + 1) n - 1)).toInt - (F (cl S p1.toInt n)).toInt) ((S (cl S (p2.toInt + 1) n - 1)).toInt - (S (cl S p1.toInt n)).toInt) p3.toInt ∧ ((0 < ((F (cl S (p2.toInt + 1) n - 1)).toInt - (F (cl S p1.toInt n)).toInt) ∧ u.1 = 1 ∧ u.2.1.toInt = fr ((F (cl S (p2.toInt + 1) n - 1)).toInt - (F (cl S p1.toInt n)).toInt) ((S (cl S (p2.toInt + 1) n - 1)).toInt - (S (cl S p1.toInt n)).toInt) 0 ∧ u.2.2.1.toInt = fr ((F (cl S (p2.toInt + 1) n - 1)).toInt - (F (cl S p1.toInt n)).toInt) ((S (cl S (p2.toInt + 1) n - 1)).toInt - (S (cl S p1.toInt n)).toInt) 1) ∨ (¬ 0 < ((F (cl S (p2.toInt + 1) n - 1)).toInt - (F (cl S p1.toInt n)).toInt) ∧ u.1 = hd ∧ u.2.1 = hu ∧ u.2.2.1 = hw))) ∨ (¬ kd4 (0 ≤ p3.toInt ∧ p3.toInt ≤ 1) (ok_span p1 p2) (cl S p1.toInt n + 1 < cl S (p2.toInt + 1) n) True = 0 ∧ u.1 = hd ∧ u.2.1 = hu ∧ u.2.2.1 = hw)) (fun (u : Int32 × Int64 × Int64 × Int64 × Int64) t => at_w dC dI cI A (wM m9 b1 b2 b3 b4 b5 b6 cI S F D J X Y (kd4 (0 ≤ p3.toInt ∧ p3.toInt ≤ 1) (ok_span p1 p2) (cl S p1.toInt n + 1 < cl S (p2.toInt + 1) n) True) n ar sl u.1 u.2.1 u.2.2.1 im tc fa u.2.2.2.1 u.2.2.2.2) t) A) ([.ref m9, .int p1, .int p2, .int p3] : List Value).toArray s 0 0 A) (F0 m 9 ls []) := by
    intro f
    induction f with
    | zero => intro k z4 z5 ls hm hk hf hl; exact absurd hm (by omega)
    | succ f ih =>
      intro k z4 z5 ls hm hk hf hl
      refine lv_iload hx hb dX1_slope_9 (lv_at hl 0 rfl) ?_
      refine lv_aload_n hx hb dX1_slope_11 rfl (lv_at hl 3 rfl) ?_
      refine va_get (D := (dC, dI)) (ci := 1) (v := .int (nI n)) (C := RX1) (T := TX1) (N := 18) hx hb hts hinX1 hown hK hP 0 rfl rfl 1 (by decide) f44 (fun _ h9 => h9) rfl dX1_slope_12 ?_
      refine lv_icmp_ge (tgt := 62) hx hb dX1_slope_15 (by decide) (fun c15 => ?_) (fun c15 => ?_)
      · -- taken at 15
        have c15 : n ≤ k := (nI_leI (a := n) (b := k) (by omega) (by omega)).mp c15
        have hkn : n = k := by omega
        subst hkn
        have J111 : ∀ (ls : Array Slot), lv_has ls 8 [(5, .int z5), (4, .int z4), (0, .ref m9), (1, .int p1), (2, .int p2), (3, .int p3)] → W p l e (headSpec wsX1_slope ({ frames := 1, cells := 0, slots := 0, locals := 31 })).room s m ([.ref m9, .int p1, .int p2, .int p3] : List Value).toArray below meth c s.heap [] 0 0 (MQ below (va_Ql (fun r (u : Int32 × Int64 × Int64 × Int64 × Int64) => (kd4 (0 ≤ p3.toInt ∧ p3.toInt ≤ 1) (ok_span p1 p2) (cl S p1.toInt n + 1 < cl S (p2.toInt + 1) n) True = 0 ∧ r.toInt = fr ((F (cl S (p2.toInt + 1) n - 1)).toInt - (F (cl S p1.toInt n)).toInt) ((S (cl S (p2.toInt + 1) n - 1)).toInt - (S (cl S p1.toInt n)).toInt) p3.toInt ∧ ((0 < ((F (cl S (p2.toInt + 1) n - 1)).toInt - (F (cl S p1.toInt n)).toInt) ∧ u.1 = 1 ∧ u.2.1.toInt = fr ((F (cl S (p2.toInt + 1) n - 1)).toInt - (F (cl S p1.toInt n)).toInt) ((S (cl S (p2.toInt + 1) n - 1)).toInt - (S (cl S p1.toInt n)).toInt) 0 ∧ u.2.2.1.toInt = fr ((F (cl S (p2.toInt + 1) n - 1)).toInt - (F (cl S p1.toInt n)).toInt) ((S (cl S (p2.toInt + 1) n - 1)).toInt - (S (cl S p1.toInt n)).toInt) 1) ∨ (¬ 0 < ((F (cl S (p2.toInt + 1) n - 1)).toInt - (F (cl S p1.toInt n)).toInt) ∧ u.1 = hd ∧ u.2.1 = hu ∧ u.2.2.1 = hw))) ∨ (¬ kd4 (0 ≤ p3.toInt ∧ p3.toInt ≤ 1) (ok_span p1 p2) (cl S p1.toInt n + 1 < cl S (p2.toInt + 1) n) True = 0 ∧ u.1 = hd ∧ u.2.1 = hu ∧ u.2.2.1 = hw)) (fun (u : Int32 × Int64 × Int64 × Int64 × Int64) t => at_w dC dI cI A (wM m9 b1 b2 b3 b4 b5 b6 cI S F D J X Y (kd4 (0 ≤ p3.toInt ∧ p3.toInt ≤ 1) (ok_span p1 p2) (cl S p1.toInt n + 1 < cl S (p2.toInt + 1) n) True) n ar sl u.1 u.2.1 u.2.2.1 im tc fa u.2.2.2.1 u.2.2.2.2) t) A) ([.ref m9, .int p1, .int p2, .int p3] : List Value).toArray s 0 0 A) (F0 m 111 ls [.int (bI (cl S p1.toInt n + 1 < cl S (p2.toInt + 1) n)), .int (bI (ok_span p1 p2)), .int (bI (0 ≤ p3.toInt ∧ p3.toInt ≤ 1)), .ref m9]) := by
          intro ls hl
          refine lv_iconst (v := 1) hx hb dX1_slope_111 (by decide) ?_
          have hFc := va_free (wc := (wM m9 b1 b2 b3 b4 b5 b6 cI S F D J X Y th n ar sl hd hu hw im tc fa up dn)) hD hS hA [0, 1, 2, 3, 4, 5, 6] rfl
          refine va_calli (va_runV (As := [.int (bI (0 ≤ p3.toInt ∧ p3.toInt ≤ 1)), .int (bI (ok_span p1 p2)), .int (bI (cl S p1.toInt n + 1 < cl S (p2.toInt + 1) n)), .int 1]) (rest := []) ⟨hx, hb, hml, hown, hts⟩ (c_X1_goes l dC dI s.heap.size m9 b1 b2 b3 b4 b5 b6 cI S F D J X Y th n ar sl hd hu hw im tc fa up dn (0 ≤ p3.toInt ∧ p3.toInt ≤ 1) (ok_span p1 p2) (cl S p1.toInt n + 1 < cl S (p2.toInt + 1) n) True) (cwV 4 hts (gV wl_X1_47 wi_X1_goes wv_X1_goes wi_X1 wc_X1_goes) rfl rfl rfl (by decide +kernel) ⟨Nat.le_of_ble_eq_true rfl, Nat.le_of_ble_eq_true rfl⟩) ⟨fun a U g mk q => ⟨q.1, q.2.1, q.2.2.1, va_K.moved (u := U) (U := U.calling g mk a) (Vm.Alike.refl U.vm) q.2.2.2.1, q.2.2.2.2⟩, va_recv hK hP (ci := 1) (q0 := 0) rfl rfl, fun U hU hW => ⟨rfl, by rw [hU], by rw [hU]; exact hP, va_K.moved hW.alike hK, hD.weaken (fun _ _ _ _ => trivial)⟩⟩ rfl rfl hl.1 rfl (lv_room (Nat.le_of_ble_eq_true rfl)) dX1_slope_112 ⟨Nat.le_of_ble_eq_true rfl, Nat.le_of_ble_eq_true rfl⟩) hS (fun q _ h => hFc q h) hFc (fun r112 u112 t H1 locs ht hvm h112 hB hz1 hk1 hS => ?_)
          obtain ⟨hP1, hK1, hD1⟩ := hB
          rw [ht] at hP1
          obtain ⟨hP, hD⟩ := va_join (wr := []) (w1 := (wM m9 b1 b2 b3 b4 b5 b6 cI S F D J X Y (kd4 (0 ≤ p3.toInt ∧ p3.toInt ≤ 1) (ok_span p1 p2) (cl S p1.toInt n + 1 < cl S (p2.toInt + 1) n) True) n ar sl hd hu hw im tc fa up dn)) hP hD [0, 1, 2, 3, 4, 5, 6] [] rfl rfl (by decide) (by decide) hk1 hFc hP1 hD1
          generalize H1 = H at hP hS ⊢
          have hP : va_P (dC, dI) vwCl (wM m9 b1 b2 b3 b4 b5 b6 cI S F D J X Y (kd4 (0 ≤ p3.toInt ∧ p3.toInt ≤ 1) (ok_span p1 p2) (cl S p1.toInt n + 1 < cl S (p2.toInt + 1) n) True) n ar sl hd hu hw im tc fa up dn) H := hP
          have hD : va_D A (wM m9 b1 b2 b3 b4 b5 b6 cI S F D J X Y (kd4 (0 ≤ p3.toInt ∧ p3.toInt ≤ 1) (ok_span p1 p2) (cl S p1.toInt n + 1 < cl S (p2.toInt + 1) n) True) n ar sl hd hu hw im tc fa up dn) := hD
          subst h112
          refine lv_if_ne (tgt := 120) hx hb dX1_slope_115 (by decide) (fun c115 => ?_) (fun c115 => ?_)
          · -- taken at 115
            have c115 := bI_ne0.mp c115
            obtain ⟨e1, e2, e3, -⟩ := kd_z c115
            obtain ⟨hz4, hz5⟩ := sp_end hf e3
            have hb9 := cl_le S (p2.toInt + 1) n
            obtain ⟨s1, s2, s3, s4⟩ := sl_e hn hrs hSb hFb e3 hb9
            refine lv_aload_n hx hb dX1_slope_120 rfl (lv_at hl 2 rfl) ?_
            refine lv_aload_n hx hb dX1_slope_121 rfl (lv_at hl 2 rfl) ?_
            refine va_get (D := (dC, dI)) (ci := 1) (v := .ref b2) (C := RX1) (T := TX1) (N := 18) hx hb hts hinX1 hown hK hP 0 rfl rfl 3 (by decide) f13 (fun _ h9 => h9) rfl dX1_slope_122 ?_
            refine lv_iload hx hb dX1_slope_125 (lv_at hl 0 rfl) ?_
            refine va_iald (D := (dC, dI)) hx hb hK hP 2 0 rfl rfl (vp_in_iff.mpr ⟨by omega, by omega⟩) dX1_slope_127 ?_
            refine W.eq (congrArg (fun z => F0 m 128 ls (.int z :: [.ref m9])) (congrArg F (cl_of (j := cl S (p2.toInt + 1) n - 1) (by omega)))) ?_
            refine lv_aload_n hx hb dX1_slope_128 rfl (lv_at hl 2 rfl) ?_
            refine va_get (D := (dC, dI)) (ci := 1) (v := .ref b2) (C := RX1) (T := TX1) (N := 18) hx hb hts hinX1 hown hK hP 0 rfl rfl 3 (by decide) f13 (fun _ h9 => h9) rfl dX1_slope_129 ?_
            refine lv_iload hx hb dX1_slope_132 (lv_at hl 1 rfl) ?_
            refine va_iald (D := (dC, dI)) hx hb hK hP 2 0 rfl rfl (vp_in_iff.mpr ⟨by omega, by omega⟩) dX1_slope_134 ?_
            refine W.eq (congrArg (fun z => F0 m 135 ls (.int z :: [.int (F (cl S (p2.toInt + 1) n - 1)), .ref m9])) (congrArg F (cl_of (j := cl S p1.toInt n) (hz4)))) ?_
            refine lv_isub hx hb dX1_slope_135 ?_
            refine lv_i2l hx hb dX1_slope_136 rfl ?_
            refine lv_aload_n hx hb dX1_slope_137 rfl (lv_at hl 2 rfl) ?_
            refine va_get (D := (dC, dI)) (ci := 1) (v := .ref b1) (C := RX1) (T := TX1) (N := 18) hx hb hts hinX1 hown hK hP 0 rfl rfl 2 (by decide) f7 (fun _ h9 => h9) rfl dX1_slope_138 ?_
            refine lv_iload hx hb dX1_slope_141 (lv_at hl 0 rfl) ?_
            refine va_iald (D := (dC, dI)) hx hb hK hP 1 0 rfl rfl (vp_in_iff.mpr ⟨by omega, by omega⟩) dX1_slope_143 ?_
            refine W.eq (congrArg (fun z => F0 m 144 ls (.int z :: [.long (((F (cl S (p2.toInt + 1) n - 1)) - (F (cl S p1.toInt n))).toInt64), .ref m9])) (congrArg S (cl_of (j := cl S (p2.toInt + 1) n - 1) (by omega)))) ?_
            refine lv_aload_n hx hb dX1_slope_144 rfl (lv_at hl 2 rfl) ?_
            refine va_get (D := (dC, dI)) (ci := 1) (v := .ref b1) (C := RX1) (T := TX1) (N := 18) hx hb hts hinX1 hown hK hP 0 rfl rfl 2 (by decide) f7 (fun _ h9 => h9) rfl dX1_slope_145 ?_
            refine lv_iload hx hb dX1_slope_148 (lv_at hl 1 rfl) ?_
            refine va_iald (D := (dC, dI)) hx hb hK hP 1 0 rfl rfl (vp_in_iff.mpr ⟨by omega, by omega⟩) dX1_slope_150 ?_
            refine W.eq (congrArg (fun z => F0 m 151 ls (.int z :: [.int (S (cl S (p2.toInt + 1) n - 1)), .long (((F (cl S (p2.toInt + 1) n - 1)) - (F (cl S p1.toInt n))).toInt64), .ref m9])) (congrArg S (cl_of (j := cl S p1.toInt n) (hz4)))) ?_
            refine lv_isub hx hb dX1_slope_151 ?_
            refine lv_i2l hx hb dX1_slope_152 rfl ?_
            refine lv_iload_n hx hb dX1_slope_153 rfl (lv_at hl 5 rfl) ?_
            have hFc := va_free (wc := (wM m9 b1 b2 b3 b4 b5 b6 cI S F D J X Y (kd4 (0 ≤ p3.toInt ∧ p3.toInt ≤ 1) (ok_span p1 p2) (cl S p1.toInt n + 1 < cl S (p2.toInt + 1) n) True) n ar sl hd hu hw im tc fa up dn)) hD hS hA [0, 1, 2, 3, 4, 5, 6] rfl
            refine va_calll (va_runV (As := [.long (((F (cl S (p2.toInt + 1) n - 1)) - (F (cl S p1.toInt n))).toInt64), .long (((S (cl S (p2.toInt + 1) n - 1)) - (S (cl S p1.toInt n))).toInt64), .int p3]) (rest := []) ⟨hx, hb, hml, hown, hts⟩ (c_X1_part l dC dI H.size m9 b1 b2 b3 b4 b5 b6 cI S F D J X Y (kd4 (0 ≤ p3.toInt ∧ p3.toInt ≤ 1) (ok_span p1 p2) (cl S p1.toInt n + 1 < cl S (p2.toInt + 1) n) True) n ar sl hd hu hw im tc fa up dn (((F (cl S (p2.toInt + 1) n - 1)) - (F (cl S p1.toInt n))).toInt64) (((S (cl S (p2.toInt + 1) n - 1)) - (S (cl S p1.toInt n))).toInt64) p3 (by omega) (by omega)) (cwV 3 hts (gV wl_X1_57 wi_X1_part wv_X1_part wi_X1 wc_X1_part) rfl rfl rfl (by decide +kernel) ⟨Nat.le_of_ble_eq_true rfl, Nat.le_of_ble_eq_true rfl⟩) ⟨fun a U g mk q => ⟨q.1, q.2.1, q.2.2.1, va_K.moved (u := U) (U := U.calling g mk a) (Vm.Alike.refl U.vm) q.2.2.2.1, q.2.2.2.2⟩, va_recv hK hP (ci := 1) (q0 := 0) rfl rfl, fun U hU hW => ⟨rfl, by rw [hU], by rw [hU]; exact hP, va_K.moved hW.alike hK, hD.weaken (fun _ _ _ _ => trivial)⟩⟩ rfl rfl hl.1 rfl (lv_room (Nat.le_of_ble_eq_true rfl)) dX1_slope_154 ⟨Nat.le_of_ble_eq_true rfl, Nat.le_of_ble_eq_true rfl⟩) hS (fun q _ h => hFc q h) hFc (fun r154 u154 t H1 locs ht hvm h154 hB hz1 hk1 hS => ?_)
            obtain ⟨hP1, hK1, hD1⟩ := hB
            rw [ht] at hP1
            obtain ⟨hP, hD⟩ := va_join (wr := []) (w1 := (wM m9 b1 b2 b3 b4 b5 b6 cI S F D J X Y (kd4 (0 ≤ p3.toInt ∧ p3.toInt ≤ 1) (ok_span p1 p2) (cl S p1.toInt n + 1 < cl S (p2.toInt + 1) n) True) n ar sl hd hu hw im tc fa u154.1 u154.2)) hP hD [0, 1, 2, 3, 4, 5, 6] [] rfl rfl (by decide) (by decide) hk1 hFc hP1 hD1
            generalize H1 = H at hP hS ⊢
            have hP : va_P (dC, dI) vwCl (wM m9 b1 b2 b3 b4 b5 b6 cI S F D J X Y (kd4 (0 ≤ p3.toInt ∧ p3.toInt ≤ 1) (ok_span p1 p2) (cl S p1.toInt n + 1 < cl S (p2.toInt + 1) n) True) n ar sl hd hu hw im tc fa u154.1 u154.2) H := hP
            have hD : va_D A (wM m9 b1 b2 b3 b4 b5 b6 cI S F D J X Y (kd4 (0 ≤ p3.toInt ∧ p3.toInt ≤ 1) (ok_span p1 p2) (cl S p1.toInt n + 1 < cl S (p2.toInt + 1) n) True) n ar sl hd hu hw im tc fa u154.1 u154.2) := hD
            refine lv_lstore (lv' := [(6, .long r154), (5, .int z5), (4, .int z4), (0, .ref m9), (1, .int p1), (2, .int p2), (3, .int p3)]) hx hb dX1_slope_157 hl (by decide) rfl (fun ls hl => ?_)
            refine lv_aload_n hx hb dX1_slope_159 rfl (lv_at hl 3 rfl) ?_
            refine va_get (D := (dC, dI)) (ci := 1) (v := .long u154.1) (C := RX1) (T := TX1) (N := 18) hx hb hts hinX1 hown hK hP 0 rfl rfl 16 (by decide) f32 (fun _ h9 => h9) rfl dX1_slope_160 ?_
            refine lv_lconst (v := 0) hx hb dX1_slope_163 (by decide) ?_
            refine W.lcmp hx hb dX1_slope_164 ?_
            refine lv_if_le (tgt := 189) hx hb dX1_slope_165 (by decide) (fun c165 => ?_) (fun c165 => ?_)
            · -- taken at 165
              have c165 := (lg_cmp_le _ _).mp c165
              have c165 : u154.1.toInt ≤ 0 := (Int64.le_iff_toInt_le).mp c165
              refine lv_lload hx hb dX1_slope_189 (lv_at hl 0 rfl) ?_
              exact W.lret (v := r154) hx hb hr (fun t ht hW => ⟨⟨r154, (hd, hu, hw, u154.1, u154.2), rfl, Or.inl ⟨c115, sl_r s1 s2 h154.1, Or.inr ⟨by have q := sl_p s1 s2 s4 h154.2.1; omega, rfl, rfl, rfl⟩⟩, ⟨by rw [ht]; exact hP, va_K.moved hW.alike hK, hD⟩⟩, hS.F ht⟩) hS.2.2 dX1_slope_191
            · -- not taken at 165
              have c165 := fun q9 => c165 ((lg_cmp_le _ _).mpr q9)
              have c165 : ¬ u154.1.toInt ≤ 0 := fun q9 => c165 ((Int64.le_iff_toInt_le).mpr q9)
              refine lv_aload_n hx hb dX1_slope_168 rfl (lv_at hl 3 rfl) ?_
              refine lv_iconst (v := 1) hx hb dX1_slope_169 (by decide) ?_
              refine va_put (D := (dC, dI)) (ci := 1) (v := .int 1) (ty := .boolean) (C := RX1) (T := TX1) (N := 18) hx hb hts hinX1 tyX1 tyX1_ok nmX1 hown hK hP hD hS 0 rfl rfl 6 (by decide) f61 (fun _ h9 => h9) rfl (by decide +kernel) (rfl) (rfl) (Nat.le_of_ble_eq_true rfl) dX1_slope_170 (fun H locs hP hD hS => ?_)
              have hP : va_P (dC, dI) vwCl (wM m9 b1 b2 b3 b4 b5 b6 cI S F D J X Y (kd4 (0 ≤ p3.toInt ∧ p3.toInt ≤ 1) (ok_span p1 p2) (cl S p1.toInt n + 1 < cl S (p2.toInt + 1) n) True) n ar sl 1 hu hw im tc fa u154.1 u154.2) H := hP
              have hD : va_D A (wM m9 b1 b2 b3 b4 b5 b6 cI S F D J X Y (kd4 (0 ≤ p3.toInt ∧ p3.toInt ≤ 1) (ok_span p1 p2) (cl S p1.toInt n + 1 < cl S (p2.toInt + 1) n) True) n ar sl 1 hu hw im tc fa u154.1 u154.2) := hD
              refine lv_aload_n hx hb dX1_slope_173 rfl (lv_at hl 3 rfl) ?_
              refine lv_aload_n hx hb dX1_slope_174 rfl (lv_at hl 3 rfl) ?_
              refine va_get (D := (dC, dI)) (ci := 1) (v := .long u154.1) (C := RX1) (T := TX1) (N := 18) hx hb hts hinX1 hown hK hP 0 rfl rfl 16 (by decide) f32 (fun _ h9 => h9) rfl dX1_slope_175 ?_
              refine va_put (D := (dC, dI)) (ci := 1) (v := .long u154.1) (ty := .long) (C := RX1) (T := TX1) (N := 18) hx hb hts hinX1 tyX1 tyX1_ok nmX1 hown hK hP hD hS 0 rfl rfl 7 (by decide) f65 (fun _ h9 => h9) rfl (by decide +kernel) (rfl) (rfl) (Nat.le_of_ble_eq_true rfl) dX1_slope_178 (fun H locs hP hD hS => ?_)
              have hP : va_P (dC, dI) vwCl (wM m9 b1 b2 b3 b4 b5 b6 cI S F D J X Y (kd4 (0 ≤ p3.toInt ∧ p3.toInt ≤ 1) (ok_span p1 p2) (cl S p1.toInt n + 1 < cl S (p2.toInt + 1) n) True) n ar sl 1 u154.1 hw im tc fa u154.1 u154.2) H := hP
              have hD : va_D A (wM m9 b1 b2 b3 b4 b5 b6 cI S F D J X Y (kd4 (0 ≤ p3.toInt ∧ p3.toInt ≤ 1) (ok_span p1 p2) (cl S p1.toInt n + 1 < cl S (p2.toInt + 1) n) True) n ar sl 1 u154.1 hw im tc fa u154.1 u154.2) := hD
              refine lv_aload_n hx hb dX1_slope_181 rfl (lv_at hl 3 rfl) ?_
              refine lv_aload_n hx hb dX1_slope_182 rfl (lv_at hl 3 rfl) ?_
              refine va_get (D := (dC, dI)) (ci := 1) (v := .long u154.2) (C := RX1) (T := TX1) (N := 18) hx hb hts hinX1 hown hK hP 0 rfl rfl 17 (by decide) f36 (fun _ h9 => h9) rfl dX1_slope_183 ?_
              refine va_put (D := (dC, dI)) (ci := 1) (v := .long u154.2) (ty := .long) (C := RX1) (T := TX1) (N := 18) hx hb hts hinX1 tyX1 tyX1_ok nmX1 hown hK hP hD hS 0 rfl rfl 8 (by decide) f68 (fun _ h9 => h9) rfl (by decide +kernel) (rfl) (rfl) (Nat.le_of_ble_eq_true rfl) dX1_slope_186 (fun H locs hP hD hS => ?_)
              have hP : va_P (dC, dI) vwCl (wM m9 b1 b2 b3 b4 b5 b6 cI S F D J X Y (kd4 (0 ≤ p3.toInt ∧ p3.toInt ≤ 1) (ok_span p1 p2) (cl S p1.toInt n + 1 < cl S (p2.toInt + 1) n) True) n ar sl 1 u154.1 u154.2 im tc fa u154.1 u154.2) H := hP
              have hD : va_D A (wM m9 b1 b2 b3 b4 b5 b6 cI S F D J X Y (kd4 (0 ≤ p3.toInt ∧ p3.toInt ≤ 1) (ok_span p1 p2) (cl S p1.toInt n + 1 < cl S (p2.toInt + 1) n) True) n ar sl 1 u154.1 u154.2 im tc fa u154.1 u154.2) := hD
              refine lv_lload hx hb dX1_slope_189 (lv_at hl 0 rfl) ?_
              exact W.lret (v := r154) hx hb hr (fun t ht hW => ⟨⟨r154, (1, u154.1, u154.2, u154.1, u154.2), rfl, Or.inl ⟨c115, sl_r s1 s2 h154.1, Or.inl ⟨by have q := sl_p s1 s2 s4 h154.2.1; omega, rfl, sl_r s1 s2 h154.2.1, sl_r s1 s2 h154.2.2⟩⟩, ⟨by rw [ht]; exact hP, va_K.moved hW.alike hK, hD⟩⟩, hS.F ht⟩) hS.2.2 dX1_slope_191
          · -- not taken at 115
            have c115 := bI_eq0.mp c115
            refine lv_lconst (v := 0) hx hb dX1_slope_118 (by decide) ?_
            exact W.lret (v := 0) hx hb hr (fun t ht hW => ⟨⟨0, (hd, hu, hw, up, dn), rfl, Or.inr ⟨c115, rfl, rfl, rfl⟩, ⟨by rw [ht]; exact hP, va_K.moved hW.alike hK, hD⟩⟩, hS.F ht⟩) hS.2.2 dX1_slope_119
        have J99 : ∀ (ls : Array Slot), lv_has ls 8 [(5, .int z5), (4, .int z4), (0, .ref m9), (1, .int p1), (2, .int p2), (3, .int p3)] → W p l e (headSpec wsX1_slope ({ frames := 1, cells := 0, slots := 0, locals := 31 })).room s m ([.ref m9, .int p1, .int p2, .int p3] : List Value).toArray below meth c s.heap [] 0 0 (MQ below (va_Ql (fun r (u : Int32 × Int64 × Int64 × Int64 × Int64) => (kd4 (0 ≤ p3.toInt ∧ p3.toInt ≤ 1) (ok_span p1 p2) (cl S p1.toInt n + 1 < cl S (p2.toInt + 1) n) True = 0 ∧ r.toInt = fr ((F (cl S (p2.toInt + 1) n - 1)).toInt - (F (cl S p1.toInt n)).toInt) ((S (cl S (p2.toInt + 1) n - 1)).toInt - (S (cl S p1.toInt n)).toInt) p3.toInt ∧ ((0 < ((F (cl S (p2.toInt + 1) n - 1)).toInt - (F (cl S p1.toInt n)).toInt) ∧ u.1 = 1 ∧ u.2.1.toInt = fr ((F (cl S (p2.toInt + 1) n - 1)).toInt - (F (cl S p1.toInt n)).toInt) ((S (cl S (p2.toInt + 1) n - 1)).toInt - (S (cl S p1.toInt n)).toInt) 0 ∧ u.2.2.1.toInt = fr ((F (cl S (p2.toInt + 1) n - 1)).toInt - (F (cl S p1.toInt n)).toInt) ((S (cl S (p2.toInt + 1) n - 1)).toInt - (S (cl S p1.toInt n)).toInt) 1) ∨ (¬ 0 < ((F (cl S (p2.toInt + 1) n - 1)).toInt - (F (cl S p1.toInt n)).toInt) ∧ u.1 = hd ∧ u.2.1 = hu ∧ u.2.2.1 = hw))) ∨ (¬ kd4 (0 ≤ p3.toInt ∧ p3.toInt ≤ 1) (ok_span p1 p2) (cl S p1.toInt n + 1 < cl S (p2.toInt + 1) n) True = 0 ∧ u.1 = hd ∧ u.2.1 = hu ∧ u.2.2.1 = hw)) (fun (u : Int32 × Int64 × Int64 × Int64 × Int64) t => at_w dC dI cI A (wM m9 b1 b2 b3 b4 b5 b6 cI S F D J X Y (kd4 (0 ≤ p3.toInt ∧ p3.toInt ≤ 1) (ok_span p1 p2) (cl S p1.toInt n + 1 < cl S (p2.toInt + 1) n) True) n ar sl u.1 u.2.1 u.2.2.1 im tc fa u.2.2.2.1 u.2.2.2.2) t) A) ([.ref m9, .int p1, .int p2, .int p3] : List Value).toArray s 0 0 A) (F0 m 99 ls [.int (bI (ok_span p1 p2)), .int (bI (0 ≤ p3.toInt ∧ p3.toInt ≤ 1)), .ref m9]) := by
          intro ls hl
          refine lv_iload hx hb dX1_slope_99 (lv_at hl 0 rfl) ?_
          refine lv_iload hx hb dX1_slope_101 (lv_at hl 1 rfl) ?_
          refine lv_icmp_le (tgt := 110) hx hb dX1_slope_103 (by decide) (fun c103 => ?_) (fun c103 => ?_)
          · -- taken at 103
            have c103 : z5.toInt ≤ z4.toInt := (Int32.le_iff_toInt_le).mp c103
            refine lv_iconst (v := 0) hx hb dX1_slope_110 (by decide) ?_
            refine W.eq (congrArg (fun z => F0 m 111 ls (.int z :: [.int (bI (ok_span p1 p2)), .int (bI (0 ≤ p3.toInt ∧ p3.toInt ≤ 1)), .ref m9])) ((bI_0 (c := cl S p1.toInt n + 1 < cl S (p2.toInt + 1) n) (by unfold spf at hf; omega)).symm)) ?_
            exact J111 ls (lv_sub hl [0, 1, 2, 3, 4, 5] rfl)
          · -- not taken at 103
            have c103 : ¬ z5.toInt ≤ z4.toInt := fun q9 => c103 ((Int32.le_iff_toInt_le).mpr q9)
            refine lv_iconst (v := 1) hx hb dX1_slope_106 (by decide) ?_
            refine lv_goto (tgt := 111) hx hb dX1_slope_107 (by decide) ?_
            refine W.eq (congrArg (fun z => F0 m 111 ls (.int z :: [.int (bI (ok_span p1 p2)), .int (bI (0 ≤ p3.toInt ∧ p3.toInt ≤ 1)), .ref m9])) ((bI_1 (c := cl S p1.toInt n + 1 < cl S (p2.toInt + 1) n) (by unfold spf at hf; omega)).symm)) ?_
            exact J111 ls (lv_sub hl [0, 1, 2, 3, 4, 5] rfl)
        refine lv_aload_n hx hb dX1_slope_62 rfl (lv_at hl 3 rfl) ?_
        refine lv_iload_n hx hb dX1_slope_63 rfl (lv_at hl 6 rfl) ?_
        refine lv_iconst (v := 0) hx hb dX1_slope_64 (by decide) ?_
        refine lv_iconst (v := 1) hx hb dX1_slope_65 (by decide) ?_
        refine vp_callSi (W.runS (As := [.int p3, .int 0, .int 1]) (rest := [.ref m9]) ⟨hx, hb, hml, hown, hts⟩ (c_X1_in l p3 0 1 0 1 (by decide) (by decide)) (va_cwS 3 hts (gS wl_X1_40 ws_X1_in wi_X1 wc_X1_in) rfl rfl rfl (by decide +kernel) ⟨Nat.le_of_ble_eq_true rfl, Nat.le_of_ble_eq_true rfl⟩) ⟨fun _ _ _ _ q => q, fun U hU hW => ⟨rfl, trivial⟩⟩ rfl rfl hl.1 rfl (lv_room (Nat.le_of_ble_eq_true rfl)) dX1_slope_66 ⟨Nat.le_of_ble_eq_true rfl, Nat.le_of_ble_eq_true rfl⟩) (fun r66 h66 => ?_)
        subst h66
        refine lv_iload_n hx hb dX1_slope_69 rfl (lv_at hl 4 rfl) ?_
        refine lv_iconst (v := 0) hx hb dX1_slope_70 (by decide) ?_
        refine lv_ldc (v := 1000000) hx hb hown k39 dX1_slope_71 ?_
        refine vp_callSi (W.runS (As := [.int p1, .int 0, .int 1000000]) (rest := [.int (bI (0 ≤ p3.toInt ∧ p3.toInt ≤ 1)), .ref m9]) ⟨hx, hb, hml, hown, hts⟩ (c_X1_in l p1 0 1000000 0 1000000 (by decide) (by decide)) (va_cwS 3 hts (gS wl_X1_40 ws_X1_in wi_X1 wc_X1_in) rfl rfl rfl (by decide +kernel) ⟨Nat.le_of_ble_eq_true rfl, Nat.le_of_ble_eq_true rfl⟩) ⟨fun _ _ _ _ q => q, fun U hU hW => ⟨rfl, trivial⟩⟩ rfl rfl hl.1 rfl (lv_room (Nat.le_of_ble_eq_true rfl)) dX1_slope_73 ⟨Nat.le_of_ble_eq_true rfl, Nat.le_of_ble_eq_true rfl⟩) (fun r73 h73 => ?_)
        subst h73
        refine lv_if_eq (tgt := 98) hx hb dX1_slope_76 (by decide) (fun c76 => ?_) (fun c76 => ?_)
        · -- taken at 76
          have c76 := bI_eq0.mp c76
          refine lv_iconst (v := 0) hx hb dX1_slope_98 (by decide) ?_
          refine W.eq (congrArg (fun z => F0 m 99 ls (.int z :: [.int (bI (0 ≤ p3.toInt ∧ p3.toInt ≤ 1)), .ref m9])) ((bI_0 (c := ok_span p1 p2) (by unfold ok_span; omega)).symm)) ?_
          exact J99 ls (lv_sub hl [1, 2, 3, 4, 5, 6] rfl)
        · -- not taken at 76
          have c76 := bI_ne0.mp c76
          refine lv_iload_n hx hb dX1_slope_79 rfl (lv_at hl 5 rfl) ?_
          refine lv_iconst (v := 0) hx hb dX1_slope_80 (by decide) ?_
          refine lv_ldc (v := 1000000) hx hb hown k39 dX1_slope_81 ?_
          refine vp_callSi (W.runS (As := [.int p2, .int 0, .int 1000000]) (rest := [.int (bI (0 ≤ p3.toInt ∧ p3.toInt ≤ 1)), .ref m9]) ⟨hx, hb, hml, hown, hts⟩ (c_X1_in l p2 0 1000000 0 1000000 (by decide) (by decide)) (va_cwS 3 hts (gS wl_X1_40 ws_X1_in wi_X1 wc_X1_in) rfl rfl rfl (by decide +kernel) ⟨Nat.le_of_ble_eq_true rfl, Nat.le_of_ble_eq_true rfl⟩) ⟨fun _ _ _ _ q => q, fun U hU hW => ⟨rfl, trivial⟩⟩ rfl rfl hl.1 rfl (lv_room (Nat.le_of_ble_eq_true rfl)) dX1_slope_83 ⟨Nat.le_of_ble_eq_true rfl, Nat.le_of_ble_eq_true rfl⟩) (fun r83 h83 => ?_)
          subst h83
          refine lv_if_eq (tgt := 98) hx hb dX1_slope_86 (by decide) (fun c86 => ?_) (fun c86 => ?_)
          · -- taken at 86
            have c86 := bI_eq0.mp c86
            refine lv_iconst (v := 0) hx hb dX1_slope_98 (by decide) ?_
            refine W.eq (congrArg (fun z => F0 m 99 ls (.int z :: [.int (bI (0 ≤ p3.toInt ∧ p3.toInt ≤ 1)), .ref m9])) ((bI_0 (c := ok_span p1 p2) (by unfold ok_span; omega)).symm)) ?_
            exact J99 ls (lv_sub hl [1, 2, 3, 4, 5, 6] rfl)
          · -- not taken at 86
            have c86 := bI_ne0.mp c86
            refine lv_iload_n hx hb dX1_slope_89 rfl (lv_at hl 4 rfl) ?_
            refine lv_iload_n hx hb dX1_slope_90 rfl (lv_at hl 5 rfl) ?_
            refine lv_icmp_ge (tgt := 98) hx hb dX1_slope_91 (by decide) (fun c91 => ?_) (fun c91 => ?_)
            · -- taken at 91
              have c91 : p2.toInt ≤ p1.toInt := (Int32.le_iff_toInt_le).mp c91
              refine lv_iconst (v := 0) hx hb dX1_slope_98 (by decide) ?_
              refine W.eq (congrArg (fun z => F0 m 99 ls (.int z :: [.int (bI (0 ≤ p3.toInt ∧ p3.toInt ≤ 1)), .ref m9])) ((bI_0 (c := ok_span p1 p2) (by unfold ok_span; omega)).symm)) ?_
              exact J99 ls (lv_sub hl [1, 2, 3, 4, 5, 6] rfl)
            · -- not taken at 91
              have c91 : ¬ p2.toInt ≤ p1.toInt := fun q9 => c91 ((Int32.le_iff_toInt_le).mpr q9)
              refine lv_iconst (v := 1) hx hb dX1_slope_94 (by decide) ?_
              refine lv_goto (tgt := 99) hx hb dX1_slope_95 (by decide) ?_
              refine W.eq (congrArg (fun z => F0 m 99 ls (.int z :: [.int (bI (0 ≤ p3.toInt ∧ p3.toInt ≤ 1)), .ref m9])) ((bI_1 (c := ok_span p1 p2) (by unfold ok_span; omega)).symm)) ?_
              exact J99 ls (lv_sub hl [1, 2, 3, 4, 5, 6] rfl)
      · -- not taken at 15
        have c15 : ¬ n ≤ k := fun q9 => c15 ((nI_leI (a := n) (b := k) (by omega) (by omega)).mpr q9)
        refine lv_aload_n hx hb dX1_slope_18 rfl (lv_at hl 3 rfl) ?_
        refine va_get (D := (dC, dI)) (ci := 1) (v := .ref b1) (C := RX1) (T := TX1) (N := 18) hx hb hts hinX1 hown hK hP 0 rfl rfl 2 (by decide) f7 (fun _ h9 => h9) rfl dX1_slope_19 ?_
        refine lv_iload hx hb dX1_slope_22 (lv_at hl 0 rfl) ?_
        refine va_iald (D := (dC, dI)) hx hb hK hP 1 0 rfl rfl (vp_in_nI (show k < 40 by omega) (by decide)) dX1_slope_24 ?_
        refine W.eq (congrArg (fun z => F0 m 25 ls (.int z :: [])) (congrArg S (nI_clamp (show k < 2 ^ 31 by omega)))) ?_
        refine lv_iload_n hx hb dX1_slope_25 rfl (lv_at hl 4 rfl) ?_
        refine lv_icmp_lt (tgt := 56) hx hb dX1_slope_26 (by decide) (fun c26 => ?_) (fun c26 => ?_)
        · -- taken at 26
          have c26 : (S k).toInt < p1.toInt := (Int32.lt_iff_toInt_lt).mp c26
          refine lv_iinc (v := nI (k + 1)) (lv' := [(6, .int (nI (k + 1))), (5, .int z5), (4, .int z4), (0, .ref m9), (1, .int p1), (2, .int p2), (3, .int p3)]) hx hb dX1_slope_56 hl (k := 0) rfl ((nI_succ _).symm) (by decide) rfl (fun ls hl => ?_)
          refine lv_goto (tgt := 9) hx hb dX1_slope_59 (by decide) ?_
          exact ih (k + 1) z4 z5 ls (by omega) (by omega) (by first | exact sp_lo hrs (by omega) hf c26 | exact sp_hi hf c26 (by omega)) (lv_sub hl [0, 1, 2, 3, 4, 5, 6] rfl)
        · -- not taken at 26
          have c26 : ¬ (S k).toInt < p1.toInt := fun q9 => c26 ((Int32.lt_iff_toInt_lt).mpr q9)
          refine lv_aload_n hx hb dX1_slope_29 rfl (lv_at hl 3 rfl) ?_
          refine va_get (D := (dC, dI)) (ci := 1) (v := .ref b1) (C := RX1) (T := TX1) (N := 18) hx hb hts hinX1 hown hK hP 0 rfl rfl 2 (by decide) f7 (fun _ h9 => h9) rfl dX1_slope_30 ?_
          refine lv_iload hx hb dX1_slope_33 (lv_at hl 0 rfl) ?_
          refine va_iald (D := (dC, dI)) hx hb hK hP 1 0 rfl rfl (vp_in_nI (show k < 40 by omega) (by decide)) dX1_slope_35 ?_
          refine W.eq (congrArg (fun z => F0 m 36 ls (.int z :: [])) (congrArg S (nI_clamp (show k < 2 ^ 31 by omega)))) ?_
          refine lv_iload_n hx hb dX1_slope_36 rfl (lv_at hl 5 rfl) ?_
          refine lv_icmp_le (tgt := 43) hx hb dX1_slope_37 (by decide) (fun c37 => ?_) (fun c37 => ?_)
          · -- taken at 37
            have c37 : (S k).toInt ≤ p2.toInt := (Int32.le_iff_toInt_le).mp c37
            refine lv_iload hx hb dX1_slope_43 (lv_at hl 2 rfl) ?_
            refine lv_if_ge (tgt := 52) hx hb dX1_slope_45 (by decide) (fun c45 => ?_) (fun c45 => ?_)
            · -- taken at 45
              have c45 : 0 ≤ z4.toInt := (Int32.le_iff_toInt_le).mp c45
              refine lv_iload hx hb dX1_slope_52 (lv_at hl 0 rfl) ?_
              refine lv_istore (lv' := [(5, .int (nI k)), (6, .int (nI k)), (4, .int z4), (0, .ref m9), (1, .int p1), (2, .int p2), (3, .int p3)]) hx hb dX1_slope_54 hl (by decide) rfl (fun ls hl => ?_)
              refine lv_iinc (v := nI (k + 1)) (lv' := [(6, .int (nI (k + 1))), (5, .int (nI k)), (4, .int z4), (0, .ref m9), (1, .int p1), (2, .int p2), (3, .int p3)]) hx hb dX1_slope_56 hl (k := 1) rfl ((nI_succ _).symm) (by decide) rfl (fun ls hl => ?_)
              refine lv_goto (tgt := 9) hx hb dX1_slope_59 (by decide) ?_
              exact ih (k + 1) z4 (nI k) ls (by omega) (by omega) (sp_in2 hrs (by omega) hn hf c26 (by omega) c45) (lv_sub hl [0, 1, 2, 3, 4, 5, 6] rfl)
            · -- not taken at 45
              have c45 : ¬ 0 ≤ z4.toInt := fun q9 => c45 ((Int32.le_iff_toInt_le).mpr q9)
              refine lv_iload hx hb dX1_slope_48 (lv_at hl 0 rfl) ?_
              refine lv_istore (lv' := [(4, .int (nI k)), (6, .int (nI k)), (5, .int z5), (0, .ref m9), (1, .int p1), (2, .int p2), (3, .int p3)]) hx hb dX1_slope_50 hl (by decide) rfl (fun ls hl => ?_)
              refine lv_iload hx hb dX1_slope_52 (lv_at hl 1 rfl) ?_
              refine lv_istore (lv' := [(5, .int (nI k)), (4, .int (nI k)), (6, .int (nI k)), (0, .ref m9), (1, .int p1), (2, .int p2), (3, .int p3)]) hx hb dX1_slope_54 hl (by decide) rfl (fun ls hl => ?_)
              refine lv_iinc (v := nI (k + 1)) (lv' := [(6, .int (nI (k + 1))), (5, .int (nI k)), (4, .int (nI k)), (0, .ref m9), (1, .int p1), (2, .int p2), (3, .int p3)]) hx hb dX1_slope_56 hl (k := 2) rfl ((nI_succ _).symm) (by decide) rfl (fun ls hl => ?_)
              refine lv_goto (tgt := 9) hx hb dX1_slope_59 (by decide) ?_
              exact ih (k + 1) (nI k) (nI k) ls (by omega) (by omega) (sp_in1 hrs (by omega) hn hf c26 (by omega) c45) (lv_sub hl [0, 1, 2, 3, 4, 5, 6] rfl)
          · -- not taken at 37
            have c37 : ¬ (S k).toInt ≤ p2.toInt := fun q9 => c37 ((Int32.le_iff_toInt_le).mpr q9)
            refine lv_goto (tgt := 56) hx hb dX1_slope_40 (by decide) ?_
            refine lv_iinc (v := nI (k + 1)) (lv' := [(6, .int (nI (k + 1))), (5, .int z5), (4, .int z4), (0, .ref m9), (1, .int p1), (2, .int p2), (3, .int p3)]) hx hb dX1_slope_56 hl (k := 0) rfl ((nI_succ _).symm) (by decide) rfl (fun ls hl => ?_)
            refine lv_goto (tgt := 9) hx hb dX1_slope_59 (by decide) ?_
            exact ih (k + 1) z4 z5 ls (by omega) (by omega) (by first | exact sp_lo hrs (by omega) hf c26 | exact sp_hi hf c26 (by omega)) (lv_sub hl [0, 1, 2, 3, 4, 5, 6] rfl)
  refine lv_iconst (v := (-1)) hx hb dX1_slope_0 (by decide) ?_
  refine lv_istore (lv' := [(4, .int (-1)), (0, .ref m9), (1, .int p1), (2, .int p2), (3, .int p3)]) hx hb dX1_slope_1 hl (by decide) rfl (fun ls hl => ?_)
  refine lv_iconst (v := (-1)) hx hb dX1_slope_3 (by decide) ?_
  refine lv_istore (lv' := [(5, .int (-1)), (4, .int (-1)), (0, .ref m9), (1, .int p1), (2, .int p2), (3, .int p3)]) hx hb dX1_slope_4 hl (by decide) rfl (fun ls hl => ?_)
  refine lv_iconst (v := 0) hx hb dX1_slope_6 (by decide) ?_
  refine lv_istore (lv' := [(6, .int 0), (5, .int (-1)), (4, .int (-1)), (0, .ref m9), (1, .int p1), (2, .int p2), (3, .int p3)]) hx hb dX1_slope_7 hl (by decide) rfl (fun ls hl => ?_)
  exact L9 (n + 1) 0 (-1) (-1) ls (by omega) (Nat.zero_le _) (Or.inl ⟨Nat.le_refl _, by decide, by decide⟩) (lv_sub hl [0, 1, 2, 3, 4, 5, 6] rfl)
set_option maxHeartbeats 4000000 in
set_option maxRecDepth 100000 in
theorem c_X1_offset (l : Launch) (dC : Nat → ClassId) (dI : Nat → Nat → Nat) (sz : Nat) (m9 b1 b2 b3 b4 b5 b6 : Nat) (cI : ClassId) (S F D J X Y : Nat → Int32) (th : Int32) (n : Nat) (ar sl hd : Int32) (hu hw : Int64) (im tc : Nat) (fa : Int32) (up dn : Int64) (p1 p2 : Int32) (hn : n ≤ 40) (hhd : hd = 0 ∨ hd = 1) (hsl : 0 ≤ sl.toInt ∧ sl.toInt ≤ 1000000) (hH : hd.toInt = 1 → (1 ≤ hu.toInt ∧ hu.toInt ≤ 1000000) ∧ (1 ≤ hw.toInt ∧ hw.toInt ≤ 1000000)) (hSb : ∀ j, j < n → 0 ≤ (S j).toInt ∧ (S j).toInt ≤ 1000000) (hFb : ∀ j, j < n → 0 ≤ (F j).toInt ∧ (F j).toInt ≤ 1000000) : Met l yX1_offset wsX1_offset ({ frames := 1, cells := 0, slots := 0, locals := 31 }) (va_Pc [.ref m9, .int p1, .int p2] (fun U => U.heap.size = sz ∧ va_P (dC, dI) vwCl (wM m9 b1 b2 b3 b4 b5 b6 cI S F D J X Y th n ar sl hd hu hw im tc fa up dn) U.heap ∧ va_K (dC, dI) vwCl [(cI, .int)] U ∧ va_D (fun _ => True) (wM m9 b1 b2 b3 b4 b5 b6 cI S F D J X Y th n ar sl hd hu hw im tc fa up dn))) (va_Ql (fun r (u : Int64 × Int64) => kd4 (0 ≤ p2.toInt ∧ p2.toInt ≤ 1) (hd.toInt = 1) (0 ≤ p1.toInt ∧ p1.toInt ≤ 1000000) True = 0 → ofs F n (exm S F hu hw sl p1) p2.toInt r) (fun (u : Int64 × Int64) t => at_w dC dI cI (va_A (wM m9 b1 b2 b3 b4 b5 b6 cI S F D J X Y th n ar sl hd hu hw im tc fa up dn) sz) (wM m9 b1 b2 b3 b4 b5 b6 cI S F D J X Y (kd4 (0 ≤ p2.toInt ∧ p2.toInt ≤ 1) (hd.toInt = 1) (0 ≤ p1.toInt ∧ p1.toInt ≤ 1000000) True) n ar sl hd hu hw im tc fa u.1 u.2) t) (va_A (wM m9 b1 b2 b3 b4 b5 b6 cI S F D J X Y th n ar sl hd hu hw im tc fa up dn) sz)) 0 0 (va_A (wM m9 b1 b2 b3 b4 b5 b6 cI S F D J X Y th n ar sl hd hu hw im tc fa up dn) sz) := by
  refine Met.ofW (cc := cX1_offset) (maxL := 8) (ret := (some .long)) (by decide) rfl ?_
  intro p e s m args below meth c s₁ B hml hv
  obtain ⟨rfl, hsz, hP, hK, hD0⟩ := hv
  have hx := B.exec
  have hb := B.bytes
  have hr := B.returns
  have hts := atoms_spec (ws := wsX1_offset) B.pre
  have hown : s.vm.findClass RX1 = some m.cls := findClass_of_methodNamed B.named
  have hlocks := B.notSynchronized
  have hinX1 : ∀ w ∈ wsX10, w ∈ wsX1_offset := fun w h => List.mem_cons_of_mem _ (inX1 w h)
  have f61 := hts _ (List.mem_cons_of_mem _ wl_X1_61)
  have k39 := hts _ (List.mem_cons_of_mem _ wl_X1_39)
  have f44 := hts _ (List.mem_cons_of_mem _ wl_X1_44)
  have f13 := hts _ (List.mem_cons_of_mem _ wl_X1_13)
  have k75 := hts _ (List.mem_cons_of_mem _ wl_X1_75)
  subst hsz
  have hD := hD0.self (sz := s.heap.size)
  generalize hAe : va_A (wM m9 b1 b2 b3 b4 b5 b6 cI S F D J X Y th n ar sl hd hu hw im tc fa up dn) s.heap.size = A at hD ⊢
  have hA : ∀ q : Nat, s.heap.size ≤ q → A q := fun q h => by rw [← hAe]; exact Or.inr h
  have hS : va_S A s.heap s.heap [] := va_S.rf
  have hl := lv_entry ([.ref m9, .int p1, .int p2]) (n := 8) (Nat.le_of_ble_eq_true rfl)
  rw [lg_entry_eq]
  generalize (lg_sl ([.ref m9, .int p1, .int p2]) ++ List.replicate (8 - (lg_sl ([.ref m9, .int p1, .int p2])).length) Slot.unset).toArray = ls at hl ⊢
  have hl : lv_has ls 8 [(0, .ref m9), (1, .int p1), (2, .int p2)] := hl
  refine lv_aload_n hx hb dX1_offset_0 rfl (lv_at hl 0 rfl) ?_
  refine lv_iload_n hx hb dX1_offset_1 rfl (lv_at hl 2 rfl) ?_
  refine lv_iconst (v := 0) hx hb dX1_offset_2 (by decide) ?_
  refine lv_iconst (v := 1) hx hb dX1_offset_3 (by decide) ?_
  refine vp_callSi (W.runS (As := [.int p2, .int 0, .int 1]) (rest := [.ref m9]) ⟨hx, hb, hml, hown, hts⟩ (c_X1_in l p2 0 1 0 1 (by decide) (by decide)) (va_cwS 3 hts (gS wl_X1_40 ws_X1_in wi_X1 wc_X1_in) rfl rfl rfl (by decide +kernel) ⟨Nat.le_of_ble_eq_true rfl, Nat.le_of_ble_eq_true rfl⟩) ⟨fun _ _ _ _ q => q, fun U hU hW => ⟨rfl, trivial⟩⟩ rfl rfl hl.1 rfl (lv_room (Nat.le_of_ble_eq_true rfl)) dX1_offset_4 ⟨Nat.le_of_ble_eq_true rfl, Nat.le_of_ble_eq_true rfl⟩) (fun r4 h4 => ?_)
  subst h4
  refine lv_aload_n hx hb dX1_offset_7 rfl (lv_at hl 0 rfl) ?_
  refine va_get (D := (dC, dI)) (ci := 1) (v := .int hd) (C := RX1) (T := TX1) (N := 18) hx hb hts hinX1 hown hK hP 0 rfl rfl 6 (by decide) f61 (fun _ h9 => h9) rfl dX1_offset_8 ?_
  refine W.eq (congrArg (fun z => F0 m 11 ls (.int z :: [.int (bI (0 ≤ p2.toInt ∧ p2.toInt ≤ 1)), .ref m9])) (hd_b hhd)) ?_
  refine lv_iload_n hx hb dX1_offset_11 rfl (lv_at hl 1 rfl) ?_
  refine lv_iconst (v := 0) hx hb dX1_offset_12 (by decide) ?_
  refine lv_ldc (v := 1000000) hx hb hown k39 dX1_offset_13 ?_
  refine vp_callSi (W.runS (As := [.int p1, .int 0, .int 1000000]) (rest := [.int (bI (hd.toInt = 1)), .int (bI (0 ≤ p2.toInt ∧ p2.toInt ≤ 1)), .ref m9]) ⟨hx, hb, hml, hown, hts⟩ (c_X1_in l p1 0 1000000 0 1000000 (by decide) (by decide)) (va_cwS 3 hts (gS wl_X1_40 ws_X1_in wi_X1 wc_X1_in) rfl rfl rfl (by decide +kernel) ⟨Nat.le_of_ble_eq_true rfl, Nat.le_of_ble_eq_true rfl⟩) ⟨fun _ _ _ _ q => q, fun U hU hW => ⟨rfl, trivial⟩⟩ rfl rfl hl.1 rfl (lv_room (Nat.le_of_ble_eq_true rfl)) dX1_offset_15 ⟨Nat.le_of_ble_eq_true rfl, Nat.le_of_ble_eq_true rfl⟩) (fun r15 h15 => ?_)
  subst h15
  refine lv_iconst (v := 1) hx hb dX1_offset_18 (by decide) ?_
  have hFc := va_free (wc := (wM m9 b1 b2 b3 b4 b5 b6 cI S F D J X Y th n ar sl hd hu hw im tc fa up dn)) hD hS hA [0, 1, 2, 3, 4, 5, 6] rfl
  refine va_calli (va_runV (As := [.int (bI (0 ≤ p2.toInt ∧ p2.toInt ≤ 1)), .int (bI (hd.toInt = 1)), .int (bI (0 ≤ p1.toInt ∧ p1.toInt ≤ 1000000)), .int 1]) (rest := []) ⟨hx, hb, hml, hown, hts⟩ (c_X1_goes l dC dI s.heap.size m9 b1 b2 b3 b4 b5 b6 cI S F D J X Y th n ar sl hd hu hw im tc fa up dn (0 ≤ p2.toInt ∧ p2.toInt ≤ 1) (hd.toInt = 1) (0 ≤ p1.toInt ∧ p1.toInt ≤ 1000000) True) (cwV 4 hts (gV wl_X1_47 wi_X1_goes wv_X1_goes wi_X1 wc_X1_goes) rfl rfl rfl (by decide +kernel) ⟨Nat.le_of_ble_eq_true rfl, Nat.le_of_ble_eq_true rfl⟩) ⟨fun a U g mk q => ⟨q.1, q.2.1, q.2.2.1, va_K.moved (u := U) (U := U.calling g mk a) (Vm.Alike.refl U.vm) q.2.2.2.1, q.2.2.2.2⟩, va_recv hK hP (ci := 1) (q0 := 0) rfl rfl, fun U hU hW => ⟨rfl, by rw [hU], by rw [hU]; exact hP, va_K.moved hW.alike hK, hD.weaken (fun _ _ _ _ => trivial)⟩⟩ rfl rfl hl.1 rfl (lv_room (Nat.le_of_ble_eq_true rfl)) dX1_offset_19 ⟨Nat.le_of_ble_eq_true rfl, Nat.le_of_ble_eq_true rfl⟩) hS (fun q _ h => hFc q h) hFc (fun r19 u19 t H1 locs ht hvm h19 hB hz1 hk1 hS => ?_)
  obtain ⟨hP1, hK1, hD1⟩ := hB
  rw [ht] at hP1
  obtain ⟨hP, hD⟩ := va_join (wr := []) (w1 := (wM m9 b1 b2 b3 b4 b5 b6 cI S F D J X Y (kd4 (0 ≤ p2.toInt ∧ p2.toInt ≤ 1) (hd.toInt = 1) (0 ≤ p1.toInt ∧ p1.toInt ≤ 1000000) True) n ar sl hd hu hw im tc fa up dn)) hP hD [0, 1, 2, 3, 4, 5, 6] [] rfl rfl (by decide) (by decide) hk1 hFc hP1 hD1
  generalize H1 = H at hP hS ⊢
  have hP : va_P (dC, dI) vwCl (wM m9 b1 b2 b3 b4 b5 b6 cI S F D J X Y (kd4 (0 ≤ p2.toInt ∧ p2.toInt ≤ 1) (hd.toInt = 1) (0 ≤ p1.toInt ∧ p1.toInt ≤ 1000000) True) n ar sl hd hu hw im tc fa up dn) H := hP
  have hD : va_D A (wM m9 b1 b2 b3 b4 b5 b6 cI S F D J X Y (kd4 (0 ≤ p2.toInt ∧ p2.toInt ≤ 1) (hd.toInt = 1) (0 ≤ p1.toInt ∧ p1.toInt ≤ 1000000) True) n ar sl hd hu hw im tc fa up dn) := hD
  subst h19
  refine lv_if_ne (tgt := 27) hx hb dX1_offset_22 (by decide) (fun c22 => ?_) (fun c22 => ?_)
  · -- taken at 22
    have c22 := bI_ne0.mp c22
    obtain ⟨e1, e2, e3, -⟩ := kd_z c22
    obtain ⟨e4, e5⟩ := hH e2
    have L29 : ∀ (f : Nat) (k : Nat) (ls : Array Slot), n + 2 ≤ k + f → (1 ≤ k) → (k ≤ n + 1) → (∀ j, 1 ≤ j → j < k → ¬ mtg (exm S F hu hw sl p1) j) → lv_has ls 8 [(3, .int (nI k)), (0, .ref m9), (1, .int p1), (2, .int p2)] → W p l e (headSpec wsX1_offset ({ frames := 1, cells := 0, slots := 0, locals := 31 })).room s m ([.ref m9, .int p1, .int p2] : List Value).toArray below meth c H locs 0 0 (MQ below (va_Ql (fun r (u : Int64 × Int64) => kd4 (0 ≤ p2.toInt ∧ p2.toInt ≤ 1) (hd.toInt = 1) (0 ≤ p1.toInt ∧ p1.toInt ≤ 1000000) True = 0 → ofs F n (exm S F hu hw sl p1) p2.toInt r) (fun (u : Int64 × Int64) t => at_w dC dI cI A (wM m9 b1 b2 b3 b4 b5 b6 cI S F D J X Y (kd4 (0 ≤ p2.toInt ∧ p2.toInt ≤ 1) (hd.toInt = 1) (0 ≤ p1.toInt ∧ p1.toInt ≤ 1000000) True) n ar sl hd hu hw im tc fa u.1 u.2) t) A) ([.ref m9, .int p1, .int p2] : List Value).toArray s 0 0 A) (F0 m 29 ls []) := by
      intro f
      induction f with
      | zero => intro k ls hm hk hk2 ha hl; exact absurd hm (by omega)
      | succ f ih =>
        intro k ls hm hk hk2 ha hl
        refine lv_iload_n hx hb dX1_offset_29 rfl (lv_at hl 0 rfl) ?_
        refine lv_aload_n hx hb dX1_offset_30 rfl (lv_at hl 1 rfl) ?_
        refine va_get (D := (dC, dI)) (ci := 1) (v := .int (nI n)) (C := RX1) (T := TX1) (N := 18) hx hb hts hinX1 hown hK hP 0 rfl rfl 1 (by decide) f44 (fun _ h9 => h9) rfl dX1_offset_31 ?_
        refine lv_icmp_ge (tgt := 109) hx hb dX1_offset_34 (by decide) (fun c34 => ?_) (fun c34 => ?_)
        · -- taken at 34
          have c34 : n ≤ k := (nI_leI (a := n) (b := k) (by omega) (by omega)).mp c34
          refine lv_iload_n hx hb dX1_offset_109 rfl (lv_at hl 3 rfl) ?_
          refine lv_if_ne (tgt := 119) hx hb dX1_offset_110 (by decide) (fun c110 => ?_) (fun c110 => ?_)
          · -- taken at 110
            have c110 : ¬ p2.toInt = 0 := fun q9 => c110 ((Int32.toInt_inj.symm).mpr q9)
            refine lv_lconst (v := 0) hx hb dX1_offset_119 (by decide) ?_
            exact W.lret (v := 0) hx hb hr (fun t ht hW => ⟨⟨0, (up, dn), rfl, fun _ => Or.inr ⟨fun j h1 h2 => ha j h1 (by omega), Or.inr ⟨c110, rfl⟩⟩, ⟨by rw [ht]; exact hP, va_K.moved hW.alike hK, hD⟩⟩, hS.F ht⟩) hS.2.2 dX1_offset_120
          · -- not taken at 110
            have c110 : p2.toInt = 0 := (Int32.toInt_inj.symm).mp c110
            refine lv_ldc2 (v := (-9223372036854775808)) hx hb hown k75 dX1_offset_113 ?_
            refine lv_goto (tgt := 120) hx hb dX1_offset_116 (by decide) ?_
            exact W.lret (v := (-9223372036854775808)) hx hb hr (fun t ht hW => ⟨⟨(-9223372036854775808), (up, dn), rfl, fun _ => Or.inr ⟨fun j h1 h2 => ha j h1 (by omega), Or.inl ⟨c110, rfl⟩⟩, ⟨by rw [ht]; exact hP, va_K.moved hW.alike hK, hD⟩⟩, hS.F ht⟩) hS.2.2 dX1_offset_120
        · -- not taken at 34
          have c34 : ¬ n ≤ k := fun q9 => c34 ((nI_leI (a := n) (b := k) (by omega) (by omega)).mpr q9)
          refine lv_aload_n hx hb dX1_offset_37 rfl (lv_at hl 1 rfl) ?_
          refine lv_iload_n hx hb dX1_offset_38 rfl (lv_at hl 0 rfl) ?_
          refine lv_iconst (v := 1) hx hb dX1_offset_39 (by decide) ?_
          refine lv_isub hx hb dX1_offset_40 ?_
          refine lv_iload_n hx hb dX1_offset_41 rfl (lv_at hl 2 rfl) ?_
          refine vp_callSl (W.runV (As := [.int ((nI k) - 1), .int p1]) (rest := []) ⟨hx, hb, hml, hown, hts⟩ (c_X1_above l dC dI m9 b1 b2 b3 b4 b5 b6 cI S F D J X Y (kd4 (0 ≤ p2.toInt ∧ p2.toInt ≤ 1) (hd.toInt = 1) (0 ≤ p1.toInt ∧ p1.toInt ≤ 1000000) True) n ar sl hd hu hw im tc fa up dn ((nI k) - 1) p1 (k - 1) (nI_sub1 (by omega) (by omega)) (by omega)) (cwV 2 hts (gV wl_X1_71 wi_X1_above wv_X1_above wi_X1 wc_X1_above) rfl rfl rfl (by decide +kernel) ⟨Nat.le_of_ble_eq_true rfl, Nat.le_of_ble_eq_true rfl⟩) ⟨fun a U g mk q => ⟨q.1, q.2.1, va_K.moved (u := U) (U := U.calling g mk a) (Vm.Alike.refl U.vm) q.2.2⟩, va_recv hK hP (ci := 1) (q0 := 0) rfl rfl, fun U hU hW => ⟨rfl, by rw [hU]; exact hP, va_K.moved hW.alike hK⟩⟩ rfl rfl hl.1 rfl (lv_room (Nat.le_of_ble_eq_true rfl)) dX1_offset_42 ⟨Nat.le_of_ble_eq_true rfl, Nat.le_of_ble_eq_true rfl⟩) (fun r42 h42 => ?_)
          subst h42
          refine lv_lstore (lv' := [(4, .long (exm S F hu hw sl p1 (k - 1))), (3, .int (nI k)), (0, .ref m9), (1, .int p1), (2, .int p2)]) hx hb dX1_offset_45 hl (by decide) rfl (fun ls hl => ?_)
          refine lv_aload_n hx hb dX1_offset_47 rfl (lv_at hl 2 rfl) ?_
          refine lv_iload_n hx hb dX1_offset_48 rfl (lv_at hl 1 rfl) ?_
          refine lv_iload_n hx hb dX1_offset_49 rfl (lv_at hl 3 rfl) ?_
          refine vp_callSl (W.runV (As := [.int (nI k), .int p1]) (rest := []) ⟨hx, hb, hml, hown, hts⟩ (c_X1_above l dC dI m9 b1 b2 b3 b4 b5 b6 cI S F D J X Y (kd4 (0 ≤ p2.toInt ∧ p2.toInt ≤ 1) (hd.toInt = 1) (0 ≤ p1.toInt ∧ p1.toInt ≤ 1000000) True) n ar sl hd hu hw im tc fa up dn (nI k) p1 k (nI_toInt (by omega)) (by omega)) (cwV 2 hts (gV wl_X1_71 wi_X1_above wv_X1_above wi_X1 wc_X1_above) rfl rfl rfl (by decide +kernel) ⟨Nat.le_of_ble_eq_true rfl, Nat.le_of_ble_eq_true rfl⟩) ⟨fun a U g mk q => ⟨q.1, q.2.1, va_K.moved (u := U) (U := U.calling g mk a) (Vm.Alike.refl U.vm) q.2.2⟩, va_recv hK hP (ci := 1) (q0 := 0) rfl rfl, fun U hU hW => ⟨rfl, by rw [hU]; exact hP, va_K.moved hW.alike hK⟩⟩ rfl rfl hl.1 rfl (lv_room (Nat.le_of_ble_eq_true rfl)) dX1_offset_50 ⟨Nat.le_of_ble_eq_true rfl, Nat.le_of_ble_eq_true rfl⟩) (fun r50 h50 => ?_)
          subst h50
          refine lv_lstore (lv' := [(6, .long (exm S F hu hw sl p1 k)), (4, .long (exm S F hu hw sl p1 (k - 1))), (3, .int (nI k)), (0, .ref m9), (1, .int p1), (2, .int p2)]) hx hb dX1_offset_53 hl (by decide) rfl (fun ls hl => ?_)
          refine lv_lload hx hb dX1_offset_55 (lv_at hl 1 rfl) ?_
          refine lv_lconst (v := 0) hx hb dX1_offset_57 (by decide) ?_
          refine W.lcmp hx hb dX1_offset_58 ?_
          refine lv_if_le (tgt := 103) hx hb dX1_offset_59 (by decide) (fun c59 => ?_) (fun c59 => ?_)
          · -- taken at 59
            have c59 := (lg_cmp_le _ _).mp c59
            have c59 : (exm S F hu hw sl p1 (k - 1)).toInt ≤ 0 := (Int64.le_iff_toInt_le).mp c59
            refine lv_iinc (v := nI (k + 1)) (lv' := [(3, .int (nI (k + 1))), (6, .long (exm S F hu hw sl p1 k)), (4, .long (exm S F hu hw sl p1 (k - 1))), (0, .ref m9), (1, .int p1), (2, .int p2)]) hx hb dX1_offset_103 hl (k := 2) rfl ((nI_succ _).symm) (by decide) rfl (fun ls hl => ?_)
            refine lv_goto (tgt := 29) hx hb dX1_offset_106 (by decide) ?_
            exact ih (k + 1) ls (by omega) (by omega) (by omega) (ext_up ha (fun q => by have := q.1; have := q.2; omega)) (lv_sub hl [0, 3, 4, 5] rfl)
          · -- not taken at 59
            have c59 := fun q9 => c59 ((lg_cmp_le _ _).mpr q9)
            have c59 : ¬ (exm S F hu hw sl p1 (k - 1)).toInt ≤ 0 := fun q9 => c59 ((Int64.le_iff_toInt_le).mpr q9)
            refine lv_lload hx hb dX1_offset_62 (lv_at hl 0 rfl) ?_
            refine lv_lconst (v := 0) hx hb dX1_offset_64 (by decide) ?_
            refine W.lcmp hx hb dX1_offset_65 ?_
            refine lv_if_gt (tgt := 103) hx hb dX1_offset_66 (by decide) (fun c66 => ?_) (fun c66 => ?_)
            · -- taken at 66
              have c66 := (lg_cmp_gt _ _).mp c66
              have c66 : 0 < (exm S F hu hw sl p1 k).toInt := (Int64.lt_iff_toInt_lt).mp c66
              refine lv_iinc (v := nI (k + 1)) (lv' := [(3, .int (nI (k + 1))), (6, .long (exm S F hu hw sl p1 k)), (4, .long (exm S F hu hw sl p1 (k - 1))), (0, .ref m9), (1, .int p1), (2, .int p2)]) hx hb dX1_offset_103 hl (k := 2) rfl ((nI_succ _).symm) (by decide) rfl (fun ls hl => ?_)
              refine lv_goto (tgt := 29) hx hb dX1_offset_106 (by decide) ?_
              exact ih (k + 1) ls (by omega) (by omega) (by omega) (ext_up ha (fun q => by have := q.1; have := q.2; omega)) (lv_sub hl [0, 3, 4, 5] rfl)
            · -- not taken at 66
              have c66 := fun q9 => c66 ((lg_cmp_gt _ _).mpr q9)
              have c66 : ¬ 0 < (exm S F hu hw sl p1 k).toInt := fun q9 => c66 ((Int64.lt_iff_toInt_lt).mpr q9)
              obtain ⟨g1, g2, g3, g4, g5⟩ := off_m hsl e3 e4 e5 (hSb k (by omega)) (hSb (k - 1) (by omega)) (hFb k (by omega)) (hFb (k - 1) (by omega)) c59 c66
              refine lv_aload_n hx hb dX1_offset_69 rfl (lv_at hl 3 rfl) ?_
              refine lv_aload_n hx hb dX1_offset_70 rfl (lv_at hl 3 rfl) ?_
              refine va_get (D := (dC, dI)) (ci := 1) (v := .ref b2) (C := RX1) (T := TX1) (N := 18) hx hb hts hinX1 hown hK hP 0 rfl rfl 3 (by decide) f13 (fun _ h9 => h9) rfl dX1_offset_71 ?_
              refine lv_iload_n hx hb dX1_offset_74 rfl (lv_at hl 2 rfl) ?_
              refine va_iald (D := (dC, dI)) hx hb hK hP 2 0 rfl rfl (vp_in_nI (show k < 40 by omega) (by decide)) dX1_offset_75 ?_
              refine W.eq (congrArg (fun z => F0 m 76 ls (.int z :: [.ref m9])) (congrArg F (nI_clamp (show k < 2 ^ 31 by omega)))) ?_
              refine lv_i2l hx hb dX1_offset_76 rfl ?_
              refine lv_lload hx hb dX1_offset_77 (lv_at hl 1 rfl) ?_
              refine lv_lmul hx hb dX1_offset_79 ?_
              refine lv_aload_n hx hb dX1_offset_80 rfl (lv_at hl 3 rfl) ?_
              refine va_get (D := (dC, dI)) (ci := 1) (v := .ref b2) (C := RX1) (T := TX1) (N := 18) hx hb hts hinX1 hown hK hP 0 rfl rfl 3 (by decide) f13 (fun _ h9 => h9) rfl dX1_offset_81 ?_
              refine lv_iload_n hx hb dX1_offset_84 rfl (lv_at hl 2 rfl) ?_
              refine lv_iconst (v := 1) hx hb dX1_offset_85 (by decide) ?_
              refine lv_isub hx hb dX1_offset_86 ?_
              refine va_iald (D := (dC, dI)) hx hb hK hP 2 0 rfl rfl (by rw [nI_p1 (show 1 ≤ k by omega)]; exact vp_in_nI (show k - 1 < 40 by omega) (by decide)) dX1_offset_87 ?_
              refine W.eq (congrArg (fun z => F0 m 88 ls (.int z :: [.long (((F k).toInt64) * (exm S F hu hw sl p1 (k - 1))), .ref m9])) (congrArg F (show ((nI k) - 1).toNatClampNeg = k - 1 from by rw [nI_p1 (show 1 ≤ k by omega)]; exact nI_clamp (show k - 1 < 2 ^ 31 by omega)))) ?_
              refine lv_i2l hx hb dX1_offset_88 rfl ?_
              refine lv_lload hx hb dX1_offset_89 (lv_at hl 0 rfl) ?_
              refine lv_lmul hx hb dX1_offset_91 ?_
              refine lv_lsub hx hb dX1_offset_92 ?_
              refine lv_lload hx hb dX1_offset_93 (lv_at hl 1 rfl) ?_
              refine lv_lload hx hb dX1_offset_95 (lv_at hl 0 rfl) ?_
              refine lv_lsub hx hb dX1_offset_97 ?_
              refine lv_iload_n hx hb dX1_offset_98 rfl (lv_at hl 5 rfl) ?_
              have hFc := va_free (wc := (wM m9 b1 b2 b3 b4 b5 b6 cI S F D J X Y (kd4 (0 ≤ p2.toInt ∧ p2.toInt ≤ 1) (hd.toInt = 1) (0 ≤ p1.toInt ∧ p1.toInt ≤ 1000000) True) n ar sl hd hu hw im tc fa up dn)) hD hS hA [0, 1, 2, 3, 4, 5, 6] rfl
              refine va_calll (va_runV (As := [.long ((((F k).toInt64) * (exm S F hu hw sl p1 (k - 1))) - (((F (k - 1)).toInt64) * (exm S F hu hw sl p1 k))), .long ((exm S F hu hw sl p1 (k - 1)) - (exm S F hu hw sl p1 k)), .int p2]) (rest := []) ⟨hx, hb, hml, hown, hts⟩ (c_X1_part l dC dI H.size m9 b1 b2 b3 b4 b5 b6 cI S F D J X Y (kd4 (0 ≤ p2.toInt ∧ p2.toInt ≤ 1) (hd.toInt = 1) (0 ≤ p1.toInt ∧ p1.toInt ≤ 1000000) True) n ar sl hd hu hw im tc fa up dn ((((F k).toInt64) * (exm S F hu hw sl p1 (k - 1))) - (((F (k - 1)).toInt64) * (exm S F hu hw sl p1 k))) ((exm S F hu hw sl p1 (k - 1)) - (exm S F hu hw sl p1 k)) p2 g3 g4) (cwV 3 hts (gV wl_X1_57 wi_X1_part wv_X1_part wi_X1 wc_X1_part) rfl rfl rfl (by decide +kernel) ⟨Nat.le_of_ble_eq_true rfl, Nat.le_of_ble_eq_true rfl⟩) ⟨fun a U g mk q => ⟨q.1, q.2.1, q.2.2.1, va_K.moved (u := U) (U := U.calling g mk a) (Vm.Alike.refl U.vm) q.2.2.2.1, q.2.2.2.2⟩, va_recv hK hP (ci := 1) (q0 := 0) rfl rfl, fun U hU hW => ⟨rfl, by rw [hU], by rw [hU]; exact hP, va_K.moved hW.alike hK, hD.weaken (fun _ _ _ _ => trivial)⟩⟩ rfl rfl hl.1 rfl (lv_room (Nat.le_of_ble_eq_true rfl)) dX1_offset_99 ⟨Nat.le_of_ble_eq_true rfl, Nat.le_of_ble_eq_true rfl⟩) hS (fun q _ h => hFc q h) hFc (fun r99 u99 t H1 locs ht hvm h99 hB hz1 hk1 hS => ?_)
              obtain ⟨hP1, hK1, hD1⟩ := hB
              rw [ht] at hP1
              obtain ⟨hP, hD⟩ := va_join (wr := []) (w1 := (wM m9 b1 b2 b3 b4 b5 b6 cI S F D J X Y (kd4 (0 ≤ p2.toInt ∧ p2.toInt ≤ 1) (hd.toInt = 1) (0 ≤ p1.toInt ∧ p1.toInt ≤ 1000000) True) n ar sl hd hu hw im tc fa u99.1 u99.2)) hP hD [0, 1, 2, 3, 4, 5, 6] [] rfl rfl (by decide) (by decide) hk1 hFc hP1 hD1
              generalize H1 = H at hP hS ⊢
              have hP : va_P (dC, dI) vwCl (wM m9 b1 b2 b3 b4 b5 b6 cI S F D J X Y (kd4 (0 ≤ p2.toInt ∧ p2.toInt ≤ 1) (hd.toInt = 1) (0 ≤ p1.toInt ∧ p1.toInt ≤ 1000000) True) n ar sl hd hu hw im tc fa u99.1 u99.2) H := hP
              have hD : va_D A (wM m9 b1 b2 b3 b4 b5 b6 cI S F D J X Y (kd4 (0 ≤ p2.toInt ∧ p2.toInt ≤ 1) (hd.toInt = 1) (0 ≤ p1.toInt ∧ p1.toInt ≤ 1000000) True) n ar sl hd hu hw im tc fa u99.1 u99.2) := hD
              exact W.lret (v := r99) hx hb hr (fun t ht hW => ⟨⟨r99, (u99.1, u99.2), rfl, fun _ => Or.inl ⟨k, hk, by omega, ⟨by omega, by omega⟩, ha, sl_r g1 g2 h99.1⟩, ⟨by rw [ht]; exact hP, va_K.moved hW.alike hK, hD⟩⟩, hS.F ht⟩) hS.2.2 dX1_offset_102
    refine lv_iconst (v := 1) hx hb dX1_offset_27 (by decide) ?_
    refine lv_istore_n (lv' := [(3, .int 1), (0, .ref m9), (1, .int p1), (2, .int p2)]) hx hb dX1_offset_28 rfl hl (by decide) rfl (fun ls hl => ?_)
    exact L29 (n + 2) 1 ls (by omega) (by decide) (by omega) (fun j h1 h2 => absurd h1 (by omega)) (lv_sub hl [0, 1, 2, 3] rfl)
  · -- not taken at 22
    have c22 := bI_eq0.mp c22
    refine lv_lconst (v := 0) hx hb dX1_offset_25 (by decide) ?_
    exact W.lret (v := 0) hx hb hr (fun t ht hW => ⟨⟨0, (up, dn), rfl, fun q => absurd q c22, ⟨by rw [ht]; exact hP, va_K.moved hW.alike hK, hD⟩⟩, hS.F ht⟩) hS.2.2 dX1_offset_26
