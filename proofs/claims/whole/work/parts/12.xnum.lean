set_option maxHeartbeats 4000000 in
set_option maxRecDepth 100000 in
theorem c_X0_greatestCommonDivisor (l : Launch) (y1 y2 : Int64) (a b : Nat) (h1 : y1.toInt = (a : Int)) (h2 : y2.toInt = (b : Int)) (hb41 : b ≤ 2 ^ 41) : Met l yX0_greatestCommonDivisor wsX0_greatestCommonDivisor ({ frames := 0, cells := 0, slots := 0, locals := 0 }) (va_Pc [.long y1, .long y2] (fun U => True)) (vp_Sl (fun r => r.toInt = (Nat.gcd a b : Int))) 0 0 (fun _ => False) := by
  refine Met.ofW (cc := cX0_greatestCommonDivisor) (maxL := 11) (ret := (some .long)) (by decide) rfl ?_
  intro p e s m args below meth c s₁ B hml hv
  obtain ⟨rfl, -⟩ := hv
  have hx := B.exec
  have hb := B.bytes
  have hr := B.returns
  have hts := atoms_spec (ws := wsX0_greatestCommonDivisor) B.pre
  have hown : s.vm.findClass RX0 = some m.cls := findClass_of_methodNamed B.named
  have hlocks := B.notSynchronized
  have hl := lv_entry ([.long y1, .long y2]) (n := 11) (Nat.le_of_ble_eq_true rfl)
  rw [lg_entry_eq]
  generalize (lg_sl ([.long y1, .long y2]) ++ List.replicate (11 - (lg_sl ([.long y1, .long y2])).length) Slot.unset).toArray = ls at hl ⊢
  have hl : lv_has ls 11 [(0, .long y1), (2, .long y2)] := hl
  have L9 : ∀ (f : Nat) (i : Nat) (u : Nat) (v : Nat) (g1 : Int64) (g2 : Int64) (ls : Array Slot), 101 ≤ i + f → (i ≤ 100) → (g1.toInt = (u : Int)) → (g2.toInt = (v : Int)) → (eu_inv a b i u v) → lv_has ls 11 [(8, .int (nI i)), (6, .long g2), (4, .long g1)] → W p l e (headSpec wsX0_greatestCommonDivisor ({ frames := 0, cells := 0, slots := 0, locals := 0 })).room s m ([.long y1, .long y2] : List Value).toArray below meth c s.heap [] 0 0 (MQ below (vp_Sl (fun r => r.toInt = (Nat.gcd a b : Int))) ([.long y1, .long y2] : List Value).toArray s 0 0 (fun _ => False)) (F0 m 9 ls []) := by
    intro f
    induction f with
    | zero => intro i u v g1 g2 ls hm hi hu hv he hl; exact absurd hm (by omega)
    | succ f ih =>
      intro i u v g1 g2 ls hm hi hu hv he hl
      refine lv_iload hx hb dX0_greatestCommonDivisor_9 (lv_at hl 0 rfl) ?_
      refine lv_bipush (v := 100) hx hb dX0_greatestCommonDivisor_11 (by decide) ?_
      refine lv_icmp_ge (tgt := 44) hx hb dX0_greatestCommonDivisor_13 (by decide) (fun c13 => ?_) (fun c13 => ?_)
      · -- taken at 13
        have c13 : 100 ≤ i := (nI_leI (a := 100) (b := i) (by omega) (by omega)).mp c13
        refine lv_lload hx hb dX0_greatestCommonDivisor_44 (lv_at hl 2 rfl) ?_
        exact W.lret (v := g1) hx hb hr (fun t ht hW => ⟨g1, rfl, eu_out he hu (by first | exact eu_end (show i = 100 by omega) he | omega), ht⟩) t_nil dX0_greatestCommonDivisor_46
      · -- not taken at 13
        have c13 : ¬ 100 ≤ i := fun q9 => c13 ((nI_leI (a := 100) (b := i) (by omega) (by omega)).mpr q9)
        refine lv_lload hx hb dX0_greatestCommonDivisor_16 (lv_at hl 1 rfl) ?_
        refine lv_lconst (v := 0) hx hb dX0_greatestCommonDivisor_18 (by decide) ?_
        refine W.lcmp hx hb dX0_greatestCommonDivisor_19 ?_
        refine lv_if_eq (tgt := 44) hx hb dX0_greatestCommonDivisor_20 (by decide) (fun c20 => ?_) (fun c20 => ?_)
        · -- taken at 20
          have c20 := (lg_cmp_eq _ _).mp c20
          have c20 : g2.toInt = 0 := (Int64.toInt_inj.symm).mp c20
          refine lv_lload hx hb dX0_greatestCommonDivisor_44 (lv_at hl 2 rfl) ?_
          exact W.lret (v := g1) hx hb hr (fun t ht hW => ⟨g1, rfl, eu_out he hu (by first | exact eu_end (show i = 100 by omega) he | omega), ht⟩) t_nil dX0_greatestCommonDivisor_46
        · -- not taken at 20
          have c20 := fun q9 => c20 ((lg_cmp_eq _ _).mpr q9)
          have c20 : ¬ g2.toInt = 0 := fun q9 => c20 ((Int64.toInt_inj.symm).mpr q9)
          refine lv_lload hx hb dX0_greatestCommonDivisor_23 (lv_at hl 2 rfl) ?_
          refine lv_lload hx hb dX0_greatestCommonDivisor_25 (lv_at hl 1 rfl) ?_
          refine lv_lrem hx hb dX0_greatestCommonDivisor_27 (fun q => c20 (by rw [q]; rfl)) ?_
          refine lv_lstore (lv' := [(9, .long (g1 - g1 / g2 * g2)), (8, .int (nI i)), (6, .long g2), (4, .long g1)]) hx hb dX0_greatestCommonDivisor_28 hl (by decide) rfl (fun ls hl => ?_)
          refine lv_lload hx hb dX0_greatestCommonDivisor_30 (lv_at hl 2 rfl) ?_
          refine lv_lstore (lv' := [(4, .long g2), (9, .long (g1 - g1 / g2 * g2)), (8, .int (nI i)), (6, .long g2)]) hx hb dX0_greatestCommonDivisor_32 hl (by decide) rfl (fun ls hl => ?_)
          refine lv_lload hx hb dX0_greatestCommonDivisor_34 (lv_at hl 1 rfl) ?_
          refine lv_lstore (lv' := [(6, .long (g1 - g1 / g2 * g2)), (4, .long g2), (9, .long (g1 - g1 / g2 * g2)), (8, .int (nI i))]) hx hb dX0_greatestCommonDivisor_36 hl (by decide) rfl (fun ls hl => ?_)
          refine lv_iinc (v := nI (i + 1)) (lv' := [(8, .int (nI (i + 1))), (6, .long (g1 - g1 / g2 * g2)), (4, .long g2), (9, .long (g1 - g1 / g2 * g2))]) hx hb dX0_greatestCommonDivisor_38 hl (k := 3) rfl ((nI_succ _).symm) (by decide) rfl (fun ls hl => ?_)
          refine lv_goto (tgt := 9) hx hb dX0_greatestCommonDivisor_41 (by decide) ?_
          exact ih (i + 1) v (u % v) g2 (g1 - g1 / g2 * g2) ls (by omega) (by omega) hv (eu_rem hu hv) (eu_next he (by omega)) (lv_sub hl [0, 1, 2] rfl)
  refine lv_lload_n hx hb dX0_greatestCommonDivisor_0 rfl (lv_at hl 0 rfl) ?_
  refine lv_lstore (lv' := [(4, .long y1), (0, .long y1), (2, .long y2)]) hx hb dX0_greatestCommonDivisor_1 hl (by decide) rfl (fun ls hl => ?_)
  refine lv_lload_n hx hb dX0_greatestCommonDivisor_3 rfl (lv_at hl 2 rfl) ?_
  refine lv_lstore (lv' := [(6, .long y2), (4, .long y1), (0, .long y1), (2, .long y2)]) hx hb dX0_greatestCommonDivisor_4 hl (by decide) rfl (fun ls hl => ?_)
  refine lv_iconst (v := 0) hx hb dX0_greatestCommonDivisor_6 (by decide) ?_
  refine lv_istore (lv' := [(8, .int 0), (6, .long y2), (4, .long y1), (0, .long y1), (2, .long y2)]) hx hb dX0_greatestCommonDivisor_7 hl (by decide) rfl (fun ls hl => ?_)
  exact L9 101 0 a b y1 y2 ls (by omega) (by decide) h1 h2 (eu_0 hb41) (lv_sub hl [0, 1, 2] rfl)
set_option maxHeartbeats 4000000 in
set_option maxRecDepth 100000 in
theorem c_X0_partInLowestTerms (l : Launch) (y1 y2 : Int64) (p3 : Int32) (h1 : y1.toInt ≠ -2 ^ 63) (h2 : 0 < y2.toInt) (h3 : y2.toInt ≤ 2 ^ 41) : Met l yX0_partInLowestTerms wsX0_partInLowestTerms ({ frames := 1, cells := 0, slots := 0, locals := 30 }) (va_Pc [.long y1, .long y2, .int p3] (fun U => True)) (vp_Sl (fun r => r.toInt = fr y1.toInt y2.toInt p3.toInt)) 0 0 (fun _ => False) := by
  refine Met.ofW (cc := cX0_partInLowestTerms) (maxL := 9) (ret := (some .long)) (by decide) rfl ?_
  intro p e s m args below meth c s₁ B hml hv
  obtain ⟨rfl, -⟩ := hv
  have hx := B.exec
  have hb := B.bytes
  have hr := B.returns
  have hts := atoms_spec (ws := wsX0_partInLowestTerms) B.pre
  have hown : s.vm.findClass RX0 = some m.cls := findClass_of_methodNamed B.named
  have hlocks := B.notSynchronized
  have k188 := hts _ (List.mem_cons_of_mem _ wl_X0_188)
  have kst188 := hts _ (List.mem_cons_of_mem _ w_slab)
  have kinM := hts _ (List.mem_cons_of_mem _ wi_J)
  have kcode188 := hts _ (List.mem_cons_of_mem _ w_clab)
  have hl := lv_entry ([.long y1, .long y2, .int p3]) (n := 9) (Nat.le_of_ble_eq_true rfl)
  rw [lg_entry_eq]
  generalize (lg_sl ([.long y1, .long y2, .int p3]) ++ List.replicate (9 - (lg_sl ([.long y1, .long y2, .int p3])).length) Slot.unset).toArray = ls at hl ⊢
  have hl : lv_has ls 9 [(0, .long y1), (2, .long y2), (4, .int p3)] := hl
  refine lv_iload hx hb dX0_partInLowestTerms_0 (lv_at hl 2 rfl) ?_
  refine lv_if_ne (tgt := 9) hx hb dX0_partInLowestTerms_2 (by decide) (fun c2 => ?_) (fun c2 => ?_)
  · -- taken at 2
    have c2 : ¬ p3.toInt = 0 := fun q9 => c2 ((Int32.toInt_inj.symm).mpr q9)
    refine lv_lload_n hx hb dX0_partInLowestTerms_9 rfl (lv_at hl 1 rfl) ?_
    refine lv_lstore (lv' := [(5, .long y2), (0, .long y1), (2, .long y2), (4, .int p3)]) hx hb dX0_partInLowestTerms_10 hl (by decide) rfl (fun ls hl => ?_)
    refine lv_lload_n hx hb dX0_partInLowestTerms_12 rfl (lv_at hl 1 rfl) ?_
    refine va_mabs_long hx hb (by rw [hml]; exact hl.1.symm) hown k188 kst188 kinM kcode188 (Nat.le_of_ble_eq_true rfl) (Nat.le_of_ble_eq_true rfl) (Nat.le_of_ble_eq_true rfl) (Nat.le_of_ble_eq_true rfl) dX0_partInLowestTerms_13 ?_
    refine lv_lload_n hx hb dX0_partInLowestTerms_16 rfl (lv_at hl 2 rfl) ?_
    refine vp_callSl (W.runS (As := [.long (if 0 < y1 then y1 else -y1), .long y2]) (rest := []) ⟨hx, hb, hml, hown, hts⟩ (c_X0_greatestCommonDivisor l (if 0 < y1 then y1 else -y1) y2 y1.toInt.natAbs y2.toInt.natAbs (pit_abs h1) (pit_pos h2) (pit_41 h2 h3)) (va_cwS 2 hts (gS wl_X0_191 ws_X0_greatestCommonDivisor wi_X0 wc_X0_greatestCommonDivisor) rfl rfl rfl (by decide +kernel) ⟨Nat.le_of_ble_eq_true rfl, Nat.le_of_ble_eq_true rfl⟩) ⟨fun _ _ _ _ q => q, fun U hU hW => ⟨rfl, trivial⟩⟩ rfl rfl hl.1 rfl (lv_room (Nat.le_of_ble_eq_true rfl)) dX0_partInLowestTerms_17 ⟨Nat.le_of_ble_eq_true rfl, Nat.le_of_ble_eq_true rfl⟩) (fun r17 h17 => ?_)
    refine lv_lstore (lv' := [(7, .long r17), (5, .long y2), (0, .long y1), (2, .long y2), (4, .int p3)]) hx hb dX0_partInLowestTerms_20 hl (by decide) rfl (fun ls hl => ?_)
    refine lv_lload hx hb dX0_partInLowestTerms_22 (lv_at hl 0 rfl) ?_
    refine lv_lconst (v := 1) hx hb dX0_partInLowestTerms_24 (by decide) ?_
    refine W.lcmp hx hb dX0_partInLowestTerms_25 ?_
    refine lv_if_le (tgt := 37) hx hb dX0_partInLowestTerms_26 (by decide) (fun c26 => ?_) (fun c26 => ?_)
    · -- taken at 26
      have c26 := (lg_cmp_le _ _).mp c26
      have c26 : r17.toInt ≤ 1 := (Int64.le_iff_toInt_le).mp c26
      refine lv_lload hx hb dX0_partInLowestTerms_37 (lv_at hl 1 rfl) ?_
      exact W.lret (v := y2) hx hb hr (fun t ht hW => ⟨y2, rfl, pit_lk h1 h2 c2 h17 c26, ht⟩) t_nil dX0_partInLowestTerms_39
    · -- not taken at 26
      have c26 := fun q9 => c26 ((lg_cmp_le _ _).mpr q9)
      have c26 : ¬ r17.toInt ≤ 1 := fun q9 => c26 ((Int64.le_iff_toInt_le).mpr q9)
      refine lv_lload hx hb dX0_partInLowestTerms_29 (lv_at hl 1 rfl) ?_
      refine lv_lload hx hb dX0_partInLowestTerms_31 (lv_at hl 0 rfl) ?_
      refine lv_ldiv hx hb dX0_partInLowestTerms_33 (fun q => c26 (by rw [q]; decide)) ?_
      refine lv_goto (tgt := 39) hx hb dX0_partInLowestTerms_34 (by decide) ?_
      exact W.lret (v := y2 / r17) hx hb hr (fun t ht hW => ⟨y2 / r17, rfl, pit_ld h1 h2 c2 h17 c26, ht⟩) t_nil dX0_partInLowestTerms_39
  · -- not taken at 2
    have c2 : p3.toInt = 0 := (Int32.toInt_inj.symm).mp c2
    refine lv_lload_n hx hb dX0_partInLowestTerms_5 rfl (lv_at hl 0 rfl) ?_
    refine lv_goto (tgt := 10) hx hb dX0_partInLowestTerms_6 (by decide) ?_
    refine lv_lstore (lv' := [(5, .long y1), (0, .long y1), (2, .long y2), (4, .int p3)]) hx hb dX0_partInLowestTerms_10 hl (by decide) rfl (fun ls hl => ?_)
    refine lv_lload_n hx hb dX0_partInLowestTerms_12 rfl (lv_at hl 1 rfl) ?_
    refine va_mabs_long hx hb (by rw [hml]; exact hl.1.symm) hown k188 kst188 kinM kcode188 (Nat.le_of_ble_eq_true rfl) (Nat.le_of_ble_eq_true rfl) (Nat.le_of_ble_eq_true rfl) (Nat.le_of_ble_eq_true rfl) dX0_partInLowestTerms_13 ?_
    refine lv_lload_n hx hb dX0_partInLowestTerms_16 rfl (lv_at hl 2 rfl) ?_
    refine vp_callSl (W.runS (As := [.long (if 0 < y1 then y1 else -y1), .long y2]) (rest := []) ⟨hx, hb, hml, hown, hts⟩ (c_X0_greatestCommonDivisor l (if 0 < y1 then y1 else -y1) y2 y1.toInt.natAbs y2.toInt.natAbs (pit_abs h1) (pit_pos h2) (pit_41 h2 h3)) (va_cwS 2 hts (gS wl_X0_191 ws_X0_greatestCommonDivisor wi_X0 wc_X0_greatestCommonDivisor) rfl rfl rfl (by decide +kernel) ⟨Nat.le_of_ble_eq_true rfl, Nat.le_of_ble_eq_true rfl⟩) ⟨fun _ _ _ _ q => q, fun U hU hW => ⟨rfl, trivial⟩⟩ rfl rfl hl.1 rfl (lv_room (Nat.le_of_ble_eq_true rfl)) dX0_partInLowestTerms_17 ⟨Nat.le_of_ble_eq_true rfl, Nat.le_of_ble_eq_true rfl⟩) (fun r17 h17 => ?_)
    refine lv_lstore (lv' := [(7, .long r17), (5, .long y1), (0, .long y1), (2, .long y2), (4, .int p3)]) hx hb dX0_partInLowestTerms_20 hl (by decide) rfl (fun ls hl => ?_)
    refine lv_lload hx hb dX0_partInLowestTerms_22 (lv_at hl 0 rfl) ?_
    refine lv_lconst (v := 1) hx hb dX0_partInLowestTerms_24 (by decide) ?_
    refine W.lcmp hx hb dX0_partInLowestTerms_25 ?_
    refine lv_if_le (tgt := 37) hx hb dX0_partInLowestTerms_26 (by decide) (fun c26 => ?_) (fun c26 => ?_)
    · -- taken at 26
      have c26 := (lg_cmp_le _ _).mp c26
      have c26 : r17.toInt ≤ 1 := (Int64.le_iff_toInt_le).mp c26
      refine lv_lload hx hb dX0_partInLowestTerms_37 (lv_at hl 1 rfl) ?_
      exact W.lret (v := y1) hx hb hr (fun t ht hW => ⟨y1, rfl, pit_uk h1 h2 c2 h17 c26, ht⟩) t_nil dX0_partInLowestTerms_39
    · -- not taken at 26
      have c26 := fun q9 => c26 ((lg_cmp_le _ _).mpr q9)
      have c26 : ¬ r17.toInt ≤ 1 := fun q9 => c26 ((Int64.le_iff_toInt_le).mpr q9)
      refine lv_lload hx hb dX0_partInLowestTerms_29 (lv_at hl 1 rfl) ?_
      refine lv_lload hx hb dX0_partInLowestTerms_31 (lv_at hl 0 rfl) ?_
      refine lv_ldiv hx hb dX0_partInLowestTerms_33 (fun q => c26 (by rw [q]; decide)) ?_
      refine lv_goto (tgt := 39) hx hb dX0_partInLowestTerms_34 (by decide) ?_
      exact W.lret (v := y1 / r17) hx hb hr (fun t ht hW => ⟨y1 / r17, rfl, pit_ud h1 h2 c2 h17 c26, ht⟩) t_nil dX0_partInLowestTerms_39
set_option maxHeartbeats 4000000 in
set_option maxRecDepth 100000 in
theorem c_J_floorDiv (l : Launch) (y1 y2 : Int64) (h1 : -1000000000000 ≤ y1.toInt) (h2 : y1.toInt ≤ 1000000000000) (h3 : 1 ≤ y2.toInt) (h4 : y2.toInt ≤ 1000000000000) : Met l yJ_floorDiv wsJ_floorDiv ({ frames := 0, cells := 0, slots := 0, locals := 0 }) (va_Pc [.long y1, .long y2] (fun U => True)) (vp_Sl (fun r => r.toInt = y1.toInt / y2.toInt)) 0 0 (fun _ => False) := by
  refine va_MetF (cc := cJ_floorDiv) (maxL := 6) (ret := (some .long)) (by decide +kernel) rfl ?_
  intro p e s m args below meth c s₁ B hml hv
  obtain ⟨rfl, -⟩ := hv
  have hx := B.exec
  have hb := B.bytes
  have hr := B.returns
  have hts := atoms_spec (ws := wsJ_floorDiv) B.pre
  have hown : s.vm.findClass RJ = some m.cls := findClass_of_methodNamed B.named
  have hlocks := B.notSynchronized
  have hl := lv_entry ([.long y1, .long y2]) (n := 6) (Nat.le_of_ble_eq_true rfl)
  rw [lg_entry_eq]
  generalize (lg_sl ([.long y1, .long y2]) ++ List.replicate (6 - (lg_sl ([.long y1, .long y2])).length) Slot.unset).toArray = ls at hl ⊢
  have hl : lv_has ls 6 [(0, .long y1), (2, .long y2)] := hl
  refine lv_lload_n hx hb dJ_floorDiv_0 rfl (lv_at hl 0 rfl) ?_
  refine lv_lload_n hx hb dJ_floorDiv_1 rfl (lv_at hl 1 rfl) ?_
  refine lv_ldiv hx hb dJ_floorDiv_2 (fun q => by rw [q] at h3; exact absurd h3 (by decide)) ?_
  obtain ⟨e1, e2, e3, e4, e5, e6⟩ := fl_d h1 h2 h3 h4
  have e7 := fl_t (U := y1.toInt) h3
  have e8 := fl_k (U := y1.toInt) h3
  have e9 := xor_neg (x := y1) (y := y2) (by omega)
  refine lv_lstore (lv' := [(4, .long (y1 / y2)), (0, .long y1), (2, .long y2)]) hx hb dJ_floorDiv_3 hl (by decide) rfl (fun ls hl => ?_)
  refine lv_lload_n hx hb dJ_floorDiv_5 rfl (lv_at hl 1 rfl) ?_
  refine lv_lload_n hx hb dJ_floorDiv_6 rfl (lv_at hl 2 rfl) ?_
  refine lv_lxor hx hb dJ_floorDiv_7 ?_
  refine lv_lconst (v := 0) hx hb dJ_floorDiv_8 (by decide) ?_
  refine W.lcmp hx hb dJ_floorDiv_9 ?_
  refine lv_if_ge (tgt := 27) hx hb dJ_floorDiv_10 (by decide) (fun c10 => ?_) (fun c10 => ?_)
  · -- taken at 10
    have c10 := (lg_cmp_ge _ _).mp c10
    have c10 : 0 ≤ (y1 ^^^ y2).toInt := (Int64.le_iff_toInt_le).mp c10
    refine lv_lload hx hb dJ_floorDiv_27 (lv_at hl 0 rfl) ?_
    exact W.lret (v := y1 / y2) hx hb hr (fun t ht hW => ⟨y1 / y2, rfl, by omega, ht⟩) t_nil dJ_floorDiv_29
  · -- not taken at 10
    have c10 := fun q9 => c10 ((lg_cmp_ge _ _).mpr q9)
    have c10 : ¬ 0 ≤ (y1 ^^^ y2).toInt := fun q9 => c10 ((Int64.le_iff_toInt_le).mpr q9)
    refine lv_lload hx hb dJ_floorDiv_13 (lv_at hl 0 rfl) ?_
    refine lv_lload_n hx hb dJ_floorDiv_15 rfl (lv_at hl 2 rfl) ?_
    refine lv_lmul hx hb dJ_floorDiv_16 ?_
    refine lv_lload_n hx hb dJ_floorDiv_17 rfl (lv_at hl 1 rfl) ?_
    refine W.lcmp hx hb dJ_floorDiv_18 ?_
    refine lv_if_eq (tgt := 27) hx hb dJ_floorDiv_19 (by decide) (fun c19 => ?_) (fun c19 => ?_)
    · -- taken at 19
      have c19 := (lg_cmp_eq _ _).mp c19
      have c19 : ((y1 / y2) * y2).toInt = y1.toInt := (Int64.toInt_inj.symm).mp c19
      refine lv_lload hx hb dJ_floorDiv_27 (lv_at hl 0 rfl) ?_
      exact W.lret (v := y1 / y2) hx hb hr (fun t ht hW => ⟨y1 / y2, rfl, by omega, ht⟩) t_nil dJ_floorDiv_29
    · -- not taken at 19
      have c19 := fun q9 => c19 ((lg_cmp_eq _ _).mpr q9)
      have c19 : ¬ ((y1 / y2) * y2).toInt = y1.toInt := fun q9 => c19 ((Int64.toInt_inj.symm).mpr q9)
      refine lv_lload hx hb dJ_floorDiv_22 (lv_at hl 0 rfl) ?_
      refine lv_lconst (v := 1) hx hb dJ_floorDiv_24 (by decide) ?_
      refine lv_lsub hx hb dJ_floorDiv_25 ?_
      exact W.lret (v := (y1 / y2) - 1) hx hb hr (fun t ht hW => ⟨(y1 / y2) - 1, rfl, by omega, ht⟩) t_nil dJ_floorDiv_26
set_option maxHeartbeats 4000000 in
set_option maxRecDepth 100000 in
theorem c_X0_roundedByRule (l : Launch) (y1 y2 : Int64) (p3 : Int32) (h1 : -1000000000000 ≤ y1.toInt) (h2 : y1.toInt ≤ 1000000000000) (h3 : 1 ≤ y2.toInt) (h4 : y2.toInt ≤ 1000000000000) : Met l yX0_roundedByRule wsX0_roundedByRule ({ frames := 1, cells := 0, slots := 0, locals := 30 }) (va_Pc [.long y1, .long y2, .int p3] (fun U => True)) (vp_Sl (fun r => r.toInt = rnd y1.toInt y2.toInt p3.toInt)) 0 0 (fun _ => False) := by
  refine Met.ofW (cc := cX0_roundedByRule) (maxL := 11) (ret := (some .long)) (by decide) rfl ?_
  intro p e s m args below meth c s₁ B hml hv
  obtain ⟨rfl, -⟩ := hv
  have hx := B.exec
  have hb := B.bytes
  have hr := B.returns
  have hts := atoms_spec (ws := wsX0_roundedByRule) B.pre
  have hown : s.vm.findClass RX0 = some m.cls := findClass_of_methodNamed B.named
  have hlocks := B.notSynchronized
  have k186 := hts _ (List.mem_cons_of_mem _ wl_X0_186)
  have hl := lv_entry ([.long y1, .long y2, .int p3]) (n := 11) (Nat.le_of_ble_eq_true rfl)
  rw [lg_entry_eq]
  generalize (lg_sl ([.long y1, .long y2, .int p3]) ++ List.replicate (11 - (lg_sl ([.long y1, .long y2, .int p3])).length) Slot.unset).toArray = ls at hl ⊢
  have hl : lv_has ls 11 [(0, .long y1), (2, .long y2), (4, .int p3)] := hl
  refine lv_lload_n hx hb dX0_roundedByRule_0 rfl (lv_at hl 1 rfl) ?_
  refine lv_lconst (v := 1) hx hb dX0_roundedByRule_1 (by decide) ?_
  refine W.lcmp hx hb dX0_roundedByRule_2 ?_
  refine lv_if_ge (tgt := 8) hx hb dX0_roundedByRule_3 (by decide) (fun c3 => ?_) (fun c3 => ?_)
  · -- taken at 3
    have c3 := (lg_cmp_ge _ _).mp c3
    have c3 : 1 ≤ y2.toInt := (Int64.le_iff_toInt_le).mp c3
    refine lv_lload_n hx hb dX0_roundedByRule_8 rfl (lv_at hl 0 rfl) ?_
    refine lv_lload_n hx hb dX0_roundedByRule_9 rfl (lv_at hl 1 rfl) ?_
    refine vp_callSl (W.runS (As := [.long y1, .long y2]) (rest := []) ⟨hx, hb, hml, hown, hts⟩ (c_J_floorDiv l y1 y2 h1 h2 h3 h4) (va_cwS 2 hts (gS wl_X0_182 ws_J_floorDiv wi_J wc_J_floorDiv) rfl rfl rfl (by decide +kernel) ⟨Nat.le_of_ble_eq_true rfl, Nat.le_of_ble_eq_true rfl⟩) ⟨fun _ _ _ _ q => q, fun U hU hW => ⟨rfl, trivial⟩⟩ rfl rfl hl.1 rfl (lv_room (Nat.le_of_ble_eq_true rfl)) dX0_roundedByRule_10 ⟨Nat.le_of_ble_eq_true rfl, Nat.le_of_ble_eq_true rfl⟩) (fun r10 h10 => ?_)
    refine lv_lstore (lv' := [(5, .long r10), (0, .long y1), (2, .long y2), (4, .int p3)]) hx hb dX0_roundedByRule_13 hl (by decide) rfl (fun ls hl => ?_)
    refine lv_ldc2 (v := 2) hx hb hown k186 dX0_roundedByRule_15 ?_
    refine lv_lload_n hx hb dX0_roundedByRule_18 rfl (lv_at hl 1 rfl) ?_
    refine lv_lload hx hb dX0_roundedByRule_19 (lv_at hl 0 rfl) ?_
    refine lv_lload_n hx hb dX0_roundedByRule_21 rfl (lv_at hl 2 rfl) ?_
    refine lv_lmul hx hb dX0_roundedByRule_22 ?_
    refine lv_lsub hx hb dX0_roundedByRule_23 ?_
    refine lv_lmul hx hb dX0_roundedByRule_24 ?_
    refine lv_lstore (lv' := [(7, .long (2 * (y1 - (r10 * y2)))), (5, .long r10), (0, .long y1), (2, .long y2), (4, .int p3)]) hx hb dX0_roundedByRule_25 hl (by decide) rfl (fun ls hl => ?_)
    obtain ⟨e1, e2, e3⟩ := rbr_tw h1 h2 h3 h4 h10
    obtain ⟨e4, e5⟩ := rbr_up h1 h2 h3 h10
    refine lv_iload hx hb dX0_roundedByRule_27 (lv_at hl 4 rfl) ?_
    refine lv_iconst (v := 2) hx hb dX0_roundedByRule_29 (by decide) ?_
    refine lv_icmp_eq (tgt := 40) hx hb dX0_roundedByRule_30 (by decide) (fun c30 => ?_) (fun c30 => ?_)
    · -- taken at 30
      have c30 : p3.toInt = 2 := (Int32.toInt_inj.symm).mp c30
      refine lv_lload hx hb dX0_roundedByRule_40 (lv_at hl 1 rfl) ?_
      exact W.lret (v := r10) hx hb hr (fun t ht hW => ⟨r10, rfl, by rw [rnd_1 (by omega)]; exact h10, ht⟩) t_nil dX0_roundedByRule_42
    · -- not taken at 30
      have c30 : ¬ p3.toInt = 2 := fun q9 => c30 ((Int32.toInt_inj.symm).mpr q9)
      refine lv_lload hx hb dX0_roundedByRule_33 (lv_at hl 0 rfl) ?_
      refine lv_lload_n hx hb dX0_roundedByRule_35 rfl (lv_at hl 3 rfl) ?_
      refine W.lcmp hx hb dX0_roundedByRule_36 ?_
      refine lv_if_ge (tgt := 43) hx hb dX0_roundedByRule_37 (by decide) (fun c37 => ?_) (fun c37 => ?_)
      · -- taken at 37
        have c37 := (lg_cmp_ge _ _).mp c37
        have c37 : y2.toInt ≤ (2 * (y1 - (r10 * y2))).toInt := (Int64.le_iff_toInt_le).mp c37
        refine lv_lload hx hb dX0_roundedByRule_43 (lv_at hl 0 rfl) ?_
        refine lv_lload_n hx hb dX0_roundedByRule_45 rfl (lv_at hl 3 rfl) ?_
        refine W.lcmp hx hb dX0_roundedByRule_46 ?_
        refine lv_if_ne (tgt := 54) hx hb dX0_roundedByRule_47 (by decide) (fun c47 => ?_) (fun c47 => ?_)
        · -- taken at 47
          have c47 := fun q9 => c47 ((lg_cmp_eq _ _).mpr q9)
          have c47 : ¬ (2 * (y1 - (r10 * y2))).toInt = y2.toInt := fun q9 => c47 ((Int64.toInt_inj.symm).mpr q9)
          refine lv_iconst (v := 0) hx hb dX0_roundedByRule_54 (by decide) ?_
          refine lv_istore (lv' := [(9, .int 0), (7, .long (2 * (y1 - (r10 * y2)))), (5, .long r10), (0, .long y1), (2, .long y2), (4, .int p3)]) hx hb dX0_roundedByRule_55 hl (by decide) rfl (fun ls hl => ?_)
          refine lv_lload hx hb dX0_roundedByRule_57 (lv_at hl 2 rfl) ?_
          refine lv_lconst (v := 1) hx hb dX0_roundedByRule_59 (by decide) ?_
          refine lv_land hx hb dX0_roundedByRule_60 ?_
          refine lv_lconst (v := 0) hx hb dX0_roundedByRule_61 (by decide) ?_
          refine W.lcmp hx hb dX0_roundedByRule_62 ?_
          refine lv_if_ne (tgt := 70) hx hb dX0_roundedByRule_63 (by decide) (fun c63 => ?_) (fun c63 => ?_)
          · -- taken at 63
            have c63 := fun q9 => c63 ((lg_cmp_eq _ _).mpr q9)
            have c63 : ¬ (r10 &&& 1).toInt = 0 := fun q9 => c63 ((Int64.toInt_inj.symm).mpr q9)
            refine lv_iconst (v := 0) hx hb dX0_roundedByRule_70 (by decide) ?_
            refine lv_istore (lv' := [(10, .int 0), (9, .int 0), (7, .long (2 * (y1 - (r10 * y2)))), (5, .long r10), (0, .long y1), (2, .long y2), (4, .int p3)]) hx hb dX0_roundedByRule_71 hl (by decide) rfl (fun ls hl => ?_)
            refine lv_iload hx hb dX0_roundedByRule_73 (lv_at hl 1 rfl) ?_
            refine lv_if_eq (tgt := 94) hx hb dX0_roundedByRule_75 (by decide) (fun c75 => ?_) (fun c75 => ?_)
            · -- taken at 75
              refine lv_lload hx hb dX0_roundedByRule_94 (lv_at hl 3 rfl) ?_
              refine lv_lconst (v := 1) hx hb dX0_roundedByRule_96 (by decide) ?_
              refine lv_ladd hx hb dX0_roundedByRule_97 ?_
              exact W.lret (v := r10 + 1) hx hb hr (fun t ht hW => ⟨r10 + 1, rfl, by rw [rnd_3 (by omega) (by omega)]; exact e4, ht⟩) t_nil dX0_roundedByRule_98
            · -- not taken at 75
              exact absurd c75 (by decide)
          · -- not taken at 63
            have c63 := (lg_cmp_eq _ _).mp c63
            have c63 : (r10 &&& 1).toInt = 0 := (Int64.toInt_inj.symm).mp c63
            refine lv_iconst (v := 1) hx hb dX0_roundedByRule_66 (by decide) ?_
            refine lv_goto (tgt := 71) hx hb dX0_roundedByRule_67 (by decide) ?_
            refine lv_istore (lv' := [(10, .int 1), (9, .int 0), (7, .long (2 * (y1 - (r10 * y2)))), (5, .long r10), (0, .long y1), (2, .long y2), (4, .int p3)]) hx hb dX0_roundedByRule_71 hl (by decide) rfl (fun ls hl => ?_)
            refine lv_iload hx hb dX0_roundedByRule_73 (lv_at hl 1 rfl) ?_
            refine lv_if_eq (tgt := 94) hx hb dX0_roundedByRule_75 (by decide) (fun c75 => ?_) (fun c75 => ?_)
            · -- taken at 75
              refine lv_lload hx hb dX0_roundedByRule_94 (lv_at hl 3 rfl) ?_
              refine lv_lconst (v := 1) hx hb dX0_roundedByRule_96 (by decide) ?_
              refine lv_ladd hx hb dX0_roundedByRule_97 ?_
              exact W.lret (v := r10 + 1) hx hb hr (fun t ht hW => ⟨r10 + 1, rfl, by rw [rnd_3 (by omega) (by omega)]; exact e4, ht⟩) t_nil dX0_roundedByRule_98
            · -- not taken at 75
              exact absurd c75 (by decide)
        · -- not taken at 47
          have c47 := (lg_cmp_eq _ _).mp c47
          have c47 : (2 * (y1 - (r10 * y2))).toInt = y2.toInt := (Int64.toInt_inj.symm).mp c47
          refine lv_iconst (v := 1) hx hb dX0_roundedByRule_50 (by decide) ?_
          refine lv_goto (tgt := 55) hx hb dX0_roundedByRule_51 (by decide) ?_
          refine lv_istore (lv' := [(9, .int 1), (7, .long (2 * (y1 - (r10 * y2)))), (5, .long r10), (0, .long y1), (2, .long y2), (4, .int p3)]) hx hb dX0_roundedByRule_55 hl (by decide) rfl (fun ls hl => ?_)
          refine lv_lload hx hb dX0_roundedByRule_57 (lv_at hl 2 rfl) ?_
          refine lv_lconst (v := 1) hx hb dX0_roundedByRule_59 (by decide) ?_
          refine lv_land hx hb dX0_roundedByRule_60 ?_
          refine lv_lconst (v := 0) hx hb dX0_roundedByRule_61 (by decide) ?_
          refine W.lcmp hx hb dX0_roundedByRule_62 ?_
          refine lv_if_ne (tgt := 70) hx hb dX0_roundedByRule_63 (by decide) (fun c63 => ?_) (fun c63 => ?_)
          · -- taken at 63
            have c63 := fun q9 => c63 ((lg_cmp_eq _ _).mpr q9)
            have c63 : ¬ (r10 &&& 1).toInt = 0 := fun q9 => c63 ((Int64.toInt_inj.symm).mpr q9)
            refine lv_iconst (v := 0) hx hb dX0_roundedByRule_70 (by decide) ?_
            refine lv_istore (lv' := [(10, .int 0), (9, .int 1), (7, .long (2 * (y1 - (r10 * y2)))), (5, .long r10), (0, .long y1), (2, .long y2), (4, .int p3)]) hx hb dX0_roundedByRule_71 hl (by decide) rfl (fun ls hl => ?_)
            refine lv_iload hx hb dX0_roundedByRule_73 (lv_at hl 1 rfl) ?_
            refine lv_if_eq (tgt := 94) hx hb dX0_roundedByRule_75 (by decide) (fun c75 => ?_) (fun c75 => ?_)
            · -- taken at 75
              exact absurd c75 (by decide)
            · -- not taken at 75
              refine lv_iload hx hb dX0_roundedByRule_78 (lv_at hl 0 rfl) ?_
              refine lv_if_eq (tgt := 94) hx hb dX0_roundedByRule_80 (by decide) (fun c80 => ?_) (fun c80 => ?_)
              · -- taken at 80
                refine lv_lload hx hb dX0_roundedByRule_94 (lv_at hl 3 rfl) ?_
                refine lv_lconst (v := 1) hx hb dX0_roundedByRule_96 (by decide) ?_
                refine lv_ladd hx hb dX0_roundedByRule_97 ?_
                exact W.lret (v := r10 + 1) hx hb hr (fun t ht hW => ⟨r10 + 1, rfl, by rw [rnd_3 (by omega) (by omega)]; exact e4, ht⟩) t_nil dX0_roundedByRule_98
              · -- not taken at 80
                exact absurd c80 (by decide)
          · -- not taken at 63
            have c63 := (lg_cmp_eq _ _).mp c63
            have c63 : (r10 &&& 1).toInt = 0 := (Int64.toInt_inj.symm).mp c63
            refine lv_iconst (v := 1) hx hb dX0_roundedByRule_66 (by decide) ?_
            refine lv_goto (tgt := 71) hx hb dX0_roundedByRule_67 (by decide) ?_
            refine lv_istore (lv' := [(10, .int 1), (9, .int 1), (7, .long (2 * (y1 - (r10 * y2)))), (5, .long r10), (0, .long y1), (2, .long y2), (4, .int p3)]) hx hb dX0_roundedByRule_71 hl (by decide) rfl (fun ls hl => ?_)
            refine lv_iload hx hb dX0_roundedByRule_73 (lv_at hl 1 rfl) ?_
            refine lv_if_eq (tgt := 94) hx hb dX0_roundedByRule_75 (by decide) (fun c75 => ?_) (fun c75 => ?_)
            · -- taken at 75
              exact absurd c75 (by decide)
            · -- not taken at 75
              refine lv_iload hx hb dX0_roundedByRule_78 (lv_at hl 0 rfl) ?_
              refine lv_if_eq (tgt := 94) hx hb dX0_roundedByRule_80 (by decide) (fun c80 => ?_) (fun c80 => ?_)
              · -- taken at 80
                exact absurd c80 (by decide)
              · -- not taken at 80
                refine lv_iload hx hb dX0_roundedByRule_83 (lv_at hl 6 rfl) ?_
                refine lv_iconst (v := 1) hx hb dX0_roundedByRule_85 (by decide) ?_
                refine lv_icmp_ne (tgt := 94) hx hb dX0_roundedByRule_86 (by decide) (fun c86 => ?_) (fun c86 => ?_)
                · -- taken at 86
                  have c86 : ¬ p3.toInt = 1 := fun q9 => c86 ((Int32.toInt_inj.symm).mpr q9)
                  refine lv_lload hx hb dX0_roundedByRule_94 (lv_at hl 3 rfl) ?_
                  refine lv_lconst (v := 1) hx hb dX0_roundedByRule_96 (by decide) ?_
                  refine lv_ladd hx hb dX0_roundedByRule_97 ?_
                  exact W.lret (v := r10 + 1) hx hb hr (fun t ht hW => ⟨r10 + 1, rfl, by rw [rnd_3 (by omega) (by omega)]; exact e4, ht⟩) t_nil dX0_roundedByRule_98
                · -- not taken at 86
                  have c86 : p3.toInt = 1 := (Int32.toInt_inj.symm).mp c86
                  refine lv_lload hx hb dX0_roundedByRule_89 (lv_at hl 3 rfl) ?_
                  refine lv_goto (tgt := 98) hx hb dX0_roundedByRule_91 (by decide) ?_
                  exact W.lret (v := r10) hx hb hr (fun t ht hW => ⟨r10, rfl, by rw [rnd_2 (by omega) (by omega)]; exact h10, ht⟩) t_nil dX0_roundedByRule_98
      · -- not taken at 37
        have c37 := fun q9 => c37 ((lg_cmp_ge _ _).mpr q9)
        have c37 : ¬ y2.toInt ≤ (2 * (y1 - (r10 * y2))).toInt := fun q9 => c37 ((Int64.le_iff_toInt_le).mpr q9)
        refine lv_lload hx hb dX0_roundedByRule_40 (lv_at hl 1 rfl) ?_
        exact W.lret (v := r10) hx hb hr (fun t ht hW => ⟨r10, rfl, by rw [rnd_1 (by omega)]; exact h10, ht⟩) t_nil dX0_roundedByRule_42
  · -- not taken at 3
    have c3 := fun q9 => c3 ((lg_cmp_ge _ _).mpr q9)
    have c3 : ¬ 1 ≤ y2.toInt := fun q9 => c3 ((Int64.le_iff_toInt_le).mpr q9)
    exact absurd h3 (by omega)
