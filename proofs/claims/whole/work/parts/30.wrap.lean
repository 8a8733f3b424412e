set_option maxHeartbeats 4000000 in
set_option maxRecDepth 100000 in
theorem c_L_row (l : Launch) (hL : l.stackTraces = false) (dC : Nat → ClassId) (dI : Nat → Nat → Nat) (z0 : Nat) (sa : Nat → Nat) (sz : Nat) (hz : z0 ≤ sz) (x a1 a2 a3 a4 : Nat) (cI : ClassId) (S F X Y : Nat → Int32) (n : Nat) (ar sl : Int32) (mu ml : Int64) (ck : Int32) (ic : Nat) (ds js ps ss : Int64) (tc : Nat) (o : Nat) (cJ : ClassId) (O : Nat → Int64) (p1 : Int32) (p2 : Int32) (hn : n ≤ 40) : Met l yL_row wsL_row ({ frames := 7, cells := 1, slots := 6, locals := 113 }) (va_Pc [.ref x, .int p1, .int p2, .ref o] (fun U => U.heap.size = sz ∧ va_P (dC, dI) vwCl (wXO x a1 a2 a3 a4 cI S F X Y n ar sl mu ml ck ic ds js ps ss tc o cJ O) U.heap ∧ va_K (dC, dI) vwCl [(cI, .int), (cJ, .long)] U ∧ va_D (fun q => z0 ≤ q) (wXO x a1 a2 a3 a4 cI S F X Y n ar sl mu ml ck ic ds js ps ss tc o cJ O) ∧ gl_ok z0 sa U)) (va_Qi (fun k (u : Int64) => k = kd4 (ok_row n S p1 p2) (n < 40) True True ∧ (kd4 (ok_row n S p1 p2) (n < 40) True True = 0 → u = (nI (n + 1)).toInt64)) (fun (u : Int64) t => (kd4 (ok_row n S p1 p2) (n < 40) True True = 0 ∧ at_2 dC dI cI cJ (va_A (wXO x a1 a2 a3 a4 cI S F X Y n ar sl mu ml ck ic ds js ps ss tc o cJ O) sz) (wXO x a1 a2 a3 a4 cI (upd S n p1) (upd F n p2) X Y (n + 1) ar sl mu ml ck ic ds js ps ss tc o cJ (vp_updL O 0 u)) t) ∨ (¬ kd4 (ok_row n S p1 p2) (n < 40) True True = 0 ∧ at_2 dC dI cI cJ (va_A (wXO x a1 a2 a3 a4 cI S F X Y n ar sl mu ml ck ic ds js ps ss tc o cJ O) sz) (wXO x a1 a2 a3 a4 cI S F X Y n ar sl mu ml ck ic ds js ps ss tc o cJ O) t)) (va_A (wXO x a1 a2 a3 a4 cI S F X Y n ar sl mu ml ck ic ds js ps ss tc o cJ O) sz)) 1 6 (va_A (wXO x a1 a2 a3 a4 cI S F X Y n ar sl mu ml ck ic ds js ps ss tc o cJ O) sz) := by
  refine va_MetW (cc := cL_row) (maxL := 5) (ret := (some .int)) (hh := [(0, 10, 13, 13), (0, 10, 17, 15)]) (by decide) rfl ?_
  intro p e s m args below meth c s₁ B hml hv
  obtain ⟨rfl, hsz, hP, hK, hD0, hG⟩ := hv
  have hx := B.exec
  have hb := B.bytes
  have hr := B.returns
  have hts := atoms_spec (ws := wsL_row) B.pre
  have hown : s.vm.findClass RL = some m.cls := findClass_of_methodNamed B.named
  have hlocks := B.notSynchronized
  have hTab : c.exceptionTable.toList = tableOf [(0, 10, 13, 13), (0, 10, 17, 15)] := vx_table (x := yL_row) B (hts (.codeWith yL_row cL_row 5 (some .int) [(0, 10, 13, 13), (0, 10, 17, 15)]) List.mem_cons_self)
  subst hsz
  have hD := hD0.self (sz := s.heap.size)
  have hAz := az_of hD0 hz
  generalize hAe : va_A (wXO x a1 a2 a3 a4 cI S F X Y n ar sl mu ml ck ic ds js ps ss tc o cJ O) s.heap.size = A at hD hAz ⊢
  have hA : ∀ q : Nat, s.heap.size ≤ q → A q := fun q h => by rw [← hAe]; exact Or.inr h
  have hS : va_S A s.heap s.heap [] := va_S.rf
  have hl := lv_entry ([.ref x, .int p1, .int p2, .ref o]) (n := 5) (Nat.le_of_ble_eq_true rfl)
  rw [lg_entry_eq]
  generalize (lg_sl ([.ref x, .int p1, .int p2, .ref o]) ++ List.replicate (5 - (lg_sl ([.ref x, .int p1, .int p2, .ref o])).length) Slot.unset).toArray = ls at hl ⊢
  have hl : lv_has ls 5 [(0, .ref x), (1, .int p1), (2, .int p2), (3, .ref o)] := hl
  refine lv_aload_n hx hb dL_row_0 rfl (lv_at hl 3 rfl) ?_
  refine lv_iconst (v := 0) hx hb dL_row_1 (by decide) ?_
  refine lv_aload_n hx hb dL_row_2 rfl (lv_at hl 0 rfl) ?_
  refine lv_iload_n hx hb dL_row_3 rfl (lv_at hl 1 rfl) ?_
  refine lv_iload_n hx hb dL_row_4 rfl (lv_at hl 2 rfl) ?_
  have hPc := hP.sub (ws' := (wX x a1 a2 a3 a4 cI S F X Y n ar sl mu ml ck ic ds js ps ss tc)) [0, 1, 2, 3, 4] rfl
  have hDc := hD.sub (ws' := (wX x a1 a2 a3 a4 cI S F X Y n ar sl mu ml ck ic ds js ps ss tc)) [0, 1, 2, 3, 4] (by decide) rfl
  have hKc := hK.sub (tys' := [(cI, .int)]) [0] rfl
  have hFc := va_free (wc := (wX x a1 a2 a3 a4 cI S F X Y n ar sl mu ml ck ic ds js ps ss tc)) hD hS hA [0, 1, 2, 3, 4] rfl
  refine vx_calli (vx_runV (As := [.int p1, .int p2]) (rest := [.int 0, .ref o]) ⟨hx, hb, hml, hown, hts⟩ (c_X0_row l hL dC dI z0 sa s.heap.size (Nat.le_trans hz hS.1) x a1 a2 a3 a4 cI S F X Y n ar sl mu ml ck ic ds js ps ss tc p1 p2 hn) (cwV 2 hts (gV wl_L_7 wi_X0_row wv_X0_row wi_X0 wc_X0_row) rfl rfl rfl (by decide +kernel) ⟨Nat.le_of_ble_eq_true rfl, Nat.le_of_ble_eq_true rfl⟩) ⟨fun a U g mk q => ⟨q.1, q.2.1, q.2.2.1, va_K.moved (u := U) (U := U.calling g mk a) (Vm.Alike.refl U.vm) q.2.2.2.1, q.2.2.2.2.1, gl_blind q.2.2.2.2.2⟩, va_recv hKc hPc (ci := 0) (q0 := 0) rfl rfl, fun U hU hW => ⟨rfl, by rw [hU], by rw [hU]; exact hPc, va_K.moved hW.alike hKc, hDc.weaken (fun _ _ _ h => hAz _ h), gl_moved hG hS hAz hU hW⟩⟩ rfl rfl hl.1 rfl (lv_room (Nat.le_of_ble_eq_true rfl)) dL_row_5 ⟨Nat.le_of_ble_eq_true rfl, Nat.le_of_ble_eq_true rfl⟩) hS (fun q _ h => hFc q h) hFc (fun q _ h => hFc q h) (fun E ce q9 u t H1 locs ht hvm hpx hB hz1 hk1 hS hce hcv hcl => ?_) (fun r5 u5 t H1 locs ht hvm h5 hB hz1 hk1 hS => ?_)
  · -- thrown
    obtain ⟨hE, hP1, hK1, hD1⟩ := hB
    rw [ht] at hP1
    obtain ⟨hP, hD⟩ := va_join (wr := [(o, .inl (cJ, (1, .inr (.inl O))))]) (w1 := (wX x a1 a2 a3 a4 cI S F X Y n ar sl mu ml ck ic ds js ps ss tc)) hP hD [0, 1, 2, 3, 4] [5] rfl rfl (by decide) (by decide) hk1 hFc hP1 hD1
    have hP : va_P (dC, dI) vwCl (wXO x a1 a2 a3 a4 cI S F X Y n ar sl mu ml ck ic ds js ps ss tc o cJ O) H1 := hP.sub [1, 2, 3, 4, 5, 0] rfl
    have hD : va_D A (wXO x a1 a2 a3 a4 cI S F X Y n ar sl mu ml ck ic ds js ps ss tc o cJ O) := hD.sub [1, 2, 3, 4, 5, 0] (by decide) rfl
    generalize H1 = H at hP hS hce ⊢
    rcases hE with ⟨rfl, hk⟩ | ⟨rfl, hk⟩
    · -- IllegalArgumentException
      refine vx_catch (own := RL) (name := "java/lang/IllegalArgumentException") (E := "java/lang/IllegalArgumentException") hown [] ⟨0, 10, 13, 13⟩ [⟨0, 10, 17, 15⟩] (by rw [hTab]; rfl) (fun z hz => nomatch hz) (by decide) (by decide) (hts _ (List.mem_cons_of_mem _ wl_L_13)) (va_Nw.use rfl (hG.2.2.2.1 ("java/lang/IllegalArgumentException", "java/lang/IllegalArgumentException") (by decide +kernel))) hce hcv hcl ?_
      refine W.eq (g2 := F0 m 13 ls [.ref q9]) rfl ?_
      refine lv_astore (lv' := [(4, .ref q9), (0, .ref x), (1, .int p1), (2, .int p2), (3, .ref o)]) hx hb dL_row_13 hl (by decide) rfl (fun ls hl => ?_)
      refine lv_iconst (v := 1) hx hb dL_row_15 (by decide) ?_
      exact W.iret (v := 1) hx hb hr (fun t ht hW => ⟨⟨1, 0, rfl, ⟨hk.symm, fun q => absurd (hk.symm.trans q) (by decide)⟩, Or.inr ⟨fun q => absurd (hk.symm.trans q) (by decide), ⟨by rw [ht]; exact hP, va_K.moved hW.alike hK, hD⟩⟩⟩, hS.F ht⟩) hS.2.2 dL_row_16
    · -- UnsupportedOperationException
      refine vx_catch (own := RL) (name := "java/lang/UnsupportedOperationException") (E := "java/lang/UnsupportedOperationException") hown [⟨0, 10, 13, 13⟩] ⟨0, 10, 17, 15⟩ [] (by rw [hTab]; rfl) (fun z hz => by
        simp only [List.mem_cons, List.not_mem_nil, or_false] at hz
        rcases hz with rfl
        · exact Or.inr ⟨by decide, "java/lang/IllegalArgumentException", hts _ (List.mem_cons_of_mem _ wl_L_13), hG.2.2.2.2.1 ("java/lang/UnsupportedOperationException", "java/lang/IllegalArgumentException") (by decide +kernel)⟩) (by decide) (by decide) (hts _ (List.mem_cons_of_mem _ wl_L_15)) (va_Nw.use rfl (hG.2.2.2.1 ("java/lang/UnsupportedOperationException", "java/lang/UnsupportedOperationException") (by decide +kernel))) hce hcv hcl ?_
      refine W.eq (g2 := F0 m 17 ls [.ref q9]) rfl ?_
      refine lv_astore (lv' := [(4, .ref q9), (0, .ref x), (1, .int p1), (2, .int p2), (3, .ref o)]) hx hb dL_row_17 hl (by decide) rfl (fun ls hl => ?_)
      refine lv_iconst (v := 2) hx hb dL_row_19 (by decide) ?_
      exact W.iret (v := 2) hx hb hr (fun t ht hW => ⟨⟨2, 0, rfl, ⟨hk.symm, fun q => absurd (hk.symm.trans q) (by decide)⟩, Or.inr ⟨fun q => absurd (hk.symm.trans q) (by decide), ⟨by rw [ht]; exact hP, va_K.moved hW.alike hK, hD⟩⟩⟩, hS.F ht⟩) hS.2.2 dL_row_20
  obtain ⟨hP1, hK1, hD1⟩ := hB
  rw [ht] at hP1
  obtain ⟨hP, hD⟩ := va_join (wr := [(o, .inl (cJ, (1, .inr (.inl O))))]) (w1 := (wX x a1 a2 a3 a4 cI (upd S n p1) (upd F n p2) X Y (n + 1) ar sl mu ml ck ic ds js ps ss tc)) hP hD [0, 1, 2, 3, 4] [5] rfl rfl (by decide) (by decide) hk1 hFc hP1 hD1
  have hP : va_P (dC, dI) vwCl (wXO x a1 a2 a3 a4 cI (upd S n p1) (upd F n p2) X Y (n + 1) ar sl mu ml ck ic ds js ps ss tc o cJ O) H1 := hP.sub [1, 2, 3, 4, 5, 0] rfl
  have hD : va_D A (wXO x a1 a2 a3 a4 cI (upd S n p1) (upd F n p2) X Y (n + 1) ar sl mu ml ck ic ds js ps ss tc o cJ O) := hD.sub [1, 2, 3, 4, 5, 0] (by decide) rfl
  generalize H1 = H at hP hS ⊢
  refine lv_i2l hx hb dL_row_8 rfl ?_
  refine va_last (D := (dC, dI)) hx hb hK hP hD hS 5 1 rfl rfl (vp_in_nI (show 0 < 1 by omega) (by decide)) dL_row_9 (fun H locs hP hD hS => ?_)
  rw [show (0 : Int32).toNatClampNeg = 0 from nI_clamp (show 0 < 2 ^ 31 by omega)] at hP hD
  have hP : va_P (dC, dI) vwCl (wXO x a1 a2 a3 a4 cI (upd S n p1) (upd F n p2) X Y (n + 1) ar sl mu ml ck ic ds js ps ss tc o cJ (vp_updL O 0 r5.toInt64)) H := hP
  have hD : va_D A (wXO x a1 a2 a3 a4 cI (upd S n p1) (upd F n p2) X Y (n + 1) ar sl mu ml ck ic ds js ps ss tc o cJ (vp_updL O 0 r5.toInt64)) := hD
  refine lv_goto (tgt := 21) hx hb dL_row_10 (by decide) ?_
  refine lv_iconst (v := 0) hx hb dL_row_21 (by decide) ?_
  exact W.iret (v := 0) hx hb hr (fun t ht hW => ⟨⟨0, r5.toInt64, rfl, ⟨h5.1.symm, fun _ => by rw [h5.2]⟩, Or.inl ⟨h5.1, ⟨by rw [ht]; exact hP, va_K.moved hW.alike hK, hD⟩⟩⟩, hS.F ht⟩) hS.2.2 dL_row_22
set_option maxHeartbeats 4000000 in
set_option maxRecDepth 100000 in
theorem c_L_section (l : Launch) (hL : l.stackTraces = false) (dC : Nat → ClassId) (dI : Nat → Nat → Nat) (z0 : Nat) (sa : Nat → Nat) (sz : Nat) (hz : z0 ≤ sz) (x a1 a2 a3 a4 : Nat) (cI : ClassId) (S F X Y : Nat → Int32) (n : Nat) (ar sl : Int32) (mu ml : Int64) (ck : Int32) (ic : Nat) (ds js ps ss : Int64) (tc : Nat) (o : Nat) (cJ : ClassId) (O : Nat → Int64) (p1 : Int32) (p2 : Int32)  : Met l yL_section wsL_section ({ frames := 7, cells := 1, slots := 6, locals := 113 }) (va_Pc [.ref x, .int p1, .int p2] (fun U => U.heap.size = sz ∧ va_P (dC, dI) vwCl (wXO x a1 a2 a3 a4 cI S F X Y n ar sl mu ml ck ic ds js ps ss tc o cJ O) U.heap ∧ va_K (dC, dI) vwCl [(cI, .int), (cJ, .long)] U ∧ va_D (fun q => z0 ≤ q) (wXO x a1 a2 a3 a4 cI S F X Y n ar sl mu ml ck ic ds js ps ss tc o cJ O) ∧ gl_ok z0 sa U)) (va_Qi (fun k (u : Int64) => k = kd4 (ok_sec p1 p2) True True True ∧ (kd4 (ok_sec p1 p2) True True True = 0 → True)) (fun (u : Int64) t => (kd4 (ok_sec p1 p2) True True True = 0 ∧ at_2 dC dI cI cJ (va_A (wXO x a1 a2 a3 a4 cI S F X Y n ar sl mu ml ck ic ds js ps ss tc o cJ O) sz) (wXO x a1 a2 a3 a4 cI S F X Y n p1 p2 mu ml ck ic ds js ps ss tc o cJ O) t) ∨ (¬ kd4 (ok_sec p1 p2) True True True = 0 ∧ at_2 dC dI cI cJ (va_A (wXO x a1 a2 a3 a4 cI S F X Y n ar sl mu ml ck ic ds js ps ss tc o cJ O) sz) (wXO x a1 a2 a3 a4 cI S F X Y n ar sl mu ml ck ic ds js ps ss tc o cJ O) t)) (va_A (wXO x a1 a2 a3 a4 cI S F X Y n ar sl mu ml ck ic ds js ps ss tc o cJ O) sz)) 1 6 (va_A (wXO x a1 a2 a3 a4 cI S F X Y n ar sl mu ml ck ic ds js ps ss tc o cJ O) sz) := by
  refine va_MetW (cc := cL_section) (maxL := 4) (ret := (some .int)) (hh := [(0, 6, 9, 13)]) (by decide) rfl ?_
  intro p e s m args below meth c s₁ B hml hv
  obtain ⟨rfl, hsz, hP, hK, hD0, hG⟩ := hv
  have hx := B.exec
  have hb := B.bytes
  have hr := B.returns
  have hts := atoms_spec (ws := wsL_section) B.pre
  have hown : s.vm.findClass RL = some m.cls := findClass_of_methodNamed B.named
  have hlocks := B.notSynchronized
  have hTab : c.exceptionTable.toList = tableOf [(0, 6, 9, 13)] := vx_table (x := yL_section) B (hts (.codeWith yL_section cL_section 4 (some .int) [(0, 6, 9, 13)]) List.mem_cons_self)
  subst hsz
  have hD := hD0.self (sz := s.heap.size)
  have hAz := az_of hD0 hz
  generalize hAe : va_A (wXO x a1 a2 a3 a4 cI S F X Y n ar sl mu ml ck ic ds js ps ss tc o cJ O) s.heap.size = A at hD hAz ⊢
  have hA : ∀ q : Nat, s.heap.size ≤ q → A q := fun q h => by rw [← hAe]; exact Or.inr h
  have hS : va_S A s.heap s.heap [] := va_S.rf
  have hl := lv_entry ([.ref x, .int p1, .int p2]) (n := 4) (Nat.le_of_ble_eq_true rfl)
  rw [lg_entry_eq]
  generalize (lg_sl ([.ref x, .int p1, .int p2]) ++ List.replicate (4 - (lg_sl ([.ref x, .int p1, .int p2])).length) Slot.unset).toArray = ls at hl ⊢
  have hl : lv_has ls 4 [(0, .ref x), (1, .int p1), (2, .int p2)] := hl
  refine lv_aload_n hx hb dL_section_0 rfl (lv_at hl 0 rfl) ?_
  refine lv_iload_n hx hb dL_section_1 rfl (lv_at hl 1 rfl) ?_
  refine lv_iload_n hx hb dL_section_2 rfl (lv_at hl 2 rfl) ?_
  have hPc := hP.sub (ws' := (wX x a1 a2 a3 a4 cI S F X Y n ar sl mu ml ck ic ds js ps ss tc)) [0, 1, 2, 3, 4] rfl
  have hDc := hD.sub (ws' := (wX x a1 a2 a3 a4 cI S F X Y n ar sl mu ml ck ic ds js ps ss tc)) [0, 1, 2, 3, 4] (by decide) rfl
  have hKc := hK.sub (tys' := [(cI, .int)]) [0] rfl
  have hFc := va_free (wc := (wX x a1 a2 a3 a4 cI S F X Y n ar sl mu ml ck ic ds js ps ss tc)) hD hS hA [0, 1, 2, 3, 4] rfl
  refine vx_callv (vx_runV (As := [.int p1, .int p2]) (rest := []) ⟨hx, hb, hml, hown, hts⟩ (c_X0_section l hL dC dI z0 sa s.heap.size (Nat.le_trans hz hS.1) x a1 a2 a3 a4 cI S F X Y n ar sl mu ml ck ic ds js ps ss tc p1 p2 ) (cwV 2 hts (gV wl_L_17 wi_X0_section wv_X0_section wi_X0 wc_X0_section) rfl rfl rfl (by decide +kernel) ⟨Nat.le_of_ble_eq_true rfl, Nat.le_of_ble_eq_true rfl⟩) ⟨fun a U g mk q => ⟨q.1, q.2.1, q.2.2.1, va_K.moved (u := U) (U := U.calling g mk a) (Vm.Alike.refl U.vm) q.2.2.2.1, q.2.2.2.2.1, gl_blind q.2.2.2.2.2⟩, va_recv hKc hPc (ci := 0) (q0 := 0) rfl rfl, fun U hU hW => ⟨rfl, by rw [hU], by rw [hU]; exact hPc, va_K.moved hW.alike hKc, hDc.weaken (fun _ _ _ h => hAz _ h), gl_moved hG hS hAz hU hW⟩⟩ rfl rfl hl.1 rfl (lv_room (Nat.le_of_ble_eq_true rfl)) dL_section_3 ⟨Nat.le_of_ble_eq_true rfl, Nat.le_of_ble_eq_true rfl⟩) hS (fun q _ h => hFc q h) hFc (fun q _ h => hFc q h) (fun E ce q9 u t H1 locs ht hvm hpx hB hz1 hk1 hS hce hcv hcl => ?_) (fun u3 t H1 locs ht hvm h3 hB hz1 hk1 hS => ?_)
  · -- thrown
    obtain ⟨hE, hP1, hK1, hD1⟩ := hB
    rw [ht] at hP1
    obtain ⟨hP, hD⟩ := va_join (wr := [(o, .inl (cJ, (1, .inr (.inl O))))]) (w1 := (wX x a1 a2 a3 a4 cI S F X Y n ar sl mu ml ck ic ds js ps ss tc)) hP hD [0, 1, 2, 3, 4] [5] rfl rfl (by decide) (by decide) hk1 hFc hP1 hD1
    have hP : va_P (dC, dI) vwCl (wXO x a1 a2 a3 a4 cI S F X Y n ar sl mu ml ck ic ds js ps ss tc o cJ O) H1 := hP.sub [1, 2, 3, 4, 5, 0] rfl
    have hD : va_D A (wXO x a1 a2 a3 a4 cI S F X Y n ar sl mu ml ck ic ds js ps ss tc o cJ O) := hD.sub [1, 2, 3, 4, 5, 0] (by decide) rfl
    generalize H1 = H at hP hS hce ⊢
    obtain ⟨rfl, hk⟩ := hE
    · -- IllegalArgumentException
      refine vx_catch (own := RL) (name := "java/lang/IllegalArgumentException") (E := "java/lang/IllegalArgumentException") hown [] ⟨0, 6, 9, 13⟩ [] (by rw [hTab]; rfl) (fun z hz => nomatch hz) (by decide) (by decide) (hts _ (List.mem_cons_of_mem _ wl_L_13)) (va_Nw.use rfl (hG.2.2.2.1 ("java/lang/IllegalArgumentException", "java/lang/IllegalArgumentException") (by decide +kernel))) hce hcv hcl ?_
      refine W.eq (g2 := F0 m 9 ls [.ref q9]) rfl ?_
      refine lv_astore_n (lv' := [(3, .ref q9), (0, .ref x), (1, .int p1), (2, .int p2)]) hx hb dL_section_9 rfl hl (by decide) rfl (fun ls hl => ?_)
      refine lv_iconst (v := 1) hx hb dL_section_10 (by decide) ?_
      exact W.iret (v := 1) hx hb hr (fun t ht hW => ⟨⟨1, 0, rfl, ⟨hk.symm, fun q => absurd (hk.symm.trans q) (by decide)⟩, Or.inr ⟨fun q => absurd (hk.symm.trans q) (by decide), ⟨by rw [ht]; exact hP, va_K.moved hW.alike hK, hD⟩⟩⟩, hS.F ht⟩) hS.2.2 dL_section_11
  obtain ⟨hP1, hK1, hD1⟩ := hB
  rw [ht] at hP1
  obtain ⟨hP, hD⟩ := va_join (wr := [(o, .inl (cJ, (1, .inr (.inl O))))]) (w1 := (wX x a1 a2 a3 a4 cI S F X Y n p1 p2 mu ml ck ic ds js ps ss tc)) hP hD [0, 1, 2, 3, 4] [5] rfl rfl (by decide) (by decide) hk1 hFc hP1 hD1
  have hP : va_P (dC, dI) vwCl (wXO x a1 a2 a3 a4 cI S F X Y n p1 p2 mu ml ck ic ds js ps ss tc o cJ O) H1 := hP.sub [1, 2, 3, 4, 5, 0] rfl
  have hD : va_D A (wXO x a1 a2 a3 a4 cI S F X Y n p1 p2 mu ml ck ic ds js ps ss tc o cJ O) := hD.sub [1, 2, 3, 4, 5, 0] (by decide) rfl
  generalize H1 = H at hP hS ⊢
  refine lv_goto (tgt := 12) hx hb dL_section_6 (by decide) ?_
  refine lv_iconst (v := 0) hx hb dL_section_12 (by decide) ?_
  exact W.iret (v := 0) hx hb hr (fun t ht hW => ⟨⟨0, 0, rfl, ⟨h3.symm, fun _ => trivial⟩, Or.inl ⟨h3, ⟨by rw [ht]; exact hP, va_K.moved hW.alike hK, hD⟩⟩⟩, hS.F ht⟩) hS.2.2 dL_section_13
set_option maxHeartbeats 4000000 in
set_option maxRecDepth 100000 in
theorem c_L_slope (l : Launch) (hL : l.stackTraces = false) (dC : Nat → ClassId) (dI : Nat → Nat → Nat) (z0 : Nat) (sa : Nat → Nat) (sz : Nat) (hz : z0 ≤ sz) (x a1 a2 a3 a4 : Nat) (cI : ClassId) (S F X Y : Nat → Int32) (n : Nat) (ar sl : Int32) (mu ml : Int64) (ck : Int32) (ic : Nat) (ds js ps ss : Int64) (tc : Nat) (o : Nat) (cJ : ClassId) (O : Nat → Int64) (p1 : Int32) (p2 : Int32) (p3 : Int32) (hn : n ≤ 40) (hrs : ris S n) (hSb : ∀ j, j < n → 0 ≤ (S j).toInt ∧ (S j).toInt ≤ 1000000) (hFb : ∀ j, j < n → 0 ≤ (F j).toInt ∧ (F j).toInt ≤ 1000000) : Met l yL_slope wsL_slope ({ frames := 8, cells := 2, slots := 12, locals := 140 }) (va_Pc [.ref x, .int p1, .int p2, .int p3, .ref o] (fun U => U.heap.size = sz ∧ va_P (dC, dI) vwCl (wXO x a1 a2 a3 a4 cI S F X Y n ar sl mu ml ck ic ds js ps ss tc o cJ O) U.heap ∧ va_K (dC, dI) vwCl [(cI, .int), (cJ, .long)] U ∧ va_D (fun q => z0 ≤ q) (wXO x a1 a2 a3 a4 cI S F X Y n ar sl mu ml ck ic ds js ps ss tc o cJ O) ∧ gl_ok z0 sa U)) (va_Qi (fun k (u : Int64 × Int64 × Int64) => k = kd4 (0 ≤ p3.toInt ∧ p3.toInt ≤ 1) (ok_span p1 p2) (cl S p1.toInt n + 1 < cl S (p2.toInt + 1) n) True ∧ (kd4 (0 ≤ p3.toInt ∧ p3.toInt ≤ 1) (ok_span p1 p2) (cl S p1.toInt n + 1 < cl S (p2.toInt + 1) n) True = 0 → u.1.toInt = fr ((F (cl S (p2.toInt + 1) n - 1)).toInt - (F (cl S p1.toInt n)).toInt) ((S (cl S (p2.toInt + 1) n - 1)).toInt - (S (cl S p1.toInt n)).toInt) p3.toInt ∧ ((0 < ((F (cl S (p2.toInt + 1) n - 1)).toInt - (F (cl S p1.toInt n)).toInt) ∧ u.2.1.toInt = ((F (cl S (p2.toInt + 1) n - 1)).toInt - (F (cl S p1.toInt n)).toInt) ∧ u.2.2.toInt = ((S (cl S (p2.toInt + 1) n - 1)).toInt - (S (cl S p1.toInt n)).toInt)) ∨ (¬ 0 < ((F (cl S (p2.toInt + 1) n - 1)).toInt - (F (cl S p1.toInt n)).toInt) ∧ u.2.1 = mu ∧ u.2.2 = ml)))) (fun (u : Int64 × Int64 × Int64) t => (kd4 (0 ≤ p3.toInt ∧ p3.toInt ≤ 1) (ok_span p1 p2) (cl S p1.toInt n + 1 < cl S (p2.toInt + 1) n) True = 0 ∧ at_2 dC dI cI cJ (va_A (wXO x a1 a2 a3 a4 cI S F X Y n ar sl mu ml ck ic ds js ps ss tc o cJ O) sz) (wXO x a1 a2 a3 a4 cI S F X Y n ar sl u.2.1 u.2.2 ck ic ds js ps ss tc o cJ (vp_updL O 0 u.1)) t) ∨ (¬ kd4 (0 ≤ p3.toInt ∧ p3.toInt ≤ 1) (ok_span p1 p2) (cl S p1.toInt n + 1 < cl S (p2.toInt + 1) n) True = 0 ∧ at_2 dC dI cI cJ (va_A (wXO x a1 a2 a3 a4 cI S F X Y n ar sl mu ml ck ic ds js ps ss tc o cJ O) sz) (wXO x a1 a2 a3 a4 cI S F X Y n ar sl mu ml ck ic ds js ps ss tc o cJ O) t)) (va_A (wXO x a1 a2 a3 a4 cI S F X Y n ar sl mu ml ck ic ds js ps ss tc o cJ O) sz)) 2 12 (va_A (wXO x a1 a2 a3 a4 cI S F X Y n ar sl mu ml ck ic ds js ps ss tc o cJ O) sz) := by
  refine va_MetW (cc := cL_slope) (maxL := 6) (ret := (some .int)) (hh := [(0, 11, 14, 25), (0, 11, 18, 13), (0, 11, 22, 15)]) (by decide) rfl ?_
  intro p e s m args below meth c s₁ B hml hv
  obtain ⟨rfl, hsz, hP, hK, hD0, hG⟩ := hv
  have hx := B.exec
  have hb := B.bytes
  have hr := B.returns
  have hts := atoms_spec (ws := wsL_slope) B.pre
  have hown : s.vm.findClass RL = some m.cls := findClass_of_methodNamed B.named
  have hlocks := B.notSynchronized
  have hTab : c.exceptionTable.toList = tableOf [(0, 11, 14, 25), (0, 11, 18, 13), (0, 11, 22, 15)] := vx_table (x := yL_slope) B (hts (.codeWith yL_slope cL_slope 6 (some .int) [(0, 11, 14, 25), (0, 11, 18, 13), (0, 11, 22, 15)]) List.mem_cons_self)
  subst hsz
  have hD := hD0.self (sz := s.heap.size)
  have hAz := az_of hD0 hz
  generalize hAe : va_A (wXO x a1 a2 a3 a4 cI S F X Y n ar sl mu ml ck ic ds js ps ss tc o cJ O) s.heap.size = A at hD hAz ⊢
  have hA : ∀ q : Nat, s.heap.size ≤ q → A q := fun q h => by rw [← hAe]; exact Or.inr h
  have hS : va_S A s.heap s.heap [] := va_S.rf
  have hl := lv_entry ([.ref x, .int p1, .int p2, .int p3, .ref o]) (n := 6) (Nat.le_of_ble_eq_true rfl)
  rw [lg_entry_eq]
  generalize (lg_sl ([.ref x, .int p1, .int p2, .int p3, .ref o]) ++ List.replicate (6 - (lg_sl ([.ref x, .int p1, .int p2, .int p3, .ref o])).length) Slot.unset).toArray = ls at hl ⊢
  have hl : lv_has ls 6 [(0, .ref x), (1, .int p1), (2, .int p2), (3, .int p3), (4, .ref o)] := hl
  refine lv_aload hx hb dL_slope_0 (lv_at hl 4 rfl) ?_
  refine lv_iconst (v := 0) hx hb dL_slope_2 (by decide) ?_
  refine lv_aload_n hx hb dL_slope_3 rfl (lv_at hl 0 rfl) ?_
  refine lv_iload_n hx hb dL_slope_4 rfl (lv_at hl 1 rfl) ?_
  refine lv_iload_n hx hb dL_slope_5 rfl (lv_at hl 2 rfl) ?_
  refine lv_iload_n hx hb dL_slope_6 rfl (lv_at hl 3 rfl) ?_
  have hPc := hP.sub (ws' := (wX x a1 a2 a3 a4 cI S F X Y n ar sl mu ml ck ic ds js ps ss tc)) [0, 1, 2, 3, 4] rfl
  have hDc := hD.sub (ws' := (wX x a1 a2 a3 a4 cI S F X Y n ar sl mu ml ck ic ds js ps ss tc)) [0, 1, 2, 3, 4] (by decide) rfl
  have hKc := hK.sub (tys' := [(cI, .int)]) [0] rfl
  have hFc := va_free (wc := (wX x a1 a2 a3 a4 cI S F X Y n ar sl mu ml ck ic ds js ps ss tc)) hD hS hA [0, 1, 2, 3, 4] rfl
  refine vx_calll (vx_runV (As := [.int p1, .int p2, .int p3]) (rest := [.int 0, .ref o]) ⟨hx, hb, hml, hown, hts⟩ (c_X0_slope l hL dC dI z0 sa s.heap.size (Nat.le_trans hz hS.1) x a1 a2 a3 a4 cI S F X Y n ar sl mu ml ck ic ds js ps ss tc p1 p2 p3 hn hrs hSb hFb) (cwV 3 hts (gV wl_L_21 wi_X0_slope wv_X0_slope wi_X0 wc_X0_slope) rfl rfl rfl (by decide +kernel) ⟨Nat.le_of_ble_eq_true rfl, Nat.le_of_ble_eq_true rfl⟩) ⟨fun a U g mk q => ⟨q.1, q.2.1, q.2.2.1, va_K.moved (u := U) (U := U.calling g mk a) (Vm.Alike.refl U.vm) q.2.2.2.1, q.2.2.2.2.1, gl_blind q.2.2.2.2.2⟩, va_recv hKc hPc (ci := 0) (q0 := 0) rfl rfl, fun U hU hW => ⟨rfl, by rw [hU], by rw [hU]; exact hPc, va_K.moved hW.alike hKc, hDc.weaken (fun _ _ _ h => hAz _ h), gl_moved hG hS hAz hU hW⟩⟩ rfl rfl hl.1 rfl (lv_room (Nat.le_of_ble_eq_true rfl)) dL_slope_7 ⟨Nat.le_of_ble_eq_true rfl, Nat.le_of_ble_eq_true rfl⟩) hS (fun q _ h => hFc q h) hFc (fun q _ h => hFc q h) (fun E ce q9 u t H1 locs ht hvm hpx hB hz1 hk1 hS hce hcv hcl => ?_) (fun r7 u7 t H1 locs ht hvm h7 hB hz1 hk1 hS => ?_)
  · -- thrown
    obtain ⟨hE, hP1, hK1, hD1⟩ := hB
    rw [ht] at hP1
    obtain ⟨hP, hD⟩ := va_join (wr := [(o, .inl (cJ, (1, .inr (.inl O))))]) (w1 := (wX x a1 a2 a3 a4 cI S F X Y n ar sl mu ml ck ic ds js ps ss tc)) hP hD [0, 1, 2, 3, 4] [5] rfl rfl (by decide) (by decide) hk1 hFc hP1 hD1
    have hP : va_P (dC, dI) vwCl (wXO x a1 a2 a3 a4 cI S F X Y n ar sl mu ml ck ic ds js ps ss tc o cJ O) H1 := hP.sub [1, 2, 3, 4, 5, 0] rfl
    have hD : va_D A (wXO x a1 a2 a3 a4 cI S F X Y n ar sl mu ml ck ic ds js ps ss tc o cJ O) := hD.sub [1, 2, 3, 4, 5, 0] (by decide) rfl
    generalize H1 = H at hP hS hce ⊢
    rcases hE with ⟨rfl, hk⟩ | ⟨rfl, hk⟩ | ⟨rfl, hk⟩
    · -- IndexOutOfBoundsException
      refine vx_catch (own := RL) (name := "java/lang/IndexOutOfBoundsException") (E := "java/lang/IndexOutOfBoundsException") hown [] ⟨0, 11, 14, 25⟩ [⟨0, 11, 18, 13⟩, ⟨0, 11, 22, 15⟩] (by rw [hTab]; rfl) (fun z hz => nomatch hz) (by decide) (by decide) (hts _ (List.mem_cons_of_mem _ wl_L_25)) (va_Nw.use rfl (hG.2.2.2.1 ("java/lang/IndexOutOfBoundsException", "java/lang/IndexOutOfBoundsException") (by decide +kernel))) hce hcv hcl ?_
      refine W.eq (g2 := F0 m 14 ls [.ref q9]) rfl ?_
      refine lv_astore (lv' := [(5, .ref q9), (0, .ref x), (1, .int p1), (2, .int p2), (3, .int p3), (4, .ref o)]) hx hb dL_slope_14 hl (by decide) rfl (fun ls hl => ?_)
      refine lv_iconst (v := 1) hx hb dL_slope_16 (by decide) ?_
      exact W.iret (v := 1) hx hb hr (fun t ht hW => ⟨⟨1, (0, 0, 0), rfl, ⟨hk.symm, fun q => absurd (hk.symm.trans q) (by decide)⟩, Or.inr ⟨fun q => absurd (hk.symm.trans q) (by decide), ⟨by rw [ht]; exact hP, va_K.moved hW.alike hK, hD⟩⟩⟩, hS.F ht⟩) hS.2.2 dL_slope_17
    · -- IllegalArgumentException
      refine vx_catch (own := RL) (name := "java/lang/IllegalArgumentException") (E := "java/lang/IllegalArgumentException") hown [⟨0, 11, 14, 25⟩] ⟨0, 11, 18, 13⟩ [⟨0, 11, 22, 15⟩] (by rw [hTab]; rfl) (fun z hz => by
        simp only [List.mem_cons, List.not_mem_nil, or_false] at hz
        rcases hz with rfl
        · exact Or.inr ⟨by decide, "java/lang/IndexOutOfBoundsException", hts _ (List.mem_cons_of_mem _ wl_L_25), hG.2.2.2.2.1 ("java/lang/IllegalArgumentException", "java/lang/IndexOutOfBoundsException") (by decide +kernel)⟩) (by decide) (by decide) (hts _ (List.mem_cons_of_mem _ wl_L_13)) (va_Nw.use rfl (hG.2.2.2.1 ("java/lang/IllegalArgumentException", "java/lang/IllegalArgumentException") (by decide +kernel))) hce hcv hcl ?_
      refine W.eq (g2 := F0 m 18 ls [.ref q9]) rfl ?_
      refine lv_astore (lv' := [(5, .ref q9), (0, .ref x), (1, .int p1), (2, .int p2), (3, .int p3), (4, .ref o)]) hx hb dL_slope_18 hl (by decide) rfl (fun ls hl => ?_)
      refine lv_iconst (v := 2) hx hb dL_slope_20 (by decide) ?_
      exact W.iret (v := 2) hx hb hr (fun t ht hW => ⟨⟨2, (0, 0, 0), rfl, ⟨hk.symm, fun q => absurd (hk.symm.trans q) (by decide)⟩, Or.inr ⟨fun q => absurd (hk.symm.trans q) (by decide), ⟨by rw [ht]; exact hP, va_K.moved hW.alike hK, hD⟩⟩⟩, hS.F ht⟩) hS.2.2 dL_slope_21
    · -- UnsupportedOperationException
      refine vx_catch (own := RL) (name := "java/lang/UnsupportedOperationException") (E := "java/lang/UnsupportedOperationException") hown [⟨0, 11, 14, 25⟩, ⟨0, 11, 18, 13⟩] ⟨0, 11, 22, 15⟩ [] (by rw [hTab]; rfl) (fun z hz => by
        simp only [List.mem_cons, List.not_mem_nil, or_false] at hz
        rcases hz with rfl | rfl
        · exact Or.inr ⟨by decide, "java/lang/IndexOutOfBoundsException", hts _ (List.mem_cons_of_mem _ wl_L_25), hG.2.2.2.2.1 ("java/lang/UnsupportedOperationException", "java/lang/IndexOutOfBoundsException") (by decide +kernel)⟩
        · exact Or.inr ⟨by decide, "java/lang/IllegalArgumentException", hts _ (List.mem_cons_of_mem _ wl_L_13), hG.2.2.2.2.1 ("java/lang/UnsupportedOperationException", "java/lang/IllegalArgumentException") (by decide +kernel)⟩) (by decide) (by decide) (hts _ (List.mem_cons_of_mem _ wl_L_15)) (va_Nw.use rfl (hG.2.2.2.1 ("java/lang/UnsupportedOperationException", "java/lang/UnsupportedOperationException") (by decide +kernel))) hce hcv hcl ?_
      refine W.eq (g2 := F0 m 22 ls [.ref q9]) rfl ?_
      refine lv_astore (lv' := [(5, .ref q9), (0, .ref x), (1, .int p1), (2, .int p2), (3, .int p3), (4, .ref o)]) hx hb dL_slope_22 hl (by decide) rfl (fun ls hl => ?_)
      refine lv_iconst (v := 3) hx hb dL_slope_24 (by decide) ?_
      exact W.iret (v := 3) hx hb hr (fun t ht hW => ⟨⟨3, (0, 0, 0), rfl, ⟨hk.symm, fun q => absurd (hk.symm.trans q) (by decide)⟩, Or.inr ⟨fun q => absurd (hk.symm.trans q) (by decide), ⟨by rw [ht]; exact hP, va_K.moved hW.alike hK, hD⟩⟩⟩, hS.F ht⟩) hS.2.2 dL_slope_25
  obtain ⟨hP1, hK1, hD1⟩ := hB
  rw [ht] at hP1
  obtain ⟨hP, hD⟩ := va_join (wr := [(o, .inl (cJ, (1, .inr (.inl O))))]) (w1 := (wX x a1 a2 a3 a4 cI S F X Y n ar sl u7.1 u7.2 ck ic ds js ps ss tc)) hP hD [0, 1, 2, 3, 4] [5] rfl rfl (by decide) (by decide) hk1 hFc hP1 hD1
  have hP : va_P (dC, dI) vwCl (wXO x a1 a2 a3 a4 cI S F X Y n ar sl u7.1 u7.2 ck ic ds js ps ss tc o cJ O) H1 := hP.sub [1, 2, 3, 4, 5, 0] rfl
  have hD : va_D A (wXO x a1 a2 a3 a4 cI S F X Y n ar sl u7.1 u7.2 ck ic ds js ps ss tc o cJ O) := hD.sub [1, 2, 3, 4, 5, 0] (by decide) rfl
  generalize H1 = H at hP hS ⊢
  refine va_last (D := (dC, dI)) hx hb hK hP hD hS 5 1 rfl rfl (vp_in_nI (show 0 < 1 by omega) (by decide)) dL_slope_10 (fun H locs hP hD hS => ?_)
  rw [show (0 : Int32).toNatClampNeg = 0 from nI_clamp (show 0 < 2 ^ 31 by omega)] at hP hD
  have hP : va_P (dC, dI) vwCl (wXO x a1 a2 a3 a4 cI S F X Y n ar sl u7.1 u7.2 ck ic ds js ps ss tc o cJ (vp_updL O 0 r7)) H := hP
  have hD : va_D A (wXO x a1 a2 a3 a4 cI S F X Y n ar sl u7.1 u7.2 ck ic ds js ps ss tc o cJ (vp_updL O 0 r7)) := hD
  refine lv_goto (tgt := 26) hx hb dL_slope_11 (by decide) ?_
  refine lv_iconst (v := 0) hx hb dL_slope_26 (by decide) ?_
  exact W.iret (v := 0) hx hb hr (fun t ht hW => ⟨⟨0, (r7, u7.1, u7.2), rfl, ⟨h7.1.symm, fun _ => h7.2⟩, Or.inl ⟨h7.1, ⟨by rw [ht]; exact hP, va_K.moved hW.alike hK, hD⟩⟩⟩, hS.F ht⟩) hS.2.2 dL_slope_27
set_option maxHeartbeats 4000000 in
set_option maxRecDepth 100000 in
theorem c_L_offset (l : Launch) (hL : l.stackTraces = false) (dC : Nat → ClassId) (dI : Nat → Nat → Nat) (z0 : Nat) (sa : Nat → Nat) (sz : Nat) (hz : z0 ≤ sz) (x a1 a2 a3 a4 : Nat) (cI : ClassId) (S F X Y : Nat → Int32) (n : Nat) (ar sl : Int32) (mu ml : Int64) (ck : Int32) (ic : Nat) (ds js ps ss : Int64) (tc : Nat) (o : Nat) (cJ : ClassId) (O : Nat → Int64) (p1 : Int32) (p2 : Int32) (hn : n ≤ 40) (hsl : 0 ≤ sl.toInt ∧ sl.toInt ≤ 1000000) (hM : mu = 0 ∨ ((1 ≤ mu.toInt ∧ mu.toInt ≤ 1000000) ∧ (1 ≤ ml.toInt ∧ ml.toInt ≤ 1000000))) (hSb : ∀ j, j < n → 0 ≤ (S j).toInt ∧ (S j).toInt ≤ 1000000) (hFb : ∀ j, j < n → 0 ≤ (F j).toInt ∧ (F j).toInt ≤ 1000000) : Met l yL_offset wsL_offset ({ frames := 8, cells := 2, slots := 12, locals := 141 }) (va_Pc [.ref x, .int p1, .int p2, .ref o] (fun U => U.heap.size = sz ∧ va_P (dC, dI) vwCl (wXO x a1 a2 a3 a4 cI S F X Y n ar sl mu ml ck ic ds js ps ss tc o cJ O) U.heap ∧ va_K (dC, dI) vwCl [(cI, .int), (cJ, .long)] U ∧ va_D (fun q => z0 ≤ q) (wXO x a1 a2 a3 a4 cI S F X Y n ar sl mu ml ck ic ds js ps ss tc o cJ O) ∧ gl_ok z0 sa U)) (va_Qi (fun k (u : Int64) => k = kd4 (0 ≤ p2.toInt ∧ p2.toInt ≤ 1) (¬ mu.toInt = 0) (0 ≤ p1.toInt ∧ p1.toInt ≤ 1000000) True ∧ (kd4 (0 ≤ p2.toInt ∧ p2.toInt ≤ 1) (¬ mu.toInt = 0) (0 ≤ p1.toInt ∧ p1.toInt ≤ 1000000) True = 0 → ofs F n (exl S F mu ml (sl + p1)) p2.toInt u)) (fun (u : Int64) t => (kd4 (0 ≤ p2.toInt ∧ p2.toInt ≤ 1) (¬ mu.toInt = 0) (0 ≤ p1.toInt ∧ p1.toInt ≤ 1000000) True = 0 ∧ at_2 dC dI cI cJ (va_A (wXO x a1 a2 a3 a4 cI S F X Y n ar sl mu ml ck ic ds js ps ss tc o cJ O) sz) (wXO x a1 a2 a3 a4 cI S F X Y n ar sl mu ml ck ic ds js ps ss tc o cJ (vp_updL O 0 u)) t) ∨ (¬ kd4 (0 ≤ p2.toInt ∧ p2.toInt ≤ 1) (¬ mu.toInt = 0) (0 ≤ p1.toInt ∧ p1.toInt ≤ 1000000) True = 0 ∧ at_2 dC dI cI cJ (va_A (wXO x a1 a2 a3 a4 cI S F X Y n ar sl mu ml ck ic ds js ps ss tc o cJ O) sz) (wXO x a1 a2 a3 a4 cI S F X Y n ar sl mu ml ck ic ds js ps ss tc o cJ O) t)) (va_A (wXO x a1 a2 a3 a4 cI S F X Y n ar sl mu ml ck ic ds js ps ss tc o cJ O) sz)) 2 12 (va_A (wXO x a1 a2 a3 a4 cI S F X Y n ar sl mu ml ck ic ds js ps ss tc o cJ O) sz) := by
  refine va_MetW (cc := cL_offset) (maxL := 5) (ret := (some .int)) (hh := [(0, 9, 12, 25), (0, 9, 16, 31), (0, 9, 20, 13)]) (by decide) rfl ?_
  intro p e s m args below meth c s₁ B hml hv
  obtain ⟨rfl, hsz, hP, hK, hD0, hG⟩ := hv
  have hx := B.exec
  have hb := B.bytes
  have hr := B.returns
  have hts := atoms_spec (ws := wsL_offset) B.pre
  have hown : s.vm.findClass RL = some m.cls := findClass_of_methodNamed B.named
  have hlocks := B.notSynchronized
  have hTab : c.exceptionTable.toList = tableOf [(0, 9, 12, 25), (0, 9, 16, 31), (0, 9, 20, 13)] := vx_table (x := yL_offset) B (hts (.codeWith yL_offset cL_offset 5 (some .int) [(0, 9, 12, 25), (0, 9, 16, 31), (0, 9, 20, 13)]) List.mem_cons_self)
  subst hsz
  have hD := hD0.self (sz := s.heap.size)
  have hAz := az_of hD0 hz
  generalize hAe : va_A (wXO x a1 a2 a3 a4 cI S F X Y n ar sl mu ml ck ic ds js ps ss tc o cJ O) s.heap.size = A at hD hAz ⊢
  have hA : ∀ q : Nat, s.heap.size ≤ q → A q := fun q h => by rw [← hAe]; exact Or.inr h
  have hS : va_S A s.heap s.heap [] := va_S.rf
  have hl := lv_entry ([.ref x, .int p1, .int p2, .ref o]) (n := 5) (Nat.le_of_ble_eq_true rfl)
  rw [lg_entry_eq]
  generalize (lg_sl ([.ref x, .int p1, .int p2, .ref o]) ++ List.replicate (5 - (lg_sl ([.ref x, .int p1, .int p2, .ref o])).length) Slot.unset).toArray = ls at hl ⊢
  have hl : lv_has ls 5 [(0, .ref x), (1, .int p1), (2, .int p2), (3, .ref o)] := hl
  refine lv_aload_n hx hb dL_offset_0 rfl (lv_at hl 3 rfl) ?_
  refine lv_iconst (v := 0) hx hb dL_offset_1 (by decide) ?_
  refine lv_aload_n hx hb dL_offset_2 rfl (lv_at hl 0 rfl) ?_
  refine lv_iload_n hx hb dL_offset_3 rfl (lv_at hl 1 rfl) ?_
  refine lv_iload_n hx hb dL_offset_4 rfl (lv_at hl 2 rfl) ?_
  have hPc := hP.sub (ws' := (wX x a1 a2 a3 a4 cI S F X Y n ar sl mu ml ck ic ds js ps ss tc)) [0, 1, 2, 3, 4] rfl
  have hDc := hD.sub (ws' := (wX x a1 a2 a3 a4 cI S F X Y n ar sl mu ml ck ic ds js ps ss tc)) [0, 1, 2, 3, 4] (by decide) rfl
  have hKc := hK.sub (tys' := [(cI, .int)]) [0] rfl
  have hFc := va_free (wc := (wX x a1 a2 a3 a4 cI S F X Y n ar sl mu ml ck ic ds js ps ss tc)) hD hS hA [0, 1, 2, 3, 4] rfl
  refine vx_calll (vx_runV (As := [.int p1, .int p2]) (rest := [.int 0, .ref o]) ⟨hx, hb, hml, hown, hts⟩ (c_X0_offset l hL dC dI z0 sa s.heap.size (Nat.le_trans hz hS.1) x a1 a2 a3 a4 cI S F X Y n ar sl mu ml ck ic ds js ps ss tc p1 p2 hn hsl hM hSb hFb) (cwV 2 hts (gV wl_L_27 wi_X0_offset wv_X0_offset wi_X0 wc_X0_offset) rfl rfl rfl (by decide +kernel) ⟨Nat.le_of_ble_eq_true rfl, Nat.le_of_ble_eq_true rfl⟩) ⟨fun a U g mk q => ⟨q.1, q.2.1, q.2.2.1, va_K.moved (u := U) (U := U.calling g mk a) (Vm.Alike.refl U.vm) q.2.2.2.1, q.2.2.2.2.1, gl_blind q.2.2.2.2.2⟩, va_recv hKc hPc (ci := 0) (q0 := 0) rfl rfl, fun U hU hW => ⟨rfl, by rw [hU], by rw [hU]; exact hPc, va_K.moved hW.alike hKc, hDc.weaken (fun _ _ _ h => hAz _ h), gl_moved hG hS hAz hU hW⟩⟩ rfl rfl hl.1 rfl (lv_room (Nat.le_of_ble_eq_true rfl)) dL_offset_5 ⟨Nat.le_of_ble_eq_true rfl, Nat.le_of_ble_eq_true rfl⟩) hS (fun q _ h => hFc q h) hFc (fun q _ h => hFc q h) (fun E ce q9 u t H1 locs ht hvm hpx hB hz1 hk1 hS hce hcv hcl => ?_) (fun r5 u5 t H1 locs ht hvm h5 hB hz1 hk1 hS => ?_)
  · -- thrown
    obtain ⟨hE, hP1, hK1, hD1⟩ := hB
    rw [ht] at hP1
    obtain ⟨hP, hD⟩ := va_join (wr := [(o, .inl (cJ, (1, .inr (.inl O))))]) (w1 := (wX x a1 a2 a3 a4 cI S F X Y n ar sl mu ml ck ic ds js ps ss tc)) hP hD [0, 1, 2, 3, 4] [5] rfl rfl (by decide) (by decide) hk1 hFc hP1 hD1
    have hP : va_P (dC, dI) vwCl (wXO x a1 a2 a3 a4 cI S F X Y n ar sl mu ml ck ic ds js ps ss tc o cJ O) H1 := hP.sub [1, 2, 3, 4, 5, 0] rfl
    have hD : va_D A (wXO x a1 a2 a3 a4 cI S F X Y n ar sl mu ml ck ic ds js ps ss tc o cJ O) := hD.sub [1, 2, 3, 4, 5, 0] (by decide) rfl
    generalize H1 = H at hP hS hce ⊢
    rcases hE with ⟨rfl, hk⟩ | ⟨rfl, hk⟩ | ⟨rfl, hk⟩
    · -- IndexOutOfBoundsException
      refine vx_catch (own := RL) (name := "java/lang/IndexOutOfBoundsException") (E := "java/lang/IndexOutOfBoundsException") hown [] ⟨0, 9, 12, 25⟩ [⟨0, 9, 16, 31⟩, ⟨0, 9, 20, 13⟩] (by rw [hTab]; rfl) (fun z hz => nomatch hz) (by decide) (by decide) (hts _ (List.mem_cons_of_mem _ wl_L_25)) (va_Nw.use rfl (hG.2.2.2.1 ("java/lang/IndexOutOfBoundsException", "java/lang/IndexOutOfBoundsException") (by decide +kernel))) hce hcv hcl ?_
      refine W.eq (g2 := F0 m 12 ls [.ref q9]) rfl ?_
      refine lv_astore (lv' := [(4, .ref q9), (0, .ref x), (1, .int p1), (2, .int p2), (3, .ref o)]) hx hb dL_offset_12 hl (by decide) rfl (fun ls hl => ?_)
      refine lv_iconst (v := 1) hx hb dL_offset_14 (by decide) ?_
      exact W.iret (v := 1) hx hb hr (fun t ht hW => ⟨⟨1, 0, rfl, ⟨hk.symm, fun q => absurd (hk.symm.trans q) (by decide)⟩, Or.inr ⟨fun q => absurd (hk.symm.trans q) (by decide), ⟨by rw [ht]; exact hP, va_K.moved hW.alike hK, hD⟩⟩⟩, hS.F ht⟩) hS.2.2 dL_offset_15
    · -- IllegalStateException
      refine vx_catch (own := RL) (name := "java/lang/IllegalStateException") (E := "java/lang/IllegalStateException") hown [⟨0, 9, 12, 25⟩] ⟨0, 9, 16, 31⟩ [⟨0, 9, 20, 13⟩] (by rw [hTab]; rfl) (fun z hz => by
        simp only [List.mem_cons, List.not_mem_nil, or_false] at hz
        rcases hz with rfl
        · exact Or.inr ⟨by decide, "java/lang/IndexOutOfBoundsException", hts _ (List.mem_cons_of_mem _ wl_L_25), hG.2.2.2.2.1 ("java/lang/IllegalStateException", "java/lang/IndexOutOfBoundsException") (by decide +kernel)⟩) (by decide) (by decide) (hts _ (List.mem_cons_of_mem _ wl_L_31)) (va_Nw.use rfl (hG.2.2.2.1 ("java/lang/IllegalStateException", "java/lang/IllegalStateException") (by decide +kernel))) hce hcv hcl ?_
      refine W.eq (g2 := F0 m 16 ls [.ref q9]) rfl ?_
      refine lv_astore (lv' := [(4, .ref q9), (0, .ref x), (1, .int p1), (2, .int p2), (3, .ref o)]) hx hb dL_offset_16 hl (by decide) rfl (fun ls hl => ?_)
      refine lv_iconst (v := 2) hx hb dL_offset_18 (by decide) ?_
      exact W.iret (v := 2) hx hb hr (fun t ht hW => ⟨⟨2, 0, rfl, ⟨hk.symm, fun q => absurd (hk.symm.trans q) (by decide)⟩, Or.inr ⟨fun q => absurd (hk.symm.trans q) (by decide), ⟨by rw [ht]; exact hP, va_K.moved hW.alike hK, hD⟩⟩⟩, hS.F ht⟩) hS.2.2 dL_offset_19
    · -- IllegalArgumentException
      refine vx_catch (own := RL) (name := "java/lang/IllegalArgumentException") (E := "java/lang/IllegalArgumentException") hown [⟨0, 9, 12, 25⟩, ⟨0, 9, 16, 31⟩] ⟨0, 9, 20, 13⟩ [] (by rw [hTab]; rfl) (fun z hz => by
        simp only [List.mem_cons, List.not_mem_nil, or_false] at hz
        rcases hz with rfl | rfl
        · exact Or.inr ⟨by decide, "java/lang/IndexOutOfBoundsException", hts _ (List.mem_cons_of_mem _ wl_L_25), hG.2.2.2.2.1 ("java/lang/IllegalArgumentException", "java/lang/IndexOutOfBoundsException") (by decide +kernel)⟩
        · exact Or.inr ⟨by decide, "java/lang/IllegalStateException", hts _ (List.mem_cons_of_mem _ wl_L_31), hG.2.2.2.2.1 ("java/lang/IllegalArgumentException", "java/lang/IllegalStateException") (by decide +kernel)⟩) (by decide) (by decide) (hts _ (List.mem_cons_of_mem _ wl_L_13)) (va_Nw.use rfl (hG.2.2.2.1 ("java/lang/IllegalArgumentException", "java/lang/IllegalArgumentException") (by decide +kernel))) hce hcv hcl ?_
      refine W.eq (g2 := F0 m 20 ls [.ref q9]) rfl ?_
      refine lv_astore (lv' := [(4, .ref q9), (0, .ref x), (1, .int p1), (2, .int p2), (3, .ref o)]) hx hb dL_offset_20 hl (by decide) rfl (fun ls hl => ?_)
      refine lv_iconst (v := 3) hx hb dL_offset_22 (by decide) ?_
      exact W.iret (v := 3) hx hb hr (fun t ht hW => ⟨⟨3, 0, rfl, ⟨hk.symm, fun q => absurd (hk.symm.trans q) (by decide)⟩, Or.inr ⟨fun q => absurd (hk.symm.trans q) (by decide), ⟨by rw [ht]; exact hP, va_K.moved hW.alike hK, hD⟩⟩⟩, hS.F ht⟩) hS.2.2 dL_offset_23
  obtain ⟨hP1, hK1, hD1⟩ := hB
  rw [ht] at hP1
  obtain ⟨hP, hD⟩ := va_join (wr := [(o, .inl (cJ, (1, .inr (.inl O))))]) (w1 := (wX x a1 a2 a3 a4 cI S F X Y n ar sl mu ml ck ic ds js ps ss tc)) hP hD [0, 1, 2, 3, 4] [5] rfl rfl (by decide) (by decide) hk1 hFc hP1 hD1
  have hP : va_P (dC, dI) vwCl (wXO x a1 a2 a3 a4 cI S F X Y n ar sl mu ml ck ic ds js ps ss tc o cJ O) H1 := hP.sub [1, 2, 3, 4, 5, 0] rfl
  have hD : va_D A (wXO x a1 a2 a3 a4 cI S F X Y n ar sl mu ml ck ic ds js ps ss tc o cJ O) := hD.sub [1, 2, 3, 4, 5, 0] (by decide) rfl
  generalize H1 = H at hP hS ⊢
  refine va_last (D := (dC, dI)) hx hb hK hP hD hS 5 1 rfl rfl (vp_in_nI (show 0 < 1 by omega) (by decide)) dL_offset_8 (fun H locs hP hD hS => ?_)
  rw [show (0 : Int32).toNatClampNeg = 0 from nI_clamp (show 0 < 2 ^ 31 by omega)] at hP hD
  have hP : va_P (dC, dI) vwCl (wXO x a1 a2 a3 a4 cI S F X Y n ar sl mu ml ck ic ds js ps ss tc o cJ (vp_updL O 0 r5)) H := hP
  have hD : va_D A (wXO x a1 a2 a3 a4 cI S F X Y n ar sl mu ml ck ic ds js ps ss tc o cJ (vp_updL O 0 r5)) := hD
  refine lv_goto (tgt := 24) hx hb dL_offset_9 (by decide) ?_
  refine lv_iconst (v := 0) hx hb dL_offset_24 (by decide) ?_
  exact W.iret (v := 0) hx hb hr (fun t ht hW => ⟨⟨0, r5, rfl, ⟨h5.1.symm, fun _ => h5.2⟩, Or.inl ⟨h5.1, ⟨by rw [ht]; exact hP, va_K.moved hW.alike hK, hD⟩⟩⟩, hS.F ht⟩) hS.2.2 dL_offset_25
set_option maxHeartbeats 4000000 in
set_option maxRecDepth 100000 in
theorem c_L_peak (l : Launch) (hL : l.stackTraces = false) (dC : Nat → ClassId) (dI : Nat → Nat → Nat) (z0 : Nat) (sa : Nat → Nat) (sz : Nat) (hz : z0 ≤ sz) (x a1 a2 a3 a4 : Nat) (cI : ClassId) (S F X Y : Nat → Int32) (n : Nat) (ar sl : Int32) (mu ml : Int64) (ck : Int32) (ic : Nat) (ds js ps ss : Int64) (tc : Nat) (o : Nat) (cJ : ClassId) (O : Nat → Int64) (p1 : Int32) (hn : n ≤ 40) (har : 0 ≤ ar.toInt) : Met l yL_peak wsL_peak ({ frames := 7, cells := 1, slots := 6, locals := 113 }) (va_Pc [.ref x, .int p1, .ref o] (fun U => U.heap.size = sz ∧ va_P (dC, dI) vwCl (wXO x a1 a2 a3 a4 cI S F X Y n ar sl mu ml ck ic ds js ps ss tc o cJ O) U.heap ∧ va_K (dC, dI) vwCl [(cI, .int), (cJ, .long)] U ∧ va_D (fun q => z0 ≤ q) (wXO x a1 a2 a3 a4 cI S F X Y n ar sl mu ml ck ic ds js ps ss tc o cJ O) ∧ gl_ok z0 sa U)) (va_Qi (fun k (u : Int64) => k = kd4 (0 ≤ p1.toInt ∧ p1.toInt ≤ 2) (ok_pk n ar p1) True True ∧ (kd4 (0 ≤ p1.toInt ∧ p1.toInt ≤ 2) (ok_pk n ar p1) True True = 0 → u = (pka S F n sl ar p1).toInt64)) (fun (u : Int64) t => (kd4 (0 ≤ p1.toInt ∧ p1.toInt ≤ 2) (ok_pk n ar p1) True True = 0 ∧ at_2 dC dI cI cJ (va_A (wXO x a1 a2 a3 a4 cI S F X Y n ar sl mu ml ck ic ds js ps ss tc o cJ O) sz) (wXO x a1 a2 a3 a4 cI S F X Y n ar sl mu ml ck ic ds js ps ss tc o cJ (vp_updL O 0 u)) t) ∨ (¬ kd4 (0 ≤ p1.toInt ∧ p1.toInt ≤ 2) (ok_pk n ar p1) True True = 0 ∧ at_2 dC dI cI cJ (va_A (wXO x a1 a2 a3 a4 cI S F X Y n ar sl mu ml ck ic ds js ps ss tc o cJ O) sz) (wXO x a1 a2 a3 a4 cI S F X Y n ar sl mu ml ck ic ds js ps ss tc o cJ O) t)) (va_A (wXO x a1 a2 a3 a4 cI S F X Y n ar sl mu ml ck ic ds js ps ss tc o cJ O) sz)) 1 6 (va_A (wXO x a1 a2 a3 a4 cI S F X Y n ar sl mu ml ck ic ds js ps ss tc o cJ O) sz) := by
  refine va_MetW (cc := cL_peak) (maxL := 4) (ret := (some .int)) (hh := [(0, 9, 12, 25), (0, 9, 15, 31)]) (by decide) rfl ?_
  intro p e s m args below meth c s₁ B hml hv
  obtain ⟨rfl, hsz, hP, hK, hD0, hG⟩ := hv
  have hx := B.exec
  have hb := B.bytes
  have hr := B.returns
  have hts := atoms_spec (ws := wsL_peak) B.pre
  have hown : s.vm.findClass RL = some m.cls := findClass_of_methodNamed B.named
  have hlocks := B.notSynchronized
  have hTab : c.exceptionTable.toList = tableOf [(0, 9, 12, 25), (0, 9, 15, 31)] := vx_table (x := yL_peak) B (hts (.codeWith yL_peak cL_peak 4 (some .int) [(0, 9, 12, 25), (0, 9, 15, 31)]) List.mem_cons_self)
  subst hsz
  have hD := hD0.self (sz := s.heap.size)
  have hAz := az_of hD0 hz
  generalize hAe : va_A (wXO x a1 a2 a3 a4 cI S F X Y n ar sl mu ml ck ic ds js ps ss tc o cJ O) s.heap.size = A at hD hAz ⊢
  have hA : ∀ q : Nat, s.heap.size ≤ q → A q := fun q h => by rw [← hAe]; exact Or.inr h
  have hS : va_S A s.heap s.heap [] := va_S.rf
  have hl := lv_entry ([.ref x, .int p1, .ref o]) (n := 4) (Nat.le_of_ble_eq_true rfl)
  rw [lg_entry_eq]
  generalize (lg_sl ([.ref x, .int p1, .ref o]) ++ List.replicate (4 - (lg_sl ([.ref x, .int p1, .ref o])).length) Slot.unset).toArray = ls at hl ⊢
  have hl : lv_has ls 4 [(0, .ref x), (1, .int p1), (2, .ref o)] := hl
  refine lv_aload_n hx hb dL_peak_0 rfl (lv_at hl 2 rfl) ?_
  refine lv_iconst (v := 0) hx hb dL_peak_1 (by decide) ?_
  refine lv_aload_n hx hb dL_peak_2 rfl (lv_at hl 0 rfl) ?_
  refine lv_iload_n hx hb dL_peak_3 rfl (lv_at hl 1 rfl) ?_
  have hPc := hP.sub (ws' := (wX x a1 a2 a3 a4 cI S F X Y n ar sl mu ml ck ic ds js ps ss tc)) [0, 1, 2, 3, 4] rfl
  have hDc := hD.sub (ws' := (wX x a1 a2 a3 a4 cI S F X Y n ar sl mu ml ck ic ds js ps ss tc)) [0, 1, 2, 3, 4] (by decide) rfl
  have hKc := hK.sub (tys' := [(cI, .int)]) [0] rfl
  have hFc := va_free (wc := (wX x a1 a2 a3 a4 cI S F X Y n ar sl mu ml ck ic ds js ps ss tc)) hD hS hA [0, 1, 2, 3, 4] rfl
  refine vx_calli (vx_runV (As := [.int p1]) (rest := [.int 0, .ref o]) ⟨hx, hb, hml, hown, hts⟩ (c_X0_peak l hL dC dI z0 sa s.heap.size (Nat.le_trans hz hS.1) x a1 a2 a3 a4 cI S F X Y n ar sl mu ml ck ic ds js ps ss tc p1 hn har) (cwV 1 hts (gV wl_L_33 wi_X0_peak wv_X0_peak wi_X0 wc_X0_peak) rfl rfl rfl (by decide +kernel) ⟨Nat.le_of_ble_eq_true rfl, Nat.le_of_ble_eq_true rfl⟩) ⟨fun a U g mk q => ⟨q.1, q.2.1, q.2.2.1, va_K.moved (u := U) (U := U.calling g mk a) (Vm.Alike.refl U.vm) q.2.2.2.1, q.2.2.2.2.1, gl_blind q.2.2.2.2.2⟩, va_recv hKc hPc (ci := 0) (q0 := 0) rfl rfl, fun U hU hW => ⟨rfl, by rw [hU], by rw [hU]; exact hPc, va_K.moved hW.alike hKc, hDc.weaken (fun _ _ _ h => hAz _ h), gl_moved hG hS hAz hU hW⟩⟩ rfl rfl hl.1 rfl (lv_room (Nat.le_of_ble_eq_true rfl)) dL_peak_4 ⟨Nat.le_of_ble_eq_true rfl, Nat.le_of_ble_eq_true rfl⟩) hS (fun q _ h => hFc q h) hFc (fun q _ h => hFc q h) (fun E ce q9 u t H1 locs ht hvm hpx hB hz1 hk1 hS hce hcv hcl => ?_) (fun r4 u4 t H1 locs ht hvm h4 hB hz1 hk1 hS => ?_)
  · -- thrown
    obtain ⟨hE, hP1, hK1, hD1⟩ := hB
    rw [ht] at hP1
    obtain ⟨hP, hD⟩ := va_join (wr := [(o, .inl (cJ, (1, .inr (.inl O))))]) (w1 := (wX x a1 a2 a3 a4 cI S F X Y n ar sl mu ml ck ic ds js ps ss tc)) hP hD [0, 1, 2, 3, 4] [5] rfl rfl (by decide) (by decide) hk1 hFc hP1 hD1
    have hP : va_P (dC, dI) vwCl (wXO x a1 a2 a3 a4 cI S F X Y n ar sl mu ml ck ic ds js ps ss tc o cJ O) H1 := hP.sub [1, 2, 3, 4, 5, 0] rfl
    have hD : va_D A (wXO x a1 a2 a3 a4 cI S F X Y n ar sl mu ml ck ic ds js ps ss tc o cJ O) := hD.sub [1, 2, 3, 4, 5, 0] (by decide) rfl
    generalize H1 = H at hP hS hce ⊢
    rcases hE with ⟨rfl, hk⟩ | ⟨rfl, hk⟩
    · -- IndexOutOfBoundsException
      refine vx_catch (own := RL) (name := "java/lang/IndexOutOfBoundsException") (E := "java/lang/IndexOutOfBoundsException") hown [] ⟨0, 9, 12, 25⟩ [⟨0, 9, 15, 31⟩] (by rw [hTab]; rfl) (fun z hz => nomatch hz) (by decide) (by decide) (hts _ (List.mem_cons_of_mem _ wl_L_25)) (va_Nw.use rfl (hG.2.2.2.1 ("java/lang/IndexOutOfBoundsException", "java/lang/IndexOutOfBoundsException") (by decide +kernel))) hce hcv hcl ?_
      refine W.eq (g2 := F0 m 12 ls [.ref q9]) rfl ?_
      refine lv_astore_n (lv' := [(3, .ref q9), (0, .ref x), (1, .int p1), (2, .ref o)]) hx hb dL_peak_12 rfl hl (by decide) rfl (fun ls hl => ?_)
      refine lv_iconst (v := 1) hx hb dL_peak_13 (by decide) ?_
      exact W.iret (v := 1) hx hb hr (fun t ht hW => ⟨⟨1, 0, rfl, ⟨hk.symm, fun q => absurd (hk.symm.trans q) (by decide)⟩, Or.inr ⟨fun q => absurd (hk.symm.trans q) (by decide), ⟨by rw [ht]; exact hP, va_K.moved hW.alike hK, hD⟩⟩⟩, hS.F ht⟩) hS.2.2 dL_peak_14
    · -- IllegalStateException
      refine vx_catch (own := RL) (name := "java/lang/IllegalStateException") (E := "java/lang/IllegalStateException") hown [⟨0, 9, 12, 25⟩] ⟨0, 9, 15, 31⟩ [] (by rw [hTab]; rfl) (fun z hz => by
        simp only [List.mem_cons, List.not_mem_nil, or_false] at hz
        rcases hz with rfl
        · exact Or.inr ⟨by decide, "java/lang/IndexOutOfBoundsException", hts _ (List.mem_cons_of_mem _ wl_L_25), hG.2.2.2.2.1 ("java/lang/IllegalStateException", "java/lang/IndexOutOfBoundsException") (by decide +kernel)⟩) (by decide) (by decide) (hts _ (List.mem_cons_of_mem _ wl_L_31)) (va_Nw.use rfl (hG.2.2.2.1 ("java/lang/IllegalStateException", "java/lang/IllegalStateException") (by decide +kernel))) hce hcv hcl ?_
      refine W.eq (g2 := F0 m 15 ls [.ref q9]) rfl ?_
      refine lv_astore_n (lv' := [(3, .ref q9), (0, .ref x), (1, .int p1), (2, .ref o)]) hx hb dL_peak_15 rfl hl (by decide) rfl (fun ls hl => ?_)
      refine lv_iconst (v := 2) hx hb dL_peak_16 (by decide) ?_
      exact W.iret (v := 2) hx hb hr (fun t ht hW => ⟨⟨2, 0, rfl, ⟨hk.symm, fun q => absurd (hk.symm.trans q) (by decide)⟩, Or.inr ⟨fun q => absurd (hk.symm.trans q) (by decide), ⟨by rw [ht]; exact hP, va_K.moved hW.alike hK, hD⟩⟩⟩, hS.F ht⟩) hS.2.2 dL_peak_17
  obtain ⟨hP1, hK1, hD1⟩ := hB
  rw [ht] at hP1
  obtain ⟨hP, hD⟩ := va_join (wr := [(o, .inl (cJ, (1, .inr (.inl O))))]) (w1 := (wX x a1 a2 a3 a4 cI S F X Y n ar sl mu ml ck ic ds js ps ss tc)) hP hD [0, 1, 2, 3, 4] [5] rfl rfl (by decide) (by decide) hk1 hFc hP1 hD1
  have hP : va_P (dC, dI) vwCl (wXO x a1 a2 a3 a4 cI S F X Y n ar sl mu ml ck ic ds js ps ss tc o cJ O) H1 := hP.sub [1, 2, 3, 4, 5, 0] rfl
  have hD : va_D A (wXO x a1 a2 a3 a4 cI S F X Y n ar sl mu ml ck ic ds js ps ss tc o cJ O) := hD.sub [1, 2, 3, 4, 5, 0] (by decide) rfl
  generalize H1 = H at hP hS ⊢
  refine lv_i2l hx hb dL_peak_7 rfl ?_
  refine va_last (D := (dC, dI)) hx hb hK hP hD hS 5 1 rfl rfl (vp_in_nI (show 0 < 1 by omega) (by decide)) dL_peak_8 (fun H locs hP hD hS => ?_)
  rw [show (0 : Int32).toNatClampNeg = 0 from nI_clamp (show 0 < 2 ^ 31 by omega)] at hP hD
  have hP : va_P (dC, dI) vwCl (wXO x a1 a2 a3 a4 cI S F X Y n ar sl mu ml ck ic ds js ps ss tc o cJ (vp_updL O 0 r4.toInt64)) H := hP
  have hD : va_D A (wXO x a1 a2 a3 a4 cI S F X Y n ar sl mu ml ck ic ds js ps ss tc o cJ (vp_updL O 0 r4.toInt64)) := hD
  refine lv_goto (tgt := 18) hx hb dL_peak_9 (by decide) ?_
  refine lv_iconst (v := 0) hx hb dL_peak_18 (by decide) ?_
  exact W.iret (v := 0) hx hb hr (fun t ht hW => ⟨⟨0, r4.toInt64, rfl, ⟨h4.1.symm, fun _ => by rw [h4.2]⟩, Or.inl ⟨h4.1, ⟨by rw [ht]; exact hP, va_K.moved hW.alike hK, hD⟩⟩⟩, hS.F ht⟩) hS.2.2 dL_peak_19
set_option maxHeartbeats 4000000 in
set_option maxRecDepth 100000 in
theorem c_L_stretch (l : Launch) (hL : l.stackTraces = false) (dC : Nat → ClassId) (dI : Nat → Nat → Nat) (z0 : Nat) (sa : Nat → Nat) (sz : Nat) (hz : z0 ≤ sz) (x a1 a2 a3 a4 : Nat) (cI : ClassId) (S F X Y : Nat → Int32) (n : Nat) (ar sl : Int32) (mu ml : Int64) (ck : Int32) (ic : Nat) (ds js ps ss : Int64) (tc : Nat) (o : Nat) (cJ : ClassId) (O : Nat → Int64) (p1 : Int32) (p2 : Int32) (p3 : Int32)  : Met l yL_stretch wsL_stretch ({ frames := 8, cells := 2, slots := 12, locals := 134 }) (va_Pc [.ref x, .int p1, .int p2, .int p3, .ref o] (fun U => U.heap.size = sz ∧ va_P (dC, dI) vwCl (wXO x a1 a2 a3 a4 cI S F X Y n ar sl mu ml ck ic ds js ps ss tc o cJ O) U.heap ∧ va_K (dC, dI) vwCl [(cI, .int), (cJ, .long)] U ∧ va_D (fun q => z0 ≤ q) (wXO x a1 a2 a3 a4 cI S F X Y n ar sl mu ml ck ic ds js ps ss tc o cJ O) ∧ gl_ok z0 sa U)) (va_Qi (fun k (u : Int64) => k = kd4 (0 ≤ p3.toInt ∧ p3.toInt ≤ 1) (ok_len p1 p2) True True ∧ (kd4 (0 ≤ p3.toInt ∧ p3.toInt ≤ 1) (ok_len p1 p2) True True = 0 → u.toInt = fr (p2.toInt - p1.toInt) p1.toInt p3.toInt)) (fun (u : Int64) t => (kd4 (0 ≤ p3.toInt ∧ p3.toInt ≤ 1) (ok_len p1 p2) True True = 0 ∧ at_2 dC dI cI cJ (va_A (wXO x a1 a2 a3 a4 cI S F X Y n ar sl mu ml ck ic ds js ps ss tc o cJ O) sz) (wXO x a1 a2 a3 a4 cI S F X Y n ar sl mu ml ck ic ds js ps ss tc o cJ (vp_updL O 0 u)) t) ∨ (¬ kd4 (0 ≤ p3.toInt ∧ p3.toInt ≤ 1) (ok_len p1 p2) True True = 0 ∧ at_2 dC dI cI cJ (va_A (wXO x a1 a2 a3 a4 cI S F X Y n ar sl mu ml ck ic ds js ps ss tc o cJ O) sz) (wXO x a1 a2 a3 a4 cI S F X Y n ar sl mu ml ck ic ds js ps ss tc o cJ O) t)) (va_A (wXO x a1 a2 a3 a4 cI S F X Y n ar sl mu ml ck ic ds js ps ss tc o cJ O) sz)) 2 12 (va_A (wXO x a1 a2 a3 a4 cI S F X Y n ar sl mu ml ck ic ds js ps ss tc o cJ O) sz) := by
  refine va_MetW (cc := cL_stretch) (maxL := 6) (ret := (some .int)) (hh := [(0, 11, 14, 25), (0, 11, 18, 13)]) (by decide) rfl ?_
  intro p e s m args below meth c s₁ B hml hv
  obtain ⟨rfl, hsz, hP, hK, hD0, hG⟩ := hv
  have hx := B.exec
  have hb := B.bytes
  have hr := B.returns
  have hts := atoms_spec (ws := wsL_stretch) B.pre
  have hown : s.vm.findClass RL = some m.cls := findClass_of_methodNamed B.named
  have hlocks := B.notSynchronized
  have hTab : c.exceptionTable.toList = tableOf [(0, 11, 14, 25), (0, 11, 18, 13)] := vx_table (x := yL_stretch) B (hts (.codeWith yL_stretch cL_stretch 6 (some .int) [(0, 11, 14, 25), (0, 11, 18, 13)]) List.mem_cons_self)
  subst hsz
  have hD := hD0.self (sz := s.heap.size)
  have hAz := az_of hD0 hz
  generalize hAe : va_A (wXO x a1 a2 a3 a4 cI S F X Y n ar sl mu ml ck ic ds js ps ss tc o cJ O) s.heap.size = A at hD hAz ⊢
  have hA : ∀ q : Nat, s.heap.size ≤ q → A q := fun q h => by rw [← hAe]; exact Or.inr h
  have hS : va_S A s.heap s.heap [] := va_S.rf
  have hl := lv_entry ([.ref x, .int p1, .int p2, .int p3, .ref o]) (n := 6) (Nat.le_of_ble_eq_true rfl)
  rw [lg_entry_eq]
  generalize (lg_sl ([.ref x, .int p1, .int p2, .int p3, .ref o]) ++ List.replicate (6 - (lg_sl ([.ref x, .int p1, .int p2, .int p3, .ref o])).length) Slot.unset).toArray = ls at hl ⊢
  have hl : lv_has ls 6 [(0, .ref x), (1, .int p1), (2, .int p2), (3, .int p3), (4, .ref o)] := hl
  refine lv_aload hx hb dL_stretch_0 (lv_at hl 4 rfl) ?_
  refine lv_iconst (v := 0) hx hb dL_stretch_2 (by decide) ?_
  refine lv_aload_n hx hb dL_stretch_3 rfl (lv_at hl 0 rfl) ?_
  refine lv_iload_n hx hb dL_stretch_4 rfl (lv_at hl 1 rfl) ?_
  refine lv_iload_n hx hb dL_stretch_5 rfl (lv_at hl 2 rfl) ?_
  refine lv_iload_n hx hb dL_stretch_6 rfl (lv_at hl 3 rfl) ?_
  have hPc := hP.sub (ws' := (wX x a1 a2 a3 a4 cI S F X Y n ar sl mu ml ck ic ds js ps ss tc)) [0, 1, 2, 3, 4] rfl
  have hDc := hD.sub (ws' := (wX x a1 a2 a3 a4 cI S F X Y n ar sl mu ml ck ic ds js ps ss tc)) [0, 1, 2, 3, 4] (by decide) rfl
  have hKc := hK.sub (tys' := [(cI, .int)]) [0] rfl
  have hFc := va_free (wc := (wX x a1 a2 a3 a4 cI S F X Y n ar sl mu ml ck ic ds js ps ss tc)) hD hS hA [0, 1, 2, 3, 4] rfl
  refine vx_calll (vx_runV (As := [.int p1, .int p2, .int p3]) (rest := [.int 0, .ref o]) ⟨hx, hb, hml, hown, hts⟩ (c_X0_stretch l hL dC dI z0 sa s.heap.size (Nat.le_trans hz hS.1) x a1 a2 a3 a4 cI S F X Y n ar sl mu ml ck ic ds js ps ss tc p1 p2 p3 ) (cwV 3 hts (gV wl_L_37 wi_X0_stretch wv_X0_stretch wi_X0 wc_X0_stretch) rfl rfl rfl (by decide +kernel) ⟨Nat.le_of_ble_eq_true rfl, Nat.le_of_ble_eq_true rfl⟩) ⟨fun a U g mk q => ⟨q.1, q.2.1, q.2.2.1, va_K.moved (u := U) (U := U.calling g mk a) (Vm.Alike.refl U.vm) q.2.2.2.1, q.2.2.2.2.1, gl_blind q.2.2.2.2.2⟩, va_recv hKc hPc (ci := 0) (q0 := 0) rfl rfl, fun U hU hW => ⟨rfl, by rw [hU], by rw [hU]; exact hPc, va_K.moved hW.alike hKc, hDc.weaken (fun _ _ _ h => hAz _ h), gl_moved hG hS hAz hU hW⟩⟩ rfl rfl hl.1 rfl (lv_room (Nat.le_of_ble_eq_true rfl)) dL_stretch_7 ⟨Nat.le_of_ble_eq_true rfl, Nat.le_of_ble_eq_true rfl⟩) hS (fun q _ h => hFc q h) hFc (fun q _ h => hFc q h) (fun E ce q9 u t H1 locs ht hvm hpx hB hz1 hk1 hS hce hcv hcl => ?_) (fun r7 u7 t H1 locs ht hvm h7 hB hz1 hk1 hS => ?_)
  · -- thrown
    obtain ⟨hE, hP1, hK1, hD1⟩ := hB
    rw [ht] at hP1
    obtain ⟨hP, hD⟩ := va_join (wr := [(o, .inl (cJ, (1, .inr (.inl O))))]) (w1 := (wX x a1 a2 a3 a4 cI S F X Y n ar sl mu ml ck ic ds js ps ss tc)) hP hD [0, 1, 2, 3, 4] [5] rfl rfl (by decide) (by decide) hk1 hFc hP1 hD1
    have hP : va_P (dC, dI) vwCl (wXO x a1 a2 a3 a4 cI S F X Y n ar sl mu ml ck ic ds js ps ss tc o cJ O) H1 := hP.sub [1, 2, 3, 4, 5, 0] rfl
    have hD : va_D A (wXO x a1 a2 a3 a4 cI S F X Y n ar sl mu ml ck ic ds js ps ss tc o cJ O) := hD.sub [1, 2, 3, 4, 5, 0] (by decide) rfl
    generalize H1 = H at hP hS hce ⊢
    rcases hE with ⟨rfl, hk⟩ | ⟨rfl, hk⟩
    · -- IndexOutOfBoundsException
      refine vx_catch (own := RL) (name := "java/lang/IndexOutOfBoundsException") (E := "java/lang/IndexOutOfBoundsException") hown [] ⟨0, 11, 14, 25⟩ [⟨0, 11, 18, 13⟩] (by rw [hTab]; rfl) (fun z hz => nomatch hz) (by decide) (by decide) (hts _ (List.mem_cons_of_mem _ wl_L_25)) (va_Nw.use rfl (hG.2.2.2.1 ("java/lang/IndexOutOfBoundsException", "java/lang/IndexOutOfBoundsException") (by decide +kernel))) hce hcv hcl ?_
      refine W.eq (g2 := F0 m 14 ls [.ref q9]) rfl ?_
      refine lv_astore (lv' := [(5, .ref q9), (0, .ref x), (1, .int p1), (2, .int p2), (3, .int p3), (4, .ref o)]) hx hb dL_stretch_14 hl (by decide) rfl (fun ls hl => ?_)
      refine lv_iconst (v := 1) hx hb dL_stretch_16 (by decide) ?_
      exact W.iret (v := 1) hx hb hr (fun t ht hW => ⟨⟨1, 0, rfl, ⟨hk.symm, fun q => absurd (hk.symm.trans q) (by decide)⟩, Or.inr ⟨fun q => absurd (hk.symm.trans q) (by decide), ⟨by rw [ht]; exact hP, va_K.moved hW.alike hK, hD⟩⟩⟩, hS.F ht⟩) hS.2.2 dL_stretch_17
    · -- IllegalArgumentException
      refine vx_catch (own := RL) (name := "java/lang/IllegalArgumentException") (E := "java/lang/IllegalArgumentException") hown [⟨0, 11, 14, 25⟩] ⟨0, 11, 18, 13⟩ [] (by rw [hTab]; rfl) (fun z hz => by
        simp only [List.mem_cons, List.not_mem_nil, or_false] at hz
        rcases hz with rfl
        · exact Or.inr ⟨by decide, "java/lang/IndexOutOfBoundsException", hts _ (List.mem_cons_of_mem _ wl_L_25), hG.2.2.2.2.1 ("java/lang/IllegalArgumentException", "java/lang/IndexOutOfBoundsException") (by decide +kernel)⟩) (by decide) (by decide) (hts _ (List.mem_cons_of_mem _ wl_L_13)) (va_Nw.use rfl (hG.2.2.2.1 ("java/lang/IllegalArgumentException", "java/lang/IllegalArgumentException") (by decide +kernel))) hce hcv hcl ?_
      refine W.eq (g2 := F0 m 18 ls [.ref q9]) rfl ?_
      refine lv_astore (lv' := [(5, .ref q9), (0, .ref x), (1, .int p1), (2, .int p2), (3, .int p3), (4, .ref o)]) hx hb dL_stretch_18 hl (by decide) rfl (fun ls hl => ?_)
      refine lv_iconst (v := 2) hx hb dL_stretch_20 (by decide) ?_
      exact W.iret (v := 2) hx hb hr (fun t ht hW => ⟨⟨2, 0, rfl, ⟨hk.symm, fun q => absurd (hk.symm.trans q) (by decide)⟩, Or.inr ⟨fun q => absurd (hk.symm.trans q) (by decide), ⟨by rw [ht]; exact hP, va_K.moved hW.alike hK, hD⟩⟩⟩, hS.F ht⟩) hS.2.2 dL_stretch_21
  obtain ⟨hP1, hK1, hD1⟩ := hB
  rw [ht] at hP1
  obtain ⟨hP, hD⟩ := va_join (wr := [(o, .inl (cJ, (1, .inr (.inl O))))]) (w1 := (wX x a1 a2 a3 a4 cI S F X Y n ar sl mu ml ck ic ds js ps ss tc)) hP hD [0, 1, 2, 3, 4] [5] rfl rfl (by decide) (by decide) hk1 hFc hP1 hD1
  have hP : va_P (dC, dI) vwCl (wXO x a1 a2 a3 a4 cI S F X Y n ar sl mu ml ck ic ds js ps ss tc o cJ O) H1 := hP.sub [1, 2, 3, 4, 5, 0] rfl
  have hD : va_D A (wXO x a1 a2 a3 a4 cI S F X Y n ar sl mu ml ck ic ds js ps ss tc o cJ O) := hD.sub [1, 2, 3, 4, 5, 0] (by decide) rfl
  generalize H1 = H at hP hS ⊢
  refine va_last (D := (dC, dI)) hx hb hK hP hD hS 5 1 rfl rfl (vp_in_nI (show 0 < 1 by omega) (by decide)) dL_stretch_10 (fun H locs hP hD hS => ?_)
  rw [show (0 : Int32).toNatClampNeg = 0 from nI_clamp (show 0 < 2 ^ 31 by omega)] at hP hD
  have hP : va_P (dC, dI) vwCl (wXO x a1 a2 a3 a4 cI S F X Y n ar sl mu ml ck ic ds js ps ss tc o cJ (vp_updL O 0 r7)) H := hP
  have hD : va_D A (wXO x a1 a2 a3 a4 cI S F X Y n ar sl mu ml ck ic ds js ps ss tc o cJ (vp_updL O 0 r7)) := hD
  refine lv_goto (tgt := 22) hx hb dL_stretch_11 (by decide) ?_
  refine lv_iconst (v := 0) hx hb dL_stretch_22 (by decide) ?_
  exact W.iret (v := 0) hx hb hr (fun t ht hW => ⟨⟨0, r7, rfl, ⟨h7.1.symm, fun _ => h7.2⟩, Or.inl ⟨h7.1, ⟨by rw [ht]; exact hP, va_K.moved hW.alike hK, hD⟩⟩⟩, hS.F ht⟩) hS.2.2 dL_stretch_23
