set_option maxHeartbeats 4000000 in
set_option maxRecDepth 100000 in
theorem c_L_impact (l : Launch) (hL : l.stackTraces = false) (dC : Nat → ClassId) (dI : Nat → Nat → Nat) (z0 : Nat) (sa : Nat → Nat) (sz : Nat) (hz : z0 ≤ sz) (x a1 a2 a3 a4 : Nat) (cI : ClassId) (S F X Y : Nat → Int32) (n : Nat) (ar sl : Int32) (mu ml : Int64) (ck : Int32) (ic : Nat) (ds js ps ss : Int64) (tc : Nat) (o : Nat) (cJ : ClassId) (O : Nat → Int64) (p1 : Int32) (p2 : Int32) (hi8 : ic ≤ 8) : Met l yL_impact wsL_impact ({ frames := 7, cells := 1, slots := 6, locals := 113 }) (va_Pc [.ref x, .int p1, .int p2, .ref o] (fun U => U.heap.size = sz ∧ va_P (dC, dI) vwCl (wXO x a1 a2 a3 a4 cI S F X Y n ar sl mu ml ck ic ds js ps ss tc o cJ O) U.heap ∧ va_K (dC, dI) vwCl [(cI, .int), (cJ, .long)] U ∧ va_D (fun q => z0 ≤ q) (wXO x a1 a2 a3 a4 cI S F X Y n ar sl mu ml ck ic ds js ps ss tc o cJ O) ∧ gl_ok z0 sa U)) (va_Qi (fun k (u : Int64) => k = kd4 (ok_imp p1 p2) (ic < 8) True True ∧ (kd4 (ok_imp p1 p2) (ic < 8) True True = 0 → u = (nI (ic + 1)).toInt64)) (fun (u : Int64) t => (kd4 (ok_imp p1 p2) (ic < 8) True True = 0 ∧ at_2 dC dI cI cJ (va_A (wXO x a1 a2 a3 a4 cI S F X Y n ar sl mu ml ck ic ds js ps ss tc o cJ O) sz) (wXO x a1 a2 a3 a4 cI S F X Y n ar sl mu ml ck (ic + 1) (ds + p1.toInt64) (js + p2.toInt64) (ps + (p1 * p2).toInt64) (ss + (p1 * p1).toInt64) tc o cJ (vp_updL O 0 u)) t) ∨ (¬ kd4 (ok_imp p1 p2) (ic < 8) True True = 0 ∧ at_2 dC dI cI cJ (va_A (wXO x a1 a2 a3 a4 cI S F X Y n ar sl mu ml ck ic ds js ps ss tc o cJ O) sz) (wXO x a1 a2 a3 a4 cI S F X Y n ar sl mu ml ck ic ds js ps ss tc o cJ O) t)) (va_A (wXO x a1 a2 a3 a4 cI S F X Y n ar sl mu ml ck ic ds js ps ss tc o cJ O) sz)) 1 6 (va_A (wXO x a1 a2 a3 a4 cI S F X Y n ar sl mu ml ck ic ds js ps ss tc o cJ O) sz) := by
  refine va_MetW (cc := cL_impact) (maxL := 5) (ret := (some .int)) (hh := [(0, 10, 13, 13), (0, 10, 17, 15)]) (by decide) rfl ?_
  intro p e s m args below meth c s₁ B hml hv
  obtain ⟨rfl, hsz, hP, hK, hD0, hG⟩ := hv
  have hx := B.exec
  have hb := B.bytes
  have hr := B.returns
  have hts := atoms_spec (ws := wsL_impact) B.pre
  have hown : s.vm.findClass RL = some m.cls := findClass_of_methodNamed B.named
  have hlocks := B.notSynchronized
  have hTab : c.exceptionTable.toList = tableOf [(0, 10, 13, 13), (0, 10, 17, 15)] := vx_table (x := yL_impact) B (hts (.codeWith yL_impact cL_impact 5 (some .int) [(0, 10, 13, 13), (0, 10, 17, 15)]) List.mem_cons_self)
  subst hsz
  have hD := hD0.self (sz := s.heap.size)
  have hAz := az_of hD0 hz
  generalize hAe : va_A (wXO x a1 a2 a3 a4 cI S F X Y n ar sl mu ml ck ic ds js ps ss tc o cJ O) s.heap.size = A at hD hAz ⊢
  have hA : ∀ q : Nat, s.heap.size ≤ q → A q := fun q h => by rw [← hAe]; exact Or.inr h
  have hS : va_S A s.heap s.heap [] := va_S.rf
  have hl := lv_entry ([.ref x, .int p1, .int p2, .ref o]) (n := 5) (Nat.le_of_ble_eq_true rfl)
  rw [lg_entry_eq]
  generalize (lg_sl ([.ref x, .int p1, .int p2, .ref o]) ++ List.replicate (5 - (lg_sl ([.ref x, .int p1, .int p2, .ref o])).length) Slot.unset).toArray = ls at hl ⊢
  have hl : lv_has ls 5 [(0, .ref x), (1, .int p1), (2, .int p2), (3, .ref o)] := hl
  refine lv_aload_n hx hb dL_impact_0 rfl (lv_at hl 3 rfl) ?_
  refine lv_iconst (v := 0) hx hb dL_impact_1 (by decide) ?_
  refine lv_aload_n hx hb dL_impact_2 rfl (lv_at hl 0 rfl) ?_
  refine lv_iload_n hx hb dL_impact_3 rfl (lv_at hl 1 rfl) ?_
  refine lv_iload_n hx hb dL_impact_4 rfl (lv_at hl 2 rfl) ?_
  have hPc := hP.sub (ws' := (wX x a1 a2 a3 a4 cI S F X Y n ar sl mu ml ck ic ds js ps ss tc)) [0, 1, 2, 3, 4] rfl
  have hDc := hD.sub (ws' := (wX x a1 a2 a3 a4 cI S F X Y n ar sl mu ml ck ic ds js ps ss tc)) [0, 1, 2, 3, 4] (by decide) rfl
  have hKc := hK.sub (tys' := [(cI, .int)]) [0] rfl
  have hFc := va_free (wc := (wX x a1 a2 a3 a4 cI S F X Y n ar sl mu ml ck ic ds js ps ss tc)) hD hS hA [0, 1, 2, 3, 4] rfl
  refine vx_calli (vx_runV (As := [.int p1, .int p2]) (rest := [.int 0, .ref o]) ⟨hx, hb, hml, hown, hts⟩ (c_X0_impact l hL dC dI z0 sa s.heap.size (Nat.le_trans hz hS.1) x a1 a2 a3 a4 cI S F X Y n ar sl mu ml ck ic ds js ps ss tc p1 p2 hi8) (cwV 2 hts (gV wl_L_40 wi_X0_impact wv_X0_impact wi_X0 wc_X0_impact) rfl rfl rfl (by decide +kernel) ⟨Nat.le_of_ble_eq_true rfl, Nat.le_of_ble_eq_true rfl⟩) ⟨fun a U g mk q => ⟨q.1, q.2.1, q.2.2.1, va_K.moved (u := U) (U := U.calling g mk a) (Vm.Alike.refl U.vm) q.2.2.2.1, q.2.2.2.2.1, gl_blind q.2.2.2.2.2⟩, va_recv hKc hPc (ci := 0) (q0 := 0) rfl rfl, fun U hU hW => ⟨rfl, by rw [hU], by rw [hU]; exact hPc, va_K.moved hW.alike hKc, hDc.weaken (fun _ _ _ h => hAz _ h), gl_moved hG hS hAz hU hW⟩⟩ rfl rfl hl.1 rfl (lv_room (Nat.le_of_ble_eq_true rfl)) dL_impact_5 ⟨Nat.le_of_ble_eq_true rfl, Nat.le_of_ble_eq_true rfl⟩) hS (fun q _ h => hFc q h) hFc (fun q _ h => hFc q h) (fun E ce q9 u t H1 locs ht hvm hpx hB hz1 hk1 hS hce hcv hcl => ?_) (fun r5 u5 t H1 locs ht hvm h5 hB hz1 hk1 hS => ?_)
  · -- thrown
    obtain ⟨hE, hP1, hK1, hD1⟩ := hB
    rw [ht] at hP1
    obtain ⟨hP, hD⟩ := va_join (wr := [(o, .inl (cJ, (1, .inr (.inl O))))]) (w1 := (wX x a1 a2 a3 a4 cI S F X Y n ar sl mu ml ck ic ds js ps ss tc)) hP hD [0, 1, 2, 3, 4] [5] rfl rfl (by decide) (by decide) hk1 hFc hP1 hD1
    have hP : va_P (dC, dI) vwCl (wXO x a1 a2 a3 a4 cI S F X Y n ar sl mu ml ck ic ds js ps ss tc o cJ O) H1 := hP.sub [1, 2, 3, 4, 5, 0] rfl
    have hD : va_D A (wXO x a1 a2 a3 a4 cI S F X Y n ar sl mu ml ck ic ds js ps ss tc o cJ O) := hD.sub [1, 2, 3, 4, 5, 0] (by decide) rfl
    generalize H1 = H at hP hS hce ⊢
    rcases hE with ⟨rfl, hk⟩ | ⟨rfl, hk⟩
    · -- IllegalArgumentException
      refine vx_catch (own := RL) (name := "java/lang/IllegalArgumentException") (E := "java/lang/IllegalArgumentException") hown [] ⟨0, 10, 13, 13⟩ [⟨0, 10, 17, 15⟩] (by rw [hTab]; rfl) (fun z hz => nomatch hz) (by decide) (by decide) (hts _ (List.mem_cons_of_mem _ wl_L_13)) (va_Nw.use rfl (hG.2.2.2.1 ("java/lang/IllegalArgumentException", "java/lang/IllegalArgumentException") (by decide +kernel))) hce hcv hcl ?_
      refine W.eq (g2 := F0 m 13 ls [.ref q9]) rfl ?_
      refine lv_astore (lv' := [(4, .ref q9), (0, .ref x), (1, .int p1), (2, .int p2), (3, .ref o)]) hx hb dL_impact_13 hl (by decide) rfl (fun ls hl => ?_)
      refine lv_iconst (v := 1) hx hb dL_impact_15 (by decide) ?_
      exact W.iret (v := 1) hx hb hr (fun t ht hW => ⟨⟨1, 0, rfl, ⟨hk.symm, fun q => absurd (hk.symm.trans q) (by decide)⟩, Or.inr ⟨fun q => absurd (hk.symm.trans q) (by decide), ⟨by rw [ht]; exact hP, va_K.moved hW.alike hK, hD⟩⟩⟩, hS.F ht⟩) hS.2.2 dL_impact_16
    · -- UnsupportedOperationException
      refine vx_catch (own := RL) (name := "java/lang/UnsupportedOperationException") (E := "java/lang/UnsupportedOperationException") hown [⟨0, 10, 13, 13⟩] ⟨0, 10, 17, 15⟩ [] (by rw [hTab]; rfl) (fun z hz => by
        simp only [List.mem_cons, List.not_mem_nil, or_false] at hz
        rcases hz with rfl
        · exact Or.inr ⟨by decide, "java/lang/IllegalArgumentException", hts _ (List.mem_cons_of_mem _ wl_L_13), hG.2.2.2.2.1 ("java/lang/UnsupportedOperationException", "java/lang/IllegalArgumentException") (by decide +kernel)⟩) (by decide) (by decide) (hts _ (List.mem_cons_of_mem _ wl_L_15)) (va_Nw.use rfl (hG.2.2.2.1 ("java/lang/UnsupportedOperationException", "java/lang/UnsupportedOperationException") (by decide +kernel))) hce hcv hcl ?_
      refine W.eq (g2 := F0 m 17 ls [.ref q9]) rfl ?_
      refine lv_astore (lv' := [(4, .ref q9), (0, .ref x), (1, .int p1), (2, .int p2), (3, .ref o)]) hx hb dL_impact_17 hl (by decide) rfl (fun ls hl => ?_)
      refine lv_iconst (v := 2) hx hb dL_impact_19 (by decide) ?_
      exact W.iret (v := 2) hx hb hr (fun t ht hW => ⟨⟨2, 0, rfl, ⟨hk.symm, fun q => absurd (hk.symm.trans q) (by decide)⟩, Or.inr ⟨fun q => absurd (hk.symm.trans q) (by decide), ⟨by rw [ht]; exact hP, va_K.moved hW.alike hK, hD⟩⟩⟩, hS.F ht⟩) hS.2.2 dL_impact_20
  obtain ⟨hP1, hK1, hD1⟩ := hB
  rw [ht] at hP1
  obtain ⟨hP, hD⟩ := va_join (wr := [(o, .inl (cJ, (1, .inr (.inl O))))]) (w1 := (wX x a1 a2 a3 a4 cI S F X Y n ar sl mu ml ck (ic + 1) (ds + p1.toInt64) (js + p2.toInt64) (ps + (p1 * p2).toInt64) (ss + (p1 * p1).toInt64) tc)) hP hD [0, 1, 2, 3, 4] [5] rfl rfl (by decide) (by decide) hk1 hFc hP1 hD1
  have hP : va_P (dC, dI) vwCl (wXO x a1 a2 a3 a4 cI S F X Y n ar sl mu ml ck (ic + 1) (ds + p1.toInt64) (js + p2.toInt64) (ps + (p1 * p2).toInt64) (ss + (p1 * p1).toInt64) tc o cJ O) H1 := hP.sub [1, 2, 3, 4, 5, 0] rfl
  have hD : va_D A (wXO x a1 a2 a3 a4 cI S F X Y n ar sl mu ml ck (ic + 1) (ds + p1.toInt64) (js + p2.toInt64) (ps + (p1 * p2).toInt64) (ss + (p1 * p1).toInt64) tc o cJ O) := hD.sub [1, 2, 3, 4, 5, 0] (by decide) rfl
  generalize H1 = H at hP hS ⊢
  refine lv_i2l hx hb dL_impact_8 rfl ?_
  refine va_last (D := (dC, dI)) hx hb hK hP hD hS 5 1 rfl rfl (vp_in_nI (show 0 < 1 by omega) (by decide)) dL_impact_9 (fun H locs hP hD hS => ?_)
  rw [show (0 : Int32).toNatClampNeg = 0 from nI_clamp (show 0 < 2 ^ 31 by omega)] at hP hD
  have hP : va_P (dC, dI) vwCl (wXO x a1 a2 a3 a4 cI S F X Y n ar sl mu ml ck (ic + 1) (ds + p1.toInt64) (js + p2.toInt64) (ps + (p1 * p2).toInt64) (ss + (p1 * p1).toInt64) tc o cJ (vp_updL O 0 r5.toInt64)) H := hP
  have hD : va_D A (wXO x a1 a2 a3 a4 cI S F X Y n ar sl mu ml ck (ic + 1) (ds + p1.toInt64) (js + p2.toInt64) (ps + (p1 * p2).toInt64) (ss + (p1 * p1).toInt64) tc o cJ (vp_updL O 0 r5.toInt64)) := hD
  refine lv_goto (tgt := 21) hx hb dL_impact_10 (by decide) ?_
  refine lv_iconst (v := 0) hx hb dL_impact_21 (by decide) ?_
  exact W.iret (v := 0) hx hb hr (fun t ht hW => ⟨⟨0, r5.toInt64, rfl, ⟨h5.1.symm, fun _ => by rw [h5.2]⟩, Or.inl ⟨h5.1, ⟨by rw [ht]; exact hP, va_K.moved hW.alike hK, hD⟩⟩⟩, hS.F ht⟩) hS.2.2 dL_impact_22
set_option maxHeartbeats 4000000 in
set_option maxRecDepth 100000 in
theorem c_L_fitted (l : Launch) (hL : l.stackTraces = false) (dC : Nat → ClassId) (dI : Nat → Nat → Nat) (z0 : Nat) (sa : Nat → Nat) (sz : Nat) (hz : z0 ≤ sz) (x a1 a2 a3 a4 : Nat) (cI : ClassId) (S F X Y : Nat → Int32) (n : Nat) (ar sl : Int32) (mu ml : Int64) (ck : Int32) (ic : Nat) (ds js ps ss : Int64) (tc : Nat) (o : Nat) (cJ : ClassId) (O : Nat → Int64) (p1 : Int32) (p2 : Int32) (hi8 : ic ≤ 8) (hds : -1600 ≤ ds.toInt ∧ ds.toInt ≤ 1600) (hjs : 0 ≤ js.toInt ∧ js.toInt ≤ 3200) (hps : -640000 ≤ ps.toInt ∧ ps.toInt ≤ 640000) (hss : 0 ≤ ss.toInt ∧ ss.toInt ≤ 320000) : Met l yL_fitted wsL_fitted ({ frames := 8, cells := 2, slots := 12, locals := 139 }) (va_Pc [.ref x, .int p1, .int p2, .ref o] (fun U => U.heap.size = sz ∧ va_P (dC, dI) vwCl (wXO x a1 a2 a3 a4 cI S F X Y n ar sl mu ml ck ic ds js ps ss tc o cJ O) U.heap ∧ va_K (dC, dI) vwCl [(cI, .int), (cJ, .long)] U ∧ va_D (fun q => z0 ≤ q) (wXO x a1 a2 a3 a4 cI S F X Y n ar sl mu ml ck ic ds js ps ss tc o cJ O) ∧ gl_ok z0 sa U)) (va_Qi (fun k (u : Int64) => k = kd4 (0 ≤ p2.toInt ∧ p2.toInt ≤ 1) (0 < ((ic : Int) * ss.toInt - ds.toInt * ds.toInt)) (-200 ≤ p1.toInt ∧ p1.toInt ≤ 200) True ∧ (kd4 (0 ≤ p2.toInt ∧ p2.toInt ≤ 1) (0 < ((ic : Int) * ss.toInt - ds.toInt * ds.toInt)) (-200 ≤ p1.toInt ∧ p1.toInt ≤ 200) True = 0 → u.toInt = fr (js.toInt * ((ic : Int) * ss.toInt - ds.toInt * ds.toInt) + ((ic : Int) * ps.toInt - ds.toInt * js.toInt) * ((ic : Int) * p1.toInt - ds.toInt)) ((ic : Int) * ((ic : Int) * ss.toInt - ds.toInt * ds.toInt)) p2.toInt)) (fun (u : Int64) t => (kd4 (0 ≤ p2.toInt ∧ p2.toInt ≤ 1) (0 < ((ic : Int) * ss.toInt - ds.toInt * ds.toInt)) (-200 ≤ p1.toInt ∧ p1.toInt ≤ 200) True = 0 ∧ at_2 dC dI cI cJ (va_A (wXO x a1 a2 a3 a4 cI S F X Y n ar sl mu ml ck ic ds js ps ss tc o cJ O) sz) (wXO x a1 a2 a3 a4 cI S F X Y n ar sl mu ml ck ic ds js ps ss tc o cJ (vp_updL O 0 u)) t) ∨ (¬ kd4 (0 ≤ p2.toInt ∧ p2.toInt ≤ 1) (0 < ((ic : Int) * ss.toInt - ds.toInt * ds.toInt)) (-200 ≤ p1.toInt ∧ p1.toInt ≤ 200) True = 0 ∧ at_2 dC dI cI cJ (va_A (wXO x a1 a2 a3 a4 cI S F X Y n ar sl mu ml ck ic ds js ps ss tc o cJ O) sz) (wXO x a1 a2 a3 a4 cI S F X Y n ar sl mu ml ck ic ds js ps ss tc o cJ O) t)) (va_A (wXO x a1 a2 a3 a4 cI S F X Y n ar sl mu ml ck ic ds js ps ss tc o cJ O) sz)) 2 12 (va_A (wXO x a1 a2 a3 a4 cI S F X Y n ar sl mu ml ck ic ds js ps ss tc o cJ O) sz) := by
  refine va_MetW (cc := cL_fitted) (maxL := 5) (ret := (some .int)) (hh := [(0, 9, 12, 25), (0, 9, 16, 31), (0, 9, 20, 13)]) (by decide) rfl ?_
  intro p e s m args below meth c s₁ B hml hv
  obtain ⟨rfl, hsz, hP, hK, hD0, hG⟩ := hv
  have hx := B.exec
  have hb := B.bytes
  have hr := B.returns
  have hts := atoms_spec (ws := wsL_fitted) B.pre
  have hown : s.vm.findClass RL = some m.cls := findClass_of_methodNamed B.named
  have hlocks := B.notSynchronized
  have hTab : c.exceptionTable.toList = tableOf [(0, 9, 12, 25), (0, 9, 16, 31), (0, 9, 20, 13)] := vx_table (x := yL_fitted) B (hts (.codeWith yL_fitted cL_fitted 5 (some .int) [(0, 9, 12, 25), (0, 9, 16, 31), (0, 9, 20, 13)]) List.mem_cons_self)
  subst hsz
  have hD := hD0.self (sz := s.heap.size)
  have hAz := az_of hD0 hz
  generalize hAe : va_A (wXO x a1 a2 a3 a4 cI S F X Y n ar sl mu ml ck ic ds js ps ss tc o cJ O) s.heap.size = A at hD hAz ⊢
  have hA : ∀ q : Nat, s.heap.size ≤ q → A q := fun q h => by rw [← hAe]; exact Or.inr h
  have hS : va_S A s.heap s.heap [] := va_S.rf
  have hl := lv_entry ([.ref x, .int p1, .int p2, .ref o]) (n := 5) (Nat.le_of_ble_eq_true rfl)
  rw [lg_entry_eq]
  generalize (lg_sl ([.ref x, .int p1, .int p2, .ref o]) ++ List.replicate (5 - (lg_sl ([.ref x, .int p1, .int p2, .ref o])).length) Slot.unset).toArray = ls at hl ⊢
  have hl : lv_has ls 5 [(0, .ref x), (1, .int p1), (2, .int p2), (3, .ref o)] := hl
  refine lv_aload_n hx hb dL_fitted_0 rfl (lv_at hl 3 rfl) ?_
  refine lv_iconst (v := 0) hx hb dL_fitted_1 (by decide) ?_
  refine lv_aload_n hx hb dL_fitted_2 rfl (lv_at hl 0 rfl) ?_
  refine lv_iload_n hx hb dL_fitted_3 rfl (lv_at hl 1 rfl) ?_
  refine lv_iload_n hx hb dL_fitted_4 rfl (lv_at hl 2 rfl) ?_
  have hPc := hP.sub (ws' := (wX x a1 a2 a3 a4 cI S F X Y n ar sl mu ml ck ic ds js ps ss tc)) [0, 1, 2, 3, 4] rfl
  have hDc := hD.sub (ws' := (wX x a1 a2 a3 a4 cI S F X Y n ar sl mu ml ck ic ds js ps ss tc)) [0, 1, 2, 3, 4] (by decide) rfl
  have hKc := hK.sub (tys' := [(cI, .int)]) [0] rfl
  have hFc := va_free (wc := (wX x a1 a2 a3 a4 cI S F X Y n ar sl mu ml ck ic ds js ps ss tc)) hD hS hA [0, 1, 2, 3, 4] rfl
  refine vx_calll (vx_runV (As := [.int p1, .int p2]) (rest := [.int 0, .ref o]) ⟨hx, hb, hml, hown, hts⟩ (c_X0_fitted l hL dC dI z0 sa s.heap.size (Nat.le_trans hz hS.1) x a1 a2 a3 a4 cI S F X Y n ar sl mu ml ck ic ds js ps ss tc p1 p2 hi8 hds hjs hps hss) (cwV 2 hts (gV wl_L_43 wi_X0_fitted wv_X0_fitted wi_X0 wc_X0_fitted) rfl rfl rfl (by decide +kernel) ⟨Nat.le_of_ble_eq_true rfl, Nat.le_of_ble_eq_true rfl⟩) ⟨fun a U g mk q => ⟨q.1, q.2.1, q.2.2.1, va_K.moved (u := U) (U := U.calling g mk a) (Vm.Alike.refl U.vm) q.2.2.2.1, q.2.2.2.2.1, gl_blind q.2.2.2.2.2⟩, va_recv hKc hPc (ci := 0) (q0 := 0) rfl rfl, fun U hU hW => ⟨rfl, by rw [hU], by rw [hU]; exact hPc, va_K.moved hW.alike hKc, hDc.weaken (fun _ _ _ h => hAz _ h), gl_moved hG hS hAz hU hW⟩⟩ rfl rfl hl.1 rfl (lv_room (Nat.le_of_ble_eq_true rfl)) dL_fitted_5 ⟨Nat.le_of_ble_eq_true rfl, Nat.le_of_ble_eq_true rfl⟩) hS (fun q _ h => hFc q h) hFc (fun q _ h => hFc q h) (fun E ce q9 u t H1 locs ht hvm hpx hB hz1 hk1 hS hce hcv hcl => ?_) (fun r5 u5 t H1 locs ht hvm h5 hB hz1 hk1 hS => ?_)
  · -- thrown
    obtain ⟨hE, hP1, hK1, hD1⟩ := hB
    rw [ht] at hP1
    obtain ⟨hP, hD⟩ := va_join (wr := [(o, .inl (cJ, (1, .inr (.inl O))))]) (w1 := (wX x a1 a2 a3 a4 cI S F X Y n ar sl mu ml ck ic ds js ps ss tc)) hP hD [0, 1, 2, 3, 4] [5] rfl rfl (by decide) (by decide) hk1 hFc hP1 hD1
    have hP : va_P (dC, dI) vwCl (wXO x a1 a2 a3 a4 cI S F X Y n ar sl mu ml ck ic ds js ps ss tc o cJ O) H1 := hP.sub [1, 2, 3, 4, 5, 0] rfl
    have hD : va_D A (wXO x a1 a2 a3 a4 cI S F X Y n ar sl mu ml ck ic ds js ps ss tc o cJ O) := hD.sub [1, 2, 3, 4, 5, 0] (by decide) rfl
    generalize H1 = H at hP hS hce ⊢
    rcases hE with ⟨rfl, hk⟩ | ⟨rfl, hk⟩ | ⟨rfl, hk⟩
    · -- IndexOutOfBoundsException
      refine vx_catch (own := RL) (name := "java/lang/IndexOutOfBoundsException") (E := "java/lang/IndexOutOfBoundsException") hown [] ⟨0, 9, 12, 25⟩ [⟨0, 9, 16, 31⟩, ⟨0, 9, 20, 13⟩] (by rw [hTab]; rfl) (fun z hz => nomatch hz) (by decide) (by decide) (hts _ (List.mem_cons_of_mem _ wl_L_25)) (va_Nw.use rfl (hG.2.2.2.1 ("java/lang/IndexOutOfBoundsException", "java/lang/IndexOutOfBoundsException") (by decide +kernel))) hce hcv hcl ?_
      refine W.eq (g2 := F0 m 12 ls [.ref q9]) rfl ?_
      refine lv_astore (lv' := [(4, .ref q9), (0, .ref x), (1, .int p1), (2, .int p2), (3, .ref o)]) hx hb dL_fitted_12 hl (by decide) rfl (fun ls hl => ?_)
      refine lv_iconst (v := 1) hx hb dL_fitted_14 (by decide) ?_
      exact W.iret (v := 1) hx hb hr (fun t ht hW => ⟨⟨1, 0, rfl, ⟨hk.symm, fun q => absurd (hk.symm.trans q) (by decide)⟩, Or.inr ⟨fun q => absurd (hk.symm.trans q) (by decide), ⟨by rw [ht]; exact hP, va_K.moved hW.alike hK, hD⟩⟩⟩, hS.F ht⟩) hS.2.2 dL_fitted_15
    · -- IllegalStateException
      refine vx_catch (own := RL) (name := "java/lang/IllegalStateException") (E := "java/lang/IllegalStateException") hown [⟨0, 9, 12, 25⟩] ⟨0, 9, 16, 31⟩ [⟨0, 9, 20, 13⟩] (by rw [hTab]; rfl) (fun z hz => by
        simp only [List.mem_cons, List.not_mem_nil, or_false] at hz
        rcases hz with rfl
        · exact Or.inr ⟨by decide, "java/lang/IndexOutOfBoundsException", hts _ (List.mem_cons_of_mem _ wl_L_25), hG.2.2.2.2.1 ("java/lang/IllegalStateException", "java/lang/IndexOutOfBoundsException") (by decide +kernel)⟩) (by decide) (by decide) (hts _ (List.mem_cons_of_mem _ wl_L_31)) (va_Nw.use rfl (hG.2.2.2.1 ("java/lang/IllegalStateException", "java/lang/IllegalStateException") (by decide +kernel))) hce hcv hcl ?_
      refine W.eq (g2 := F0 m 16 ls [.ref q9]) rfl ?_
      refine lv_astore (lv' := [(4, .ref q9), (0, .ref x), (1, .int p1), (2, .int p2), (3, .ref o)]) hx hb dL_fitted_16 hl (by decide) rfl (fun ls hl => ?_)
      refine lv_iconst (v := 2) hx hb dL_fitted_18 (by decide) ?_
      exact W.iret (v := 2) hx hb hr (fun t ht hW => ⟨⟨2, 0, rfl, ⟨hk.symm, fun q => absurd (hk.symm.trans q) (by decide)⟩, Or.inr ⟨fun q => absurd (hk.symm.trans q) (by decide), ⟨by rw [ht]; exact hP, va_K.moved hW.alike hK, hD⟩⟩⟩, hS.F ht⟩) hS.2.2 dL_fitted_19
    · -- IllegalArgumentException
      refine vx_catch (own := RL) (name := "java/lang/IllegalArgumentException") (E := "java/lang/IllegalArgumentException") hown [⟨0, 9, 12, 25⟩, ⟨0, 9, 16, 31⟩] ⟨0, 9, 20, 13⟩ [] (by rw [hTab]; rfl) (fun z hz => by
        simp only [List.mem_cons, List.not_mem_nil, or_false] at hz
        rcases hz with rfl | rfl
        · exact Or.inr ⟨by decide, "java/lang/IndexOutOfBoundsException", hts _ (List.mem_cons_of_mem _ wl_L_25), hG.2.2.2.2.1 ("java/lang/IllegalArgumentException", "java/lang/IndexOutOfBoundsException") (by decide +kernel)⟩
        · exact Or.inr ⟨by decide, "java/lang/IllegalStateException", hts _ (List.mem_cons_of_mem _ wl_L_31), hG.2.2.2.2.1 ("java/lang/IllegalArgumentException", "java/lang/IllegalStateException") (by decide +kernel)⟩) (by decide) (by decide) (hts _ (List.mem_cons_of_mem _ wl_L_13)) (va_Nw.use rfl (hG.2.2.2.1 ("java/lang/IllegalArgumentException", "java/lang/IllegalArgumentException") (by decide +kernel))) hce hcv hcl ?_
      refine W.eq (g2 := F0 m 20 ls [.ref q9]) rfl ?_
      refine lv_astore (lv' := [(4, .ref q9), (0, .ref x), (1, .int p1), (2, .int p2), (3, .ref o)]) hx hb dL_fitted_20 hl (by decide) rfl (fun ls hl => ?_)
      refine lv_iconst (v := 3) hx hb dL_fitted_22 (by decide) ?_
      exact W.iret (v := 3) hx hb hr (fun t ht hW => ⟨⟨3, 0, rfl, ⟨hk.symm, fun q => absurd (hk.symm.trans q) (by decide)⟩, Or.inr ⟨fun q => absurd (hk.symm.trans q) (by decide), ⟨by rw [ht]; exact hP, va_K.moved hW.alike hK, hD⟩⟩⟩, hS.F ht⟩) hS.2.2 dL_fitted_23
  obtain ⟨hP1, hK1, hD1⟩ := hB
  rw [ht] at hP1
  obtain ⟨hP, hD⟩ := va_join (wr := [(o, .inl (cJ, (1, .inr (.inl O))))]) (w1 := (wX x a1 a2 a3 a4 cI S F X Y n ar sl mu ml ck ic ds js ps ss tc)) hP hD [0, 1, 2, 3, 4] [5] rfl rfl (by decide) (by decide) hk1 hFc hP1 hD1
  have hP : va_P (dC, dI) vwCl (wXO x a1 a2 a3 a4 cI S F X Y n ar sl mu ml ck ic ds js ps ss tc o cJ O) H1 := hP.sub [1, 2, 3, 4, 5, 0] rfl
  have hD : va_D A (wXO x a1 a2 a3 a4 cI S F X Y n ar sl mu ml ck ic ds js ps ss tc o cJ O) := hD.sub [1, 2, 3, 4, 5, 0] (by decide) rfl
  generalize H1 = H at hP hS ⊢
  refine va_last (D := (dC, dI)) hx hb hK hP hD hS 5 1 rfl rfl (vp_in_nI (show 0 < 1 by omega) (by decide)) dL_fitted_8 (fun H locs hP hD hS => ?_)
  rw [show (0 : Int32).toNatClampNeg = 0 from nI_clamp (show 0 < 2 ^ 31 by omega)] at hP hD
  have hP : va_P (dC, dI) vwCl (wXO x a1 a2 a3 a4 cI S F X Y n ar sl mu ml ck ic ds js ps ss tc o cJ (vp_updL O 0 r5)) H := hP
  have hD : va_D A (wXO x a1 a2 a3 a4 cI S F X Y n ar sl mu ml ck ic ds js ps ss tc o cJ (vp_updL O 0 r5)) := hD
  refine lv_goto (tgt := 24) hx hb dL_fitted_9 (by decide) ?_
  refine lv_iconst (v := 0) hx hb dL_fitted_24 (by decide) ?_
  exact W.iret (v := 0) hx hb hr (fun t ht hW => ⟨⟨0, r5, rfl, ⟨h5.1.symm, fun _ => h5.2⟩, Or.inl ⟨h5.1, ⟨by rw [ht]; exact hP, va_K.moved hW.alike hK, hD⟩⟩⟩, hS.F ht⟩) hS.2.2 dL_fitted_25
set_option maxHeartbeats 4000000 in
set_option maxRecDepth 100000 in
theorem c_L_table (l : Launch) (hL : l.stackTraces = false) (dC : Nat → ClassId) (dI : Nat → Nat → Nat) (z0 : Nat) (sa : Nat → Nat) (sz : Nat) (hz : z0 ≤ sz) (x a1 a2 a3 a4 : Nat) (cI : ClassId) (S F X Y : Nat → Int32) (n : Nat) (ar sl : Int32) (mu ml : Int64) (ck : Int32) (ic : Nat) (ds js ps ss : Int64) (tc : Nat) (o : Nat) (cJ : ClassId) (O : Nat → Int64) (p1 : Int32) (p2 : Int32) (htc : tc ≤ 8) : Met l yL_table wsL_table ({ frames := 7, cells := 1, slots := 6, locals := 113 }) (va_Pc [.ref x, .int p1, .int p2, .ref o] (fun U => U.heap.size = sz ∧ va_P (dC, dI) vwCl (wXO x a1 a2 a3 a4 cI S F X Y n ar sl mu ml ck ic ds js ps ss tc o cJ O) U.heap ∧ va_K (dC, dI) vwCl [(cI, .int), (cJ, .long)] U ∧ va_D (fun q => z0 ≤ q) (wXO x a1 a2 a3 a4 cI S F X Y n ar sl mu ml ck ic ds js ps ss tc o cJ O) ∧ gl_ok z0 sa U)) (va_Qi (fun k (u : Int64) => k = kd4 (ok_tab tc X p1 p2) (tc < 8) True True ∧ (kd4 (ok_tab tc X p1 p2) (tc < 8) True True = 0 → u = (nI (tc + 1)).toInt64)) (fun (u : Int64) t => (kd4 (ok_tab tc X p1 p2) (tc < 8) True True = 0 ∧ at_2 dC dI cI cJ (va_A (wXO x a1 a2 a3 a4 cI S F X Y n ar sl mu ml ck ic ds js ps ss tc o cJ O) sz) (wXO x a1 a2 a3 a4 cI S F (upd X tc p1) (upd Y tc p2) n ar sl mu ml ck ic ds js ps ss (tc + 1) o cJ (vp_updL O 0 u)) t) ∨ (¬ kd4 (ok_tab tc X p1 p2) (tc < 8) True True = 0 ∧ at_2 dC dI cI cJ (va_A (wXO x a1 a2 a3 a4 cI S F X Y n ar sl mu ml ck ic ds js ps ss tc o cJ O) sz) (wXO x a1 a2 a3 a4 cI S F X Y n ar sl mu ml ck ic ds js ps ss tc o cJ O) t)) (va_A (wXO x a1 a2 a3 a4 cI S F X Y n ar sl mu ml ck ic ds js ps ss tc o cJ O) sz)) 1 6 (va_A (wXO x a1 a2 a3 a4 cI S F X Y n ar sl mu ml ck ic ds js ps ss tc o cJ O) sz) := by
  refine va_MetW (cc := cL_table) (maxL := 5) (ret := (some .int)) (hh := [(0, 10, 13, 13), (0, 10, 17, 15)]) (by decide) rfl ?_
  intro p e s m args below meth c s₁ B hml hv
  obtain ⟨rfl, hsz, hP, hK, hD0, hG⟩ := hv
  have hx := B.exec
  have hb := B.bytes
  have hr := B.returns
  have hts := atoms_spec (ws := wsL_table) B.pre
  have hown : s.vm.findClass RL = some m.cls := findClass_of_methodNamed B.named
  have hlocks := B.notSynchronized
  have hTab : c.exceptionTable.toList = tableOf [(0, 10, 13, 13), (0, 10, 17, 15)] := vx_table (x := yL_table) B (hts (.codeWith yL_table cL_table 5 (some .int) [(0, 10, 13, 13), (0, 10, 17, 15)]) List.mem_cons_self)
  subst hsz
  have hD := hD0.self (sz := s.heap.size)
  have hAz := az_of hD0 hz
  generalize hAe : va_A (wXO x a1 a2 a3 a4 cI S F X Y n ar sl mu ml ck ic ds js ps ss tc o cJ O) s.heap.size = A at hD hAz ⊢
  have hA : ∀ q : Nat, s.heap.size ≤ q → A q := fun q h => by rw [← hAe]; exact Or.inr h
  have hS : va_S A s.heap s.heap [] := va_S.rf
  have hl := lv_entry ([.ref x, .int p1, .int p2, .ref o]) (n := 5) (Nat.le_of_ble_eq_true rfl)
  rw [lg_entry_eq]
  generalize (lg_sl ([.ref x, .int p1, .int p2, .ref o]) ++ List.replicate (5 - (lg_sl ([.ref x, .int p1, .int p2, .ref o])).length) Slot.unset).toArray = ls at hl ⊢
  have hl : lv_has ls 5 [(0, .ref x), (1, .int p1), (2, .int p2), (3, .ref o)] := hl
  refine lv_aload_n hx hb dL_table_0 rfl (lv_at hl 3 rfl) ?_
  refine lv_iconst (v := 0) hx hb dL_table_1 (by decide) ?_
  refine lv_aload_n hx hb dL_table_2 rfl (lv_at hl 0 rfl) ?_
  refine lv_iload_n hx hb dL_table_3 rfl (lv_at hl 1 rfl) ?_
  refine lv_iload_n hx hb dL_table_4 rfl (lv_at hl 2 rfl) ?_
  have hPc := hP.sub (ws' := (wX x a1 a2 a3 a4 cI S F X Y n ar sl mu ml ck ic ds js ps ss tc)) [0, 1, 2, 3, 4] rfl
  have hDc := hD.sub (ws' := (wX x a1 a2 a3 a4 cI S F X Y n ar sl mu ml ck ic ds js ps ss tc)) [0, 1, 2, 3, 4] (by decide) rfl
  have hKc := hK.sub (tys' := [(cI, .int)]) [0] rfl
  have hFc := va_free (wc := (wX x a1 a2 a3 a4 cI S F X Y n ar sl mu ml ck ic ds js ps ss tc)) hD hS hA [0, 1, 2, 3, 4] rfl
  refine vx_calli (vx_runV (As := [.int p1, .int p2]) (rest := [.int 0, .ref o]) ⟨hx, hb, hml, hown, hts⟩ (c_X0_table l hL dC dI z0 sa s.heap.size (Nat.le_trans hz hS.1) x a1 a2 a3 a4 cI S F X Y n ar sl mu ml ck ic ds js ps ss tc p1 p2 htc) (cwV 2 hts (gV wl_L_46 wi_X0_table wv_X0_table wi_X0 wc_X0_table) rfl rfl rfl (by decide +kernel) ⟨Nat.le_of_ble_eq_true rfl, Nat.le_of_ble_eq_true rfl⟩) ⟨fun a U g mk q => ⟨q.1, q.2.1, q.2.2.1, va_K.moved (u := U) (U := U.calling g mk a) (Vm.Alike.refl U.vm) q.2.2.2.1, q.2.2.2.2.1, gl_blind q.2.2.2.2.2⟩, va_recv hKc hPc (ci := 0) (q0 := 0) rfl rfl, fun U hU hW => ⟨rfl, by rw [hU], by rw [hU]; exact hPc, va_K.moved hW.alike hKc, hDc.weaken (fun _ _ _ h => hAz _ h), gl_moved hG hS hAz hU hW⟩⟩ rfl rfl hl.1 rfl (lv_room (Nat.le_of_ble_eq_true rfl)) dL_table_5 ⟨Nat.le_of_ble_eq_true rfl, Nat.le_of_ble_eq_true rfl⟩) hS (fun q _ h => hFc q h) hFc (fun q _ h => hFc q h) (fun E ce q9 u t H1 locs ht hvm hpx hB hz1 hk1 hS hce hcv hcl => ?_) (fun r5 u5 t H1 locs ht hvm h5 hB hz1 hk1 hS => ?_)
  · -- thrown
    obtain ⟨hE, hP1, hK1, hD1⟩ := hB
    rw [ht] at hP1
    obtain ⟨hP, hD⟩ := va_join (wr := [(o, .inl (cJ, (1, .inr (.inl O))))]) (w1 := (wX x a1 a2 a3 a4 cI S F X Y n ar sl mu ml ck ic ds js ps ss tc)) hP hD [0, 1, 2, 3, 4] [5] rfl rfl (by decide) (by decide) hk1 hFc hP1 hD1
    have hP : va_P (dC, dI) vwCl (wXO x a1 a2 a3 a4 cI S F X Y n ar sl mu ml ck ic ds js ps ss tc o cJ O) H1 := hP.sub [1, 2, 3, 4, 5, 0] rfl
    have hD : va_D A (wXO x a1 a2 a3 a4 cI S F X Y n ar sl mu ml ck ic ds js ps ss tc o cJ O) := hD.sub [1, 2, 3, 4, 5, 0] (by decide) rfl
    generalize H1 = H at hP hS hce ⊢
    rcases hE with ⟨rfl, hk⟩ | ⟨rfl, hk⟩
    · -- IllegalArgumentException
      refine vx_catch (own := RL) (name := "java/lang/IllegalArgumentException") (E := "java/lang/IllegalArgumentException") hown [] ⟨0, 10, 13, 13⟩ [⟨0, 10, 17, 15⟩] (by rw [hTab]; rfl) (fun z hz => nomatch hz) (by decide) (by decide) (hts _ (List.mem_cons_of_mem _ wl_L_13)) (va_Nw.use rfl (hG.2.2.2.1 ("java/lang/IllegalArgumentException", "java/lang/IllegalArgumentException") (by decide +kernel))) hce hcv hcl ?_
      refine W.eq (g2 := F0 m 13 ls [.ref q9]) rfl ?_
      refine lv_astore (lv' := [(4, .ref q9), (0, .ref x), (1, .int p1), (2, .int p2), (3, .ref o)]) hx hb dL_table_13 hl (by decide) rfl (fun ls hl => ?_)
      refine lv_iconst (v := 1) hx hb dL_table_15 (by decide) ?_
      exact W.iret (v := 1) hx hb hr (fun t ht hW => ⟨⟨1, 0, rfl, ⟨hk.symm, fun q => absurd (hk.symm.trans q) (by decide)⟩, Or.inr ⟨fun q => absurd (hk.symm.trans q) (by decide), ⟨by rw [ht]; exact hP, va_K.moved hW.alike hK, hD⟩⟩⟩, hS.F ht⟩) hS.2.2 dL_table_16
    · -- UnsupportedOperationException
      refine vx_catch (own := RL) (name := "java/lang/UnsupportedOperationException") (E := "java/lang/UnsupportedOperationException") hown [⟨0, 10, 13, 13⟩] ⟨0, 10, 17, 15⟩ [] (by rw [hTab]; rfl) (fun z hz => by
        simp only [List.mem_cons, List.not_mem_nil, or_false] at hz
        rcases hz with rfl
        · exact Or.inr ⟨by decide, "java/lang/IllegalArgumentException", hts _ (List.mem_cons_of_mem _ wl_L_13), hG.2.2.2.2.1 ("java/lang/UnsupportedOperationException", "java/lang/IllegalArgumentException") (by decide +kernel)⟩) (by decide) (by decide) (hts _ (List.mem_cons_of_mem _ wl_L_15)) (va_Nw.use rfl (hG.2.2.2.1 ("java/lang/UnsupportedOperationException", "java/lang/UnsupportedOperationException") (by decide +kernel))) hce hcv hcl ?_
      refine W.eq (g2 := F0 m 17 ls [.ref q9]) rfl ?_
      refine lv_astore (lv' := [(4, .ref q9), (0, .ref x), (1, .int p1), (2, .int p2), (3, .ref o)]) hx hb dL_table_17 hl (by decide) rfl (fun ls hl => ?_)
      refine lv_iconst (v := 2) hx hb dL_table_19 (by decide) ?_
      exact W.iret (v := 2) hx hb hr (fun t ht hW => ⟨⟨2, 0, rfl, ⟨hk.symm, fun q => absurd (hk.symm.trans q) (by decide)⟩, Or.inr ⟨fun q => absurd (hk.symm.trans q) (by decide), ⟨by rw [ht]; exact hP, va_K.moved hW.alike hK, hD⟩⟩⟩, hS.F ht⟩) hS.2.2 dL_table_20
  obtain ⟨hP1, hK1, hD1⟩ := hB
  rw [ht] at hP1
  obtain ⟨hP, hD⟩ := va_join (wr := [(o, .inl (cJ, (1, .inr (.inl O))))]) (w1 := (wX x a1 a2 a3 a4 cI S F (upd X tc p1) (upd Y tc p2) n ar sl mu ml ck ic ds js ps ss (tc + 1))) hP hD [0, 1, 2, 3, 4] [5] rfl rfl (by decide) (by decide) hk1 hFc hP1 hD1
  have hP : va_P (dC, dI) vwCl (wXO x a1 a2 a3 a4 cI S F (upd X tc p1) (upd Y tc p2) n ar sl mu ml ck ic ds js ps ss (tc + 1) o cJ O) H1 := hP.sub [1, 2, 3, 4, 5, 0] rfl
  have hD : va_D A (wXO x a1 a2 a3 a4 cI S F (upd X tc p1) (upd Y tc p2) n ar sl mu ml ck ic ds js ps ss (tc + 1) o cJ O) := hD.sub [1, 2, 3, 4, 5, 0] (by decide) rfl
  generalize H1 = H at hP hS ⊢
  refine lv_i2l hx hb dL_table_8 rfl ?_
  refine va_last (D := (dC, dI)) hx hb hK hP hD hS 5 1 rfl rfl (vp_in_nI (show 0 < 1 by omega) (by decide)) dL_table_9 (fun H locs hP hD hS => ?_)
  rw [show (0 : Int32).toNatClampNeg = 0 from nI_clamp (show 0 < 2 ^ 31 by omega)] at hP hD
  have hP : va_P (dC, dI) vwCl (wXO x a1 a2 a3 a4 cI S F (upd X tc p1) (upd Y tc p2) n ar sl mu ml ck ic ds js ps ss (tc + 1) o cJ (vp_updL O 0 r5.toInt64)) H := hP
  have hD : va_D A (wXO x a1 a2 a3 a4 cI S F (upd X tc p1) (upd Y tc p2) n ar sl mu ml ck ic ds js ps ss (tc + 1) o cJ (vp_updL O 0 r5.toInt64)) := hD
  refine lv_goto (tgt := 21) hx hb dL_table_10 (by decide) ?_
  refine lv_iconst (v := 0) hx hb dL_table_21 (by decide) ?_
  exact W.iret (v := 0) hx hb hr (fun t ht hW => ⟨⟨0, r5.toInt64, rfl, ⟨h5.1.symm, fun _ => by rw [h5.2]⟩, Or.inl ⟨h5.1, ⟨by rw [ht]; exact hP, va_K.moved hW.alike hK, hD⟩⟩⟩, hS.F ht⟩) hS.2.2 dL_table_22
set_option maxHeartbeats 4000000 in
set_option maxRecDepth 100000 in
theorem c_L_convert (l : Launch) (hL : l.stackTraces = false) (dC : Nat → ClassId) (dI : Nat → Nat → Nat) (z0 : Nat) (sa : Nat → Nat) (sz : Nat) (hz : z0 ≤ sz) (x a1 a2 a3 a4 : Nat) (cI : ClassId) (S F X Y : Nat → Int32) (n : Nat) (ar sl : Int32) (mu ml : Int64) (ck : Int32) (ic : Nat) (ds js ps ss : Int64) (tc : Nat) (o : Nat) (cJ : ClassId) (O : Nat → Int64) (p1 : Int32) (p2 : Int32) (htc : tc ≤ 8) (hrt : ris X tc) (hXb : ∀ j, j < tc → 0 ≤ (X j).toInt ∧ (X j).toInt ≤ 2000) (hYb : ∀ j, j < tc → 0 ≤ (Y j).toInt ∧ (Y j).toInt ≤ 2000) : Met l yL_convert wsL_convert ({ frames := 8, cells := 2, slots := 12, locals := 138 }) (va_Pc [.ref x, .int p1, .int p2, .ref o] (fun U => U.heap.size = sz ∧ va_P (dC, dI) vwCl (wXO x a1 a2 a3 a4 cI S F X Y n ar sl mu ml ck ic ds js ps ss tc o cJ O) U.heap ∧ va_K (dC, dI) vwCl [(cI, .int), (cJ, .long)] U ∧ va_D (fun q => z0 ≤ q) (wXO x a1 a2 a3 a4 cI S F X Y n ar sl mu ml ck ic ds js ps ss tc o cJ O) ∧ gl_ok z0 sa U)) (va_Qi (fun k (u : Int64) => k = kd4 (0 ≤ p2.toInt ∧ p2.toInt ≤ 2) (0 < tc) (0 ≤ p1.toInt ∧ p1.toInt ≤ 2000) (ok_cv tc X p1) ∧ (kd4 (0 ≤ p2.toInt ∧ p2.toInt ≤ 2) (0 < tc) (0 ≤ p1.toInt ∧ p1.toInt ≤ 2000) (ok_cv tc X p1) = 0 → ∃ z : Int32, u = z.toInt64 ∧ cvs X Y tc p1.toInt p2.toInt z)) (fun (u : Int64) t => (kd4 (0 ≤ p2.toInt ∧ p2.toInt ≤ 2) (0 < tc) (0 ≤ p1.toInt ∧ p1.toInt ≤ 2000) (ok_cv tc X p1) = 0 ∧ at_2 dC dI cI cJ (va_A (wXO x a1 a2 a3 a4 cI S F X Y n ar sl mu ml ck ic ds js ps ss tc o cJ O) sz) (wXO x a1 a2 a3 a4 cI S F X Y n ar sl mu ml ck ic ds js ps ss tc o cJ (vp_updL O 0 u)) t) ∨ (¬ kd4 (0 ≤ p2.toInt ∧ p2.toInt ≤ 2) (0 < tc) (0 ≤ p1.toInt ∧ p1.toInt ≤ 2000) (ok_cv tc X p1) = 0 ∧ at_2 dC dI cI cJ (va_A (wXO x a1 a2 a3 a4 cI S F X Y n ar sl mu ml ck ic ds js ps ss tc o cJ O) sz) (wXO x a1 a2 a3 a4 cI S F X Y n ar sl mu ml ck ic ds js ps ss tc o cJ O) t)) (va_A (wXO x a1 a2 a3 a4 cI S F X Y n ar sl mu ml ck ic ds js ps ss tc o cJ O) sz)) 2 12 (va_A (wXO x a1 a2 a3 a4 cI S F X Y n ar sl mu ml ck ic ds js ps ss tc o cJ O) sz) := by
  refine va_MetW (cc := cL_convert) (maxL := 5) (ret := (some .int)) (hh := [(0, 10, 13, 25), (0, 10, 17, 31), (0, 10, 21, 13), (0, 10, 25, 15)]) (by decide) rfl ?_
  intro p e s m args below meth c s₁ B hml hv
  obtain ⟨rfl, hsz, hP, hK, hD0, hG⟩ := hv
  have hx := B.exec
  have hb := B.bytes
  have hr := B.returns
  have hts := atoms_spec (ws := wsL_convert) B.pre
  have hown : s.vm.findClass RL = some m.cls := findClass_of_methodNamed B.named
  have hlocks := B.notSynchronized
  have hTab : c.exceptionTable.toList = tableOf [(0, 10, 13, 25), (0, 10, 17, 31), (0, 10, 21, 13), (0, 10, 25, 15)] := vx_table (x := yL_convert) B (hts (.codeWith yL_convert cL_convert 5 (some .int) [(0, 10, 13, 25), (0, 10, 17, 31), (0, 10, 21, 13), (0, 10, 25, 15)]) List.mem_cons_self)
  subst hsz
  have hD := hD0.self (sz := s.heap.size)
  have hAz := az_of hD0 hz
  generalize hAe : va_A (wXO x a1 a2 a3 a4 cI S F X Y n ar sl mu ml ck ic ds js ps ss tc o cJ O) s.heap.size = A at hD hAz ⊢
  have hA : ∀ q : Nat, s.heap.size ≤ q → A q := fun q h => by rw [← hAe]; exact Or.inr h
  have hS : va_S A s.heap s.heap [] := va_S.rf
  have hl := lv_entry ([.ref x, .int p1, .int p2, .ref o]) (n := 5) (Nat.le_of_ble_eq_true rfl)
  rw [lg_entry_eq]
  generalize (lg_sl ([.ref x, .int p1, .int p2, .ref o]) ++ List.replicate (5 - (lg_sl ([.ref x, .int p1, .int p2, .ref o])).length) Slot.unset).toArray = ls at hl ⊢
  have hl : lv_has ls 5 [(0, .ref x), (1, .int p1), (2, .int p2), (3, .ref o)] := hl
  refine lv_aload_n hx hb dL_convert_0 rfl (lv_at hl 3 rfl) ?_
  refine lv_iconst (v := 0) hx hb dL_convert_1 (by decide) ?_
  refine lv_aload_n hx hb dL_convert_2 rfl (lv_at hl 0 rfl) ?_
  refine lv_iload_n hx hb dL_convert_3 rfl (lv_at hl 1 rfl) ?_
  refine lv_iload_n hx hb dL_convert_4 rfl (lv_at hl 2 rfl) ?_
  have hPc := hP.sub (ws' := (wX x a1 a2 a3 a4 cI S F X Y n ar sl mu ml ck ic ds js ps ss tc)) [0, 1, 2, 3, 4] rfl
  have hDc := hD.sub (ws' := (wX x a1 a2 a3 a4 cI S F X Y n ar sl mu ml ck ic ds js ps ss tc)) [0, 1, 2, 3, 4] (by decide) rfl
  have hKc := hK.sub (tys' := [(cI, .int)]) [0] rfl
  have hFc := va_free (wc := (wX x a1 a2 a3 a4 cI S F X Y n ar sl mu ml ck ic ds js ps ss tc)) hD hS hA [0, 1, 2, 3, 4] rfl
  refine vx_calli (vx_runV (As := [.int p1, .int p2]) (rest := [.int 0, .ref o]) ⟨hx, hb, hml, hown, hts⟩ (c_X0_convert l hL dC dI z0 sa s.heap.size (Nat.le_trans hz hS.1) x a1 a2 a3 a4 cI S F X Y n ar sl mu ml ck ic ds js ps ss tc p1 p2 htc hrt hXb hYb) (cwV 2 hts (gV wl_L_49 wi_X0_convert wv_X0_convert wi_X0 wc_X0_convert) rfl rfl rfl (by decide +kernel) ⟨Nat.le_of_ble_eq_true rfl, Nat.le_of_ble_eq_true rfl⟩) ⟨fun a U g mk q => ⟨q.1, q.2.1, q.2.2.1, va_K.moved (u := U) (U := U.calling g mk a) (Vm.Alike.refl U.vm) q.2.2.2.1, q.2.2.2.2.1, gl_blind q.2.2.2.2.2⟩, va_recv hKc hPc (ci := 0) (q0 := 0) rfl rfl, fun U hU hW => ⟨rfl, by rw [hU], by rw [hU]; exact hPc, va_K.moved hW.alike hKc, hDc.weaken (fun _ _ _ h => hAz _ h), gl_moved hG hS hAz hU hW⟩⟩ rfl rfl hl.1 rfl (lv_room (Nat.le_of_ble_eq_true rfl)) dL_convert_5 ⟨Nat.le_of_ble_eq_true rfl, Nat.le_of_ble_eq_true rfl⟩) hS (fun q _ h => hFc q h) hFc (fun q _ h => hFc q h) (fun E ce q9 u t H1 locs ht hvm hpx hB hz1 hk1 hS hce hcv hcl => ?_) (fun r5 u5 t H1 locs ht hvm h5 hB hz1 hk1 hS => ?_)
  · -- thrown
    obtain ⟨hE, hP1, hK1, hD1⟩ := hB
    rw [ht] at hP1
    obtain ⟨hP, hD⟩ := va_join (wr := [(o, .inl (cJ, (1, .inr (.inl O))))]) (w1 := (wX x a1 a2 a3 a4 cI S F X Y n ar sl mu ml ck ic ds js ps ss tc)) hP hD [0, 1, 2, 3, 4] [5] rfl rfl (by decide) (by decide) hk1 hFc hP1 hD1
    have hP : va_P (dC, dI) vwCl (wXO x a1 a2 a3 a4 cI S F X Y n ar sl mu ml ck ic ds js ps ss tc o cJ O) H1 := hP.sub [1, 2, 3, 4, 5, 0] rfl
    have hD : va_D A (wXO x a1 a2 a3 a4 cI S F X Y n ar sl mu ml ck ic ds js ps ss tc o cJ O) := hD.sub [1, 2, 3, 4, 5, 0] (by decide) rfl
    generalize H1 = H at hP hS hce ⊢
    rcases hE with ⟨rfl, hk⟩ | ⟨rfl, hk⟩ | ⟨rfl, hk⟩ | ⟨rfl, hk⟩
    · -- IndexOutOfBoundsException
      refine vx_catch (own := RL) (name := "java/lang/IndexOutOfBoundsException") (E := "java/lang/IndexOutOfBoundsException") hown [] ⟨0, 10, 13, 25⟩ [⟨0, 10, 17, 31⟩, ⟨0, 10, 21, 13⟩, ⟨0, 10, 25, 15⟩] (by rw [hTab]; rfl) (fun z hz => nomatch hz) (by decide) (by decide) (hts _ (List.mem_cons_of_mem _ wl_L_25)) (va_Nw.use rfl (hG.2.2.2.1 ("java/lang/IndexOutOfBoundsException", "java/lang/IndexOutOfBoundsException") (by decide +kernel))) hce hcv hcl ?_
      refine W.eq (g2 := F0 m 13 ls [.ref q9]) rfl ?_
      refine lv_astore (lv' := [(4, .ref q9), (0, .ref x), (1, .int p1), (2, .int p2), (3, .ref o)]) hx hb dL_convert_13 hl (by decide) rfl (fun ls hl => ?_)
      refine lv_iconst (v := 1) hx hb dL_convert_15 (by decide) ?_
      exact W.iret (v := 1) hx hb hr (fun t ht hW => ⟨⟨1, 0, rfl, ⟨hk.symm, fun q => absurd (hk.symm.trans q) (by decide)⟩, Or.inr ⟨fun q => absurd (hk.symm.trans q) (by decide), ⟨by rw [ht]; exact hP, va_K.moved hW.alike hK, hD⟩⟩⟩, hS.F ht⟩) hS.2.2 dL_convert_16
    · -- IllegalStateException
      refine vx_catch (own := RL) (name := "java/lang/IllegalStateException") (E := "java/lang/IllegalStateException") hown [⟨0, 10, 13, 25⟩] ⟨0, 10, 17, 31⟩ [⟨0, 10, 21, 13⟩, ⟨0, 10, 25, 15⟩] (by rw [hTab]; rfl) (fun z hz => by
        simp only [List.mem_cons, List.not_mem_nil, or_false] at hz
        rcases hz with rfl
        · exact Or.inr ⟨by decide, "java/lang/IndexOutOfBoundsException", hts _ (List.mem_cons_of_mem _ wl_L_25), hG.2.2.2.2.1 ("java/lang/IllegalStateException", "java/lang/IndexOutOfBoundsException") (by decide +kernel)⟩) (by decide) (by decide) (hts _ (List.mem_cons_of_mem _ wl_L_31)) (va_Nw.use rfl (hG.2.2.2.1 ("java/lang/IllegalStateException", "java/lang/IllegalStateException") (by decide +kernel))) hce hcv hcl ?_
      refine W.eq (g2 := F0 m 17 ls [.ref q9]) rfl ?_
      refine lv_astore (lv' := [(4, .ref q9), (0, .ref x), (1, .int p1), (2, .int p2), (3, .ref o)]) hx hb dL_convert_17 hl (by decide) rfl (fun ls hl => ?_)
      refine lv_iconst (v := 2) hx hb dL_convert_19 (by decide) ?_
      exact W.iret (v := 2) hx hb hr (fun t ht hW => ⟨⟨2, 0, rfl, ⟨hk.symm, fun q => absurd (hk.symm.trans q) (by decide)⟩, Or.inr ⟨fun q => absurd (hk.symm.trans q) (by decide), ⟨by rw [ht]; exact hP, va_K.moved hW.alike hK, hD⟩⟩⟩, hS.F ht⟩) hS.2.2 dL_convert_20
    · -- IllegalArgumentException
      refine vx_catch (own := RL) (name := "java/lang/IllegalArgumentException") (E := "java/lang/IllegalArgumentException") hown [⟨0, 10, 13, 25⟩, ⟨0, 10, 17, 31⟩] ⟨0, 10, 21, 13⟩ [⟨0, 10, 25, 15⟩] (by rw [hTab]; rfl) (fun z hz => by
        simp only [List.mem_cons, List.not_mem_nil, or_false] at hz
        rcases hz with rfl | rfl
        · exact Or.inr ⟨by decide, "java/lang/IndexOutOfBoundsException", hts _ (List.mem_cons_of_mem _ wl_L_25), hG.2.2.2.2.1 ("java/lang/IllegalArgumentException", "java/lang/IndexOutOfBoundsException") (by decide +kernel)⟩
        · exact Or.inr ⟨by decide, "java/lang/IllegalStateException", hts _ (List.mem_cons_of_mem _ wl_L_31), hG.2.2.2.2.1 ("java/lang/IllegalArgumentException", "java/lang/IllegalStateException") (by decide +kernel)⟩) (by decide) (by decide) (hts _ (List.mem_cons_of_mem _ wl_L_13)) (va_Nw.use rfl (hG.2.2.2.1 ("java/lang/IllegalArgumentException", "java/lang/IllegalArgumentException") (by decide +kernel))) hce hcv hcl ?_
      refine W.eq (g2 := F0 m 21 ls [.ref q9]) rfl ?_
      refine lv_astore (lv' := [(4, .ref q9), (0, .ref x), (1, .int p1), (2, .int p2), (3, .ref o)]) hx hb dL_convert_21 hl (by decide) rfl (fun ls hl => ?_)
      refine lv_iconst (v := 3) hx hb dL_convert_23 (by decide) ?_
      exact W.iret (v := 3) hx hb hr (fun t ht hW => ⟨⟨3, 0, rfl, ⟨hk.symm, fun q => absurd (hk.symm.trans q) (by decide)⟩, Or.inr ⟨fun q => absurd (hk.symm.trans q) (by decide), ⟨by rw [ht]; exact hP, va_K.moved hW.alike hK, hD⟩⟩⟩, hS.F ht⟩) hS.2.2 dL_convert_24
    · -- UnsupportedOperationException
      refine vx_catch (own := RL) (name := "java/lang/UnsupportedOperationException") (E := "java/lang/UnsupportedOperationException") hown [⟨0, 10, 13, 25⟩, ⟨0, 10, 17, 31⟩, ⟨0, 10, 21, 13⟩] ⟨0, 10, 25, 15⟩ [] (by rw [hTab]; rfl) (fun z hz => by
        simp only [List.mem_cons, List.not_mem_nil, or_false] at hz
        rcases hz with rfl | rfl | rfl
        · exact Or.inr ⟨by decide, "java/lang/IndexOutOfBoundsException", hts _ (List.mem_cons_of_mem _ wl_L_25), hG.2.2.2.2.1 ("java/lang/UnsupportedOperationException", "java/lang/IndexOutOfBoundsException") (by decide +kernel)⟩
        · exact Or.inr ⟨by decide, "java/lang/IllegalStateException", hts _ (List.mem_cons_of_mem _ wl_L_31), hG.2.2.2.2.1 ("java/lang/UnsupportedOperationException", "java/lang/IllegalStateException") (by decide +kernel)⟩
        · exact Or.inr ⟨by decide, "java/lang/IllegalArgumentException", hts _ (List.mem_cons_of_mem _ wl_L_13), hG.2.2.2.2.1 ("java/lang/UnsupportedOperationException", "java/lang/IllegalArgumentException") (by decide +kernel)⟩) (by decide) (by decide) (hts _ (List.mem_cons_of_mem _ wl_L_15)) (va_Nw.use rfl (hG.2.2.2.1 ("java/lang/UnsupportedOperationException", "java/lang/UnsupportedOperationException") (by decide +kernel))) hce hcv hcl ?_
      refine W.eq (g2 := F0 m 25 ls [.ref q9]) rfl ?_
      refine lv_astore (lv' := [(4, .ref q9), (0, .ref x), (1, .int p1), (2, .int p2), (3, .ref o)]) hx hb dL_convert_25 hl (by decide) rfl (fun ls hl => ?_)
      refine lv_iconst (v := 4) hx hb dL_convert_27 (by decide) ?_
      exact W.iret (v := 4) hx hb hr (fun t ht hW => ⟨⟨4, 0, rfl, ⟨hk.symm, fun q => absurd (hk.symm.trans q) (by decide)⟩, Or.inr ⟨fun q => absurd (hk.symm.trans q) (by decide), ⟨by rw [ht]; exact hP, va_K.moved hW.alike hK, hD⟩⟩⟩, hS.F ht⟩) hS.2.2 dL_convert_28
  obtain ⟨hP1, hK1, hD1⟩ := hB
  rw [ht] at hP1
  obtain ⟨hP, hD⟩ := va_join (wr := [(o, .inl (cJ, (1, .inr (.inl O))))]) (w1 := (wX x a1 a2 a3 a4 cI S F X Y n ar sl mu ml ck ic ds js ps ss tc)) hP hD [0, 1, 2, 3, 4] [5] rfl rfl (by decide) (by decide) hk1 hFc hP1 hD1
  have hP : va_P (dC, dI) vwCl (wXO x a1 a2 a3 a4 cI S F X Y n ar sl mu ml ck ic ds js ps ss tc o cJ O) H1 := hP.sub [1, 2, 3, 4, 5, 0] rfl
  have hD : va_D A (wXO x a1 a2 a3 a4 cI S F X Y n ar sl mu ml ck ic ds js ps ss tc o cJ O) := hD.sub [1, 2, 3, 4, 5, 0] (by decide) rfl
  generalize H1 = H at hP hS ⊢
  refine lv_i2l hx hb dL_convert_8 rfl ?_
  refine va_last (D := (dC, dI)) hx hb hK hP hD hS 5 1 rfl rfl (vp_in_nI (show 0 < 1 by omega) (by decide)) dL_convert_9 (fun H locs hP hD hS => ?_)
  rw [show (0 : Int32).toNatClampNeg = 0 from nI_clamp (show 0 < 2 ^ 31 by omega)] at hP hD
  have hP : va_P (dC, dI) vwCl (wXO x a1 a2 a3 a4 cI S F X Y n ar sl mu ml ck ic ds js ps ss tc o cJ (vp_updL O 0 r5.toInt64)) H := hP
  have hD : va_D A (wXO x a1 a2 a3 a4 cI S F X Y n ar sl mu ml ck ic ds js ps ss tc o cJ (vp_updL O 0 r5.toInt64)) := hD
  refine lv_goto (tgt := 29) hx hb dL_convert_10 (by decide) ?_
  refine lv_iconst (v := 0) hx hb dL_convert_29 (by decide) ?_
  exact W.iret (v := 0) hx hb hr (fun t ht hW => ⟨⟨0, r5.toInt64, rfl, ⟨h5.1.symm, fun _ => ⟨r5, rfl, h5.2⟩⟩, Or.inl ⟨h5.1, ⟨by rw [ht]; exact hP, va_K.moved hW.alike hK, hD⟩⟩⟩, hS.F ht⟩) hS.2.2 dL_convert_30
set_option maxHeartbeats 4000000 in
set_option maxRecDepth 100000 in
theorem c_L_round (l : Launch) (hL : l.stackTraces = false) (dC : Nat → ClassId) (dI : Nat → Nat → Nat) (z0 : Nat) (sa : Nat → Nat) (sz : Nat) (hz : z0 ≤ sz) (x a1 a2 a3 a4 : Nat) (cI : ClassId) (S F X Y : Nat → Int32) (n : Nat) (ar sl : Int32) (mu ml : Int64) (ck : Int32) (ic : Nat) (ds js ps ss : Int64) (tc : Nat) (o : Nat) (cJ : ClassId) (O : Nat → Int64) (y1 : Int64) (y2 : Int64) (p5 : Int32)  : Met l yL_round wsL_round ({ frames := 8, cells := 2, slots := 12, locals := 136 }) (va_Pc [.ref x, .long y1, .long y2, .int p5, .ref o] (fun U => U.heap.size = sz ∧ va_P (dC, dI) vwCl (wXO x a1 a2 a3 a4 cI S F X Y n ar sl mu ml ck ic ds js ps ss tc o cJ O) U.heap ∧ va_K (dC, dI) vwCl [(cI, .int), (cJ, .long)] U ∧ va_D (fun q => z0 ≤ q) (wXO x a1 a2 a3 a4 cI S F X Y n ar sl mu ml ck ic ds js ps ss tc o cJ O) ∧ gl_ok z0 sa U)) (va_Qi (fun k (u : Int64) => k = kd4 (0 ≤ p5.toInt ∧ p5.toInt ≤ 2) (ok_rd y1 y2) True True ∧ (kd4 (0 ≤ p5.toInt ∧ p5.toInt ≤ 2) (ok_rd y1 y2) True True = 0 → u.toInt = rnd y1.toInt y2.toInt p5.toInt)) (fun (u : Int64) t => (kd4 (0 ≤ p5.toInt ∧ p5.toInt ≤ 2) (ok_rd y1 y2) True True = 0 ∧ at_2 dC dI cI cJ (va_A (wXO x a1 a2 a3 a4 cI S F X Y n ar sl mu ml ck ic ds js ps ss tc o cJ O) sz) (wXO x a1 a2 a3 a4 cI S F X Y n ar sl mu ml ck ic ds js ps ss tc o cJ (vp_updL O 0 u)) t) ∨ (¬ kd4 (0 ≤ p5.toInt ∧ p5.toInt ≤ 2) (ok_rd y1 y2) True True = 0 ∧ at_2 dC dI cI cJ (va_A (wXO x a1 a2 a3 a4 cI S F X Y n ar sl mu ml ck ic ds js ps ss tc o cJ O) sz) (wXO x a1 a2 a3 a4 cI S F X Y n ar sl mu ml ck ic ds js ps ss tc o cJ O) t)) (va_A (wXO x a1 a2 a3 a4 cI S F X Y n ar sl mu ml ck ic ds js ps ss tc o cJ O) sz)) 2 12 (va_A (wXO x a1 a2 a3 a4 cI S F X Y n ar sl mu ml ck ic ds js ps ss tc o cJ O) sz) := by
  refine va_MetW (cc := cL_round) (maxL := 8) (ret := (some .int)) (hh := [(0, 12, 15, 25), (0, 12, 19, 13)]) (by decide) rfl ?_
  intro p e s m args below meth c s₁ B hml hv
  obtain ⟨rfl, hsz, hP, hK, hD0, hG⟩ := hv
  have hx := B.exec
  have hb := B.bytes
  have hr := B.returns
  have hts := atoms_spec (ws := wsL_round) B.pre
  have hown : s.vm.findClass RL = some m.cls := findClass_of_methodNamed B.named
  have hlocks := B.notSynchronized
  have hTab : c.exceptionTable.toList = tableOf [(0, 12, 15, 25), (0, 12, 19, 13)] := vx_table (x := yL_round) B (hts (.codeWith yL_round cL_round 8 (some .int) [(0, 12, 15, 25), (0, 12, 19, 13)]) List.mem_cons_self)
  subst hsz
  have hD := hD0.self (sz := s.heap.size)
  have hAz := az_of hD0 hz
  generalize hAe : va_A (wXO x a1 a2 a3 a4 cI S F X Y n ar sl mu ml ck ic ds js ps ss tc o cJ O) s.heap.size = A at hD hAz ⊢
  have hA : ∀ q : Nat, s.heap.size ≤ q → A q := fun q h => by rw [← hAe]; exact Or.inr h
  have hS : va_S A s.heap s.heap [] := va_S.rf
  have hl := lv_entry ([.ref x, .long y1, .long y2, .int p5, .ref o]) (n := 8) (Nat.le_of_ble_eq_true rfl)
  rw [lg_entry_eq]
  generalize (lg_sl ([.ref x, .long y1, .long y2, .int p5, .ref o]) ++ List.replicate (8 - (lg_sl ([.ref x, .long y1, .long y2, .int p5, .ref o])).length) Slot.unset).toArray = ls at hl ⊢
  have hl : lv_has ls 8 [(0, .ref x), (1, .long y1), (3, .long y2), (5, .int p5), (6, .ref o)] := hl
  refine lv_aload hx hb dL_round_0 (lv_at hl 4 rfl) ?_
  refine lv_iconst (v := 0) hx hb dL_round_2 (by decide) ?_
  refine lv_aload_n hx hb dL_round_3 rfl (lv_at hl 0 rfl) ?_
  refine lv_lload_n hx hb dL_round_4 rfl (lv_at hl 1 rfl) ?_
  refine lv_lload_n hx hb dL_round_5 rfl (lv_at hl 2 rfl) ?_
  refine lv_iload hx hb dL_round_6 (lv_at hl 3 rfl) ?_
  have hPc := hP.sub (ws' := (wX x a1 a2 a3 a4 cI S F X Y n ar sl mu ml ck ic ds js ps ss tc)) [0, 1, 2, 3, 4] rfl
  have hDc := hD.sub (ws' := (wX x a1 a2 a3 a4 cI S F X Y n ar sl mu ml ck ic ds js ps ss tc)) [0, 1, 2, 3, 4] (by decide) rfl
  have hKc := hK.sub (tys' := [(cI, .int)]) [0] rfl
  have hFc := va_free (wc := (wX x a1 a2 a3 a4 cI S F X Y n ar sl mu ml ck ic ds js ps ss tc)) hD hS hA [0, 1, 2, 3, 4] rfl
  refine vx_calll (vx_runV (As := [.long y1, .long y2, .int p5]) (rest := [.int 0, .ref o]) ⟨hx, hb, hml, hown, hts⟩ (c_X0_round l hL dC dI z0 sa s.heap.size (Nat.le_trans hz hS.1) x a1 a2 a3 a4 cI S F X Y n ar sl mu ml ck ic ds js ps ss tc y1 y2 p5 ) (cwV 3 hts (gV wl_L_52 wi_X0_round wv_X0_round wi_X0 wc_X0_round) rfl rfl rfl (by decide +kernel) ⟨Nat.le_of_ble_eq_true rfl, Nat.le_of_ble_eq_true rfl⟩) ⟨fun a U g mk q => ⟨q.1, q.2.1, q.2.2.1, va_K.moved (u := U) (U := U.calling g mk a) (Vm.Alike.refl U.vm) q.2.2.2.1, q.2.2.2.2.1, gl_blind q.2.2.2.2.2⟩, va_recv hKc hPc (ci := 0) (q0 := 0) rfl rfl, fun U hU hW => ⟨rfl, by rw [hU], by rw [hU]; exact hPc, va_K.moved hW.alike hKc, hDc.weaken (fun _ _ _ h => hAz _ h), gl_moved hG hS hAz hU hW⟩⟩ rfl rfl hl.1 rfl (lv_room (Nat.le_of_ble_eq_true rfl)) dL_round_8 ⟨Nat.le_of_ble_eq_true rfl, Nat.le_of_ble_eq_true rfl⟩) hS (fun q _ h => hFc q h) hFc (fun q _ h => hFc q h) (fun E ce q9 u t H1 locs ht hvm hpx hB hz1 hk1 hS hce hcv hcl => ?_) (fun r8 u8 t H1 locs ht hvm h8 hB hz1 hk1 hS => ?_)
  · -- thrown
    obtain ⟨hE, hP1, hK1, hD1⟩ := hB
    rw [ht] at hP1
    obtain ⟨hP, hD⟩ := va_join (wr := [(o, .inl (cJ, (1, .inr (.inl O))))]) (w1 := (wX x a1 a2 a3 a4 cI S F X Y n ar sl mu ml ck ic ds js ps ss tc)) hP hD [0, 1, 2, 3, 4] [5] rfl rfl (by decide) (by decide) hk1 hFc hP1 hD1
    have hP : va_P (dC, dI) vwCl (wXO x a1 a2 a3 a4 cI S F X Y n ar sl mu ml ck ic ds js ps ss tc o cJ O) H1 := hP.sub [1, 2, 3, 4, 5, 0] rfl
    have hD : va_D A (wXO x a1 a2 a3 a4 cI S F X Y n ar sl mu ml ck ic ds js ps ss tc o cJ O) := hD.sub [1, 2, 3, 4, 5, 0] (by decide) rfl
    generalize H1 = H at hP hS hce ⊢
    rcases hE with ⟨rfl, hk⟩ | ⟨rfl, hk⟩
    · -- IndexOutOfBoundsException
      refine vx_catch (own := RL) (name := "java/lang/IndexOutOfBoundsException") (E := "java/lang/IndexOutOfBoundsException") hown [] ⟨0, 12, 15, 25⟩ [⟨0, 12, 19, 13⟩] (by rw [hTab]; rfl) (fun z hz => nomatch hz) (by decide) (by decide) (hts _ (List.mem_cons_of_mem _ wl_L_25)) (va_Nw.use rfl (hG.2.2.2.1 ("java/lang/IndexOutOfBoundsException", "java/lang/IndexOutOfBoundsException") (by decide +kernel))) hce hcv hcl ?_
      refine W.eq (g2 := F0 m 15 ls [.ref q9]) rfl ?_
      refine lv_astore (lv' := [(7, .ref q9), (0, .ref x), (1, .long y1), (3, .long y2), (5, .int p5), (6, .ref o)]) hx hb dL_round_15 hl (by decide) rfl (fun ls hl => ?_)
      refine lv_iconst (v := 1) hx hb dL_round_17 (by decide) ?_
      exact W.iret (v := 1) hx hb hr (fun t ht hW => ⟨⟨1, 0, rfl, ⟨hk.symm, fun q => absurd (hk.symm.trans q) (by decide)⟩, Or.inr ⟨fun q => absurd (hk.symm.trans q) (by decide), ⟨by rw [ht]; exact hP, va_K.moved hW.alike hK, hD⟩⟩⟩, hS.F ht⟩) hS.2.2 dL_round_18
    · -- IllegalArgumentException
      refine vx_catch (own := RL) (name := "java/lang/IllegalArgumentException") (E := "java/lang/IllegalArgumentException") hown [⟨0, 12, 15, 25⟩] ⟨0, 12, 19, 13⟩ [] (by rw [hTab]; rfl) (fun z hz => by
        simp only [List.mem_cons, List.not_mem_nil, or_false] at hz
        rcases hz with rfl
        · exact Or.inr ⟨by decide, "java/lang/IndexOutOfBoundsException", hts _ (List.mem_cons_of_mem _ wl_L_25), hG.2.2.2.2.1 ("java/lang/IllegalArgumentException", "java/lang/IndexOutOfBoundsException") (by decide +kernel)⟩) (by decide) (by decide) (hts _ (List.mem_cons_of_mem _ wl_L_13)) (va_Nw.use rfl (hG.2.2.2.1 ("java/lang/IllegalArgumentException", "java/lang/IllegalArgumentException") (by decide +kernel))) hce hcv hcl ?_
      refine W.eq (g2 := F0 m 19 ls [.ref q9]) rfl ?_
      refine lv_astore (lv' := [(7, .ref q9), (0, .ref x), (1, .long y1), (3, .long y2), (5, .int p5), (6, .ref o)]) hx hb dL_round_19 hl (by decide) rfl (fun ls hl => ?_)
      refine lv_iconst (v := 2) hx hb dL_round_21 (by decide) ?_
      exact W.iret (v := 2) hx hb hr (fun t ht hW => ⟨⟨2, 0, rfl, ⟨hk.symm, fun q => absurd (hk.symm.trans q) (by decide)⟩, Or.inr ⟨fun q => absurd (hk.symm.trans q) (by decide), ⟨by rw [ht]; exact hP, va_K.moved hW.alike hK, hD⟩⟩⟩, hS.F ht⟩) hS.2.2 dL_round_22
  obtain ⟨hP1, hK1, hD1⟩ := hB
  rw [ht] at hP1
  obtain ⟨hP, hD⟩ := va_join (wr := [(o, .inl (cJ, (1, .inr (.inl O))))]) (w1 := (wX x a1 a2 a3 a4 cI S F X Y n ar sl mu ml ck ic ds js ps ss tc)) hP hD [0, 1, 2, 3, 4] [5] rfl rfl (by decide) (by decide) hk1 hFc hP1 hD1
  have hP : va_P (dC, dI) vwCl (wXO x a1 a2 a3 a4 cI S F X Y n ar sl mu ml ck ic ds js ps ss tc o cJ O) H1 := hP.sub [1, 2, 3, 4, 5, 0] rfl
  have hD : va_D A (wXO x a1 a2 a3 a4 cI S F X Y n ar sl mu ml ck ic ds js ps ss tc o cJ O) := hD.sub [1, 2, 3, 4, 5, 0] (by decide) rfl
  generalize H1 = H at hP hS ⊢
  refine va_last (D := (dC, dI)) hx hb hK hP hD hS 5 1 rfl rfl (vp_in_nI (show 0 < 1 by omega) (by decide)) dL_round_11 (fun H locs hP hD hS => ?_)
  rw [show (0 : Int32).toNatClampNeg = 0 from nI_clamp (show 0 < 2 ^ 31 by omega)] at hP hD
  have hP : va_P (dC, dI) vwCl (wXO x a1 a2 a3 a4 cI S F X Y n ar sl mu ml ck ic ds js ps ss tc o cJ (vp_updL O 0 r8)) H := hP
  have hD : va_D A (wXO x a1 a2 a3 a4 cI S F X Y n ar sl mu ml ck ic ds js ps ss tc o cJ (vp_updL O 0 r8)) := hD
  refine lv_goto (tgt := 23) hx hb dL_round_12 (by decide) ?_
  refine lv_iconst (v := 0) hx hb dL_round_23 (by decide) ?_
  exact W.iret (v := 0) hx hb hr (fun t ht hW => ⟨⟨0, r8, rfl, ⟨h8.1.symm, fun _ => h8.2⟩, Or.inl ⟨h8.1, ⟨by rw [ht]; exact hP, va_K.moved hW.alike hK, hD⟩⟩⟩, hS.F ht⟩) hS.2.2 dL_round_24
set_option maxHeartbeats 4000000 in
set_option maxRecDepth 100000 in
theorem c_L_machine (l : Launch) (hL : l.stackTraces = false) (dC : Nat → ClassId) (dI : Nat → Nat → Nat) (z0 : Nat) (sa : Nat → Nat) (sz : Nat) (hz : z0 ≤ sz) (x a1 a2 a3 a4 : Nat) (cI : ClassId) (S F X Y : Nat → Int32) (n : Nat) (ar sl : Int32) (mu ml : Int64) (ck : Int32) (ic : Nat) (ds js ps ss : Int64) (tc : Nat) (o : Nat) (cJ : ClassId) (O : Nat → Int64) (p1 : Int32) (p2 : Int32)  : Met l yL_machine wsL_machine ({ frames := 7, cells := 1, slots := 6, locals := 113 }) (va_Pc [.ref x, .int p1, .int p2, .ref o] (fun U => U.heap.size = sz ∧ va_P (dC, dI) vwCl (wXO x a1 a2 a3 a4 cI S F X Y n ar sl mu ml ck ic ds js ps ss tc o cJ O) U.heap ∧ va_K (dC, dI) vwCl [(cI, .int), (cJ, .long)] U ∧ va_D (fun q => z0 ≤ q) (wXO x a1 a2 a3 a4 cI S F X Y n ar sl mu ml ck ic ds js ps ss tc o cJ O) ∧ gl_ok z0 sa U)) (va_Qi (fun k (u : Int64) => k = kd4 (ok_mac p1 p2) True True True ∧ (kd4 (ok_mac p1 p2) True True True = 0 → u = if mfail p1 p2 then 1 else 0)) (fun (u : Int64) t => (kd4 (ok_mac p1 p2) True True True = 0 ∧ at_2 dC dI cI cJ (va_A (wXO x a1 a2 a3 a4 cI S F X Y n ar sl mu ml ck ic ds js ps ss tc o cJ O) sz) (wXO x a1 a2 a3 a4 cI S F X Y n ar sl mu ml (bI (mfail p1 p2)) ic ds js ps ss tc o cJ (vp_updL O 0 u)) t) ∨ (¬ kd4 (ok_mac p1 p2) True True True = 0 ∧ at_2 dC dI cI cJ (va_A (wXO x a1 a2 a3 a4 cI S F X Y n ar sl mu ml ck ic ds js ps ss tc o cJ O) sz) (wXO x a1 a2 a3 a4 cI S F X Y n ar sl mu ml ck ic ds js ps ss tc o cJ O) t)) (va_A (wXO x a1 a2 a3 a4 cI S F X Y n ar sl mu ml ck ic ds js ps ss tc o cJ O) sz)) 1 6 (va_A (wXO x a1 a2 a3 a4 cI S F X Y n ar sl mu ml ck ic ds js ps ss tc o cJ O) sz) := by
  refine va_MetW (cc := cL_machine) (maxL := 5) (ret := (some .int)) (hh := [(0, 17, 20, 13)]) (by decide) rfl ?_
  intro p e s m args below meth c s₁ B hml hv
  obtain ⟨rfl, hsz, hP, hK, hD0, hG⟩ := hv
  have hx := B.exec
  have hb := B.bytes
  have hr := B.returns
  have hts := atoms_spec (ws := wsL_machine) B.pre
  have hown : s.vm.findClass RL = some m.cls := findClass_of_methodNamed B.named
  have hlocks := B.notSynchronized
  have hTab : c.exceptionTable.toList = tableOf [(0, 17, 20, 13)] := vx_table (x := yL_machine) B (hts (.codeWith yL_machine cL_machine 5 (some .int) [(0, 17, 20, 13)]) List.mem_cons_self)
  subst hsz
  have hD := hD0.self (sz := s.heap.size)
  have hAz := az_of hD0 hz
  generalize hAe : va_A (wXO x a1 a2 a3 a4 cI S F X Y n ar sl mu ml ck ic ds js ps ss tc o cJ O) s.heap.size = A at hD hAz ⊢
  have hA : ∀ q : Nat, s.heap.size ≤ q → A q := fun q h => by rw [← hAe]; exact Or.inr h
  have hS : va_S A s.heap s.heap [] := va_S.rf
  have hl := lv_entry ([.ref x, .int p1, .int p2, .ref o]) (n := 5) (Nat.le_of_ble_eq_true rfl)
  rw [lg_entry_eq]
  generalize (lg_sl ([.ref x, .int p1, .int p2, .ref o]) ++ List.replicate (5 - (lg_sl ([.ref x, .int p1, .int p2, .ref o])).length) Slot.unset).toArray = ls at hl ⊢
  have hl : lv_has ls 5 [(0, .ref x), (1, .int p1), (2, .int p2), (3, .ref o)] := hl
  refine lv_aload_n hx hb dL_machine_0 rfl (lv_at hl 3 rfl) ?_
  refine lv_iconst (v := 0) hx hb dL_machine_1 (by decide) ?_
  refine lv_aload_n hx hb dL_machine_2 rfl (lv_at hl 0 rfl) ?_
  refine lv_iload_n hx hb dL_machine_3 rfl (lv_at hl 1 rfl) ?_
  refine lv_iload_n hx hb dL_machine_4 rfl (lv_at hl 2 rfl) ?_
  have hPc := hP.sub (ws' := (wX x a1 a2 a3 a4 cI S F X Y n ar sl mu ml ck ic ds js ps ss tc)) [0, 1, 2, 3, 4] rfl
  have hDc := hD.sub (ws' := (wX x a1 a2 a3 a4 cI S F X Y n ar sl mu ml ck ic ds js ps ss tc)) [0, 1, 2, 3, 4] (by decide) rfl
  have hKc := hK.sub (tys' := [(cI, .int)]) [0] rfl
  have hFc := va_free (wc := (wX x a1 a2 a3 a4 cI S F X Y n ar sl mu ml ck ic ds js ps ss tc)) hD hS hA [0, 1, 2, 3, 4] rfl
  refine vx_calli (vx_runV (As := [.int p1, .int p2]) (rest := [.int 0, .ref o]) ⟨hx, hb, hml, hown, hts⟩ (c_X0_machine l hL dC dI z0 sa s.heap.size (Nat.le_trans hz hS.1) x a1 a2 a3 a4 cI S F X Y n ar sl mu ml ck ic ds js ps ss tc p1 p2 ) (cwV 2 hts (gV wl_L_56 wi_X0_machine wv_X0_machine wi_X0 wc_X0_machine) rfl rfl rfl (by decide +kernel) ⟨Nat.le_of_ble_eq_true rfl, Nat.le_of_ble_eq_true rfl⟩) ⟨fun a U g mk q => ⟨q.1, q.2.1, q.2.2.1, va_K.moved (u := U) (U := U.calling g mk a) (Vm.Alike.refl U.vm) q.2.2.2.1, q.2.2.2.2.1, gl_blind q.2.2.2.2.2⟩, va_recv hKc hPc (ci := 0) (q0 := 0) rfl rfl, fun U hU hW => ⟨rfl, by rw [hU], by rw [hU]; exact hPc, va_K.moved hW.alike hKc, hDc.weaken (fun _ _ _ h => hAz _ h), gl_moved hG hS hAz hU hW⟩⟩ rfl rfl hl.1 rfl (lv_room (Nat.le_of_ble_eq_true rfl)) dL_machine_5 ⟨Nat.le_of_ble_eq_true rfl, Nat.le_of_ble_eq_true rfl⟩) hS (fun q _ h => hFc q h) hFc (fun q _ h => hFc q h) (fun E ce q9 u t H1 locs ht hvm hpx hB hz1 hk1 hS hce hcv hcl => ?_) (fun r5 u5 t H1 locs ht hvm h5 hB hz1 hk1 hS => ?_)
  · -- thrown
    obtain ⟨hE, hP1, hK1, hD1⟩ := hB
    rw [ht] at hP1
    obtain ⟨hP, hD⟩ := va_join (wr := [(o, .inl (cJ, (1, .inr (.inl O))))]) (w1 := (wX x a1 a2 a3 a4 cI S F X Y n ar sl mu ml ck ic ds js ps ss tc)) hP hD [0, 1, 2, 3, 4] [5] rfl rfl (by decide) (by decide) hk1 hFc hP1 hD1
    have hP : va_P (dC, dI) vwCl (wXO x a1 a2 a3 a4 cI S F X Y n ar sl mu ml ck ic ds js ps ss tc o cJ O) H1 := hP.sub [1, 2, 3, 4, 5, 0] rfl
    have hD : va_D A (wXO x a1 a2 a3 a4 cI S F X Y n ar sl mu ml ck ic ds js ps ss tc o cJ O) := hD.sub [1, 2, 3, 4, 5, 0] (by decide) rfl
    generalize H1 = H at hP hS hce ⊢
    obtain ⟨rfl, hk⟩ := hE
    · -- IllegalArgumentException
      refine vx_catch (own := RL) (name := "java/lang/IllegalArgumentException") (E := "java/lang/IllegalArgumentException") hown [] ⟨0, 17, 20, 13⟩ [] (by rw [hTab]; rfl) (fun z hz => nomatch hz) (by decide) (by decide) (hts _ (List.mem_cons_of_mem _ wl_L_13)) (va_Nw.use rfl (hG.2.2.2.1 ("java/lang/IllegalArgumentException", "java/lang/IllegalArgumentException") (by decide +kernel))) hce hcv hcl ?_
      refine W.eq (g2 := F0 m 20 ls [.ref q9]) rfl ?_
      refine lv_astore (lv' := [(4, .ref q9), (0, .ref x), (1, .int p1), (2, .int p2), (3, .ref o)]) hx hb dL_machine_20 hl (by decide) rfl (fun ls hl => ?_)
      refine lv_iconst (v := 1) hx hb dL_machine_22 (by decide) ?_
      exact W.iret (v := 1) hx hb hr (fun t ht hW => ⟨⟨1, 0, rfl, ⟨hk.symm, fun q => absurd (hk.symm.trans q) (by decide)⟩, Or.inr ⟨fun q => absurd (hk.symm.trans q) (by decide), ⟨by rw [ht]; exact hP, va_K.moved hW.alike hK, hD⟩⟩⟩, hS.F ht⟩) hS.2.2 dL_machine_23
  obtain ⟨hP1, hK1, hD1⟩ := hB
  rw [ht] at hP1
  obtain ⟨hP, hD⟩ := va_join (wr := [(o, .inl (cJ, (1, .inr (.inl O))))]) (w1 := (wX x a1 a2 a3 a4 cI S F X Y n ar sl mu ml (bI (mfail p1 p2)) ic ds js ps ss tc)) hP hD [0, 1, 2, 3, 4] [5] rfl rfl (by decide) (by decide) hk1 hFc hP1 hD1
  have hP : va_P (dC, dI) vwCl (wXO x a1 a2 a3 a4 cI S F X Y n ar sl mu ml (bI (mfail p1 p2)) ic ds js ps ss tc o cJ O) H1 := hP.sub [1, 2, 3, 4, 5, 0] rfl
  have hD : va_D A (wXO x a1 a2 a3 a4 cI S F X Y n ar sl mu ml (bI (mfail p1 p2)) ic ds js ps ss tc o cJ O) := hD.sub [1, 2, 3, 4, 5, 0] (by decide) rfl
  generalize H1 = H at hP hS ⊢
  have h9b := h5.2
  subst h9b
  refine lv_if_eq (tgt := 15) hx hb dL_machine_8 (by decide) (fun c8 => ?_) (fun c8 => ?_)
  · -- taken at 8
    have c8 := bI_eq0.mp c8
    refine lv_lconst (v := 0) hx hb dL_machine_15 (by decide) ?_
    refine va_last (D := (dC, dI)) hx hb hK hP hD hS 5 1 rfl rfl (vp_in_nI (show 0 < 1 by omega) (by decide)) dL_machine_16 (fun H locs hP hD hS => ?_)
    rw [show (0 : Int32).toNatClampNeg = 0 from nI_clamp (show 0 < 2 ^ 31 by omega)] at hP hD
    have hP : va_P (dC, dI) vwCl (wXO x a1 a2 a3 a4 cI S F X Y n ar sl mu ml (bI (mfail p1 p2)) ic ds js ps ss tc o cJ (vp_updL O 0 0)) H := hP
    have hD : va_D A (wXO x a1 a2 a3 a4 cI S F X Y n ar sl mu ml (bI (mfail p1 p2)) ic ds js ps ss tc o cJ (vp_updL O 0 0)) := hD
    refine lv_goto (tgt := 24) hx hb dL_machine_17 (by decide) ?_
    refine lv_iconst (v := 0) hx hb dL_machine_24 (by decide) ?_
    exact W.iret (v := 0) hx hb hr (fun t ht hW => ⟨⟨0, 0, rfl, ⟨h5.1.symm, fun _ => by first | exact (if_pos c8).symm | exact (if_neg c8).symm⟩, Or.inl ⟨h5.1, ⟨by rw [ht]; exact hP, va_K.moved hW.alike hK, hD⟩⟩⟩, hS.F ht⟩) hS.2.2 dL_machine_25
  · -- not taken at 8
    have c8 := bI_ne0.mp c8
    refine lv_lconst (v := 1) hx hb dL_machine_11 (by decide) ?_
    refine lv_goto (tgt := 16) hx hb dL_machine_12 (by decide) ?_
    refine va_last (D := (dC, dI)) hx hb hK hP hD hS 5 1 rfl rfl (vp_in_nI (show 0 < 1 by omega) (by decide)) dL_machine_16 (fun H locs hP hD hS => ?_)
    rw [show (0 : Int32).toNatClampNeg = 0 from nI_clamp (show 0 < 2 ^ 31 by omega)] at hP hD
    have hP : va_P (dC, dI) vwCl (wXO x a1 a2 a3 a4 cI S F X Y n ar sl mu ml (bI (mfail p1 p2)) ic ds js ps ss tc o cJ (vp_updL O 0 1)) H := hP
    have hD : va_D A (wXO x a1 a2 a3 a4 cI S F X Y n ar sl mu ml (bI (mfail p1 p2)) ic ds js ps ss tc o cJ (vp_updL O 0 1)) := hD
    refine lv_goto (tgt := 24) hx hb dL_machine_17 (by decide) ?_
    refine lv_iconst (v := 0) hx hb dL_machine_24 (by decide) ?_
    exact W.iret (v := 0) hx hb hr (fun t ht hW => ⟨⟨0, 1, rfl, ⟨h5.1.symm, fun _ => by first | exact (if_pos c8).symm | exact (if_neg c8).symm⟩, Or.inl ⟨h5.1, ⟨by rw [ht]; exact hP, va_K.moved hW.alike hK, hD⟩⟩⟩, hS.F ht⟩) hS.2.2 dL_machine_25
