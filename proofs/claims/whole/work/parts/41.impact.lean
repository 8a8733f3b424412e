set_option maxHeartbeats 8000000 in
set_option maxRecDepth 100000 in
theorem law_impact {p : Program} {l : Launch} {e : Env} {s : State} {m : MethodId} {below : List Frame} {meth : Method} {c : Code} {dC : Nat → ClassId} {dI : Nat → Nat → Nat} {b L : Nat} {xs : Nat → Int32} {sa : Nat → Nat} {x a1 a2 a3 a4 o m9 b1 b2 b3 b4 b5 b6 : Nat} {cI cJ : ClassId} (hst : l.stackTraces = false) (hL : L ≤ 3072) (C0 : lw_At p s m meth c b L xs) (hG : gl_ok s.heap.size sa s) (hK : va_K (dC, dI) vwCl [(cI, .int), (cJ, .long)] s) (j : Nat) (h6 : 6 * j + 6 ≤ L) (hN : LN p l e s m below meth c dC dI b x a1 a2 a3 a4 o m9 b1 b2 b3 b4 b5 b6 cI cJ j) (S F X Y D J : Nat → Int32) (n im tc : Nat) (ar sl ck : Int32) (mu ml ds js ps ss : Int64) (O : Nat → Int64) (th hd : Int32) (hu hw up dn : Int64) (H : Heap) (locs : List Loc) (ls : Array Slot) (hli : li S F D J X Y n im tc ar sl ck mu ml ds js ps ss hd hu hw) (hP : va_P (dC, dI) vwCl ((wXO x a1 a2 a3 a4 cI S F X Y n ar sl mu ml ck im ds js ps ss tc o cJ O) ++ (wM m9 b1 b2 b3 b4 b5 b6 cI S F D J X Y th n ar sl hd hu hw im tc ck up dn)) H) (hD : va_D (fun q : Nat => s.heap.size ≤ q) ((wXO x a1 a2 a3 a4 cI S F X Y n ar sl mu ml ck im ds js ps ss tc o cJ O) ++ (wM m9 b1 b2 b3 b4 b5 b6 cI S F D J X Y th n ar sl hd hu hw im tc ck up dn))) (hS : va_S (fun q : Nat => s.heap.size ≤ q) s.heap H locs) (hl : lv_has ls 8 [(0, .ref b), (1, .ref x), (2, .ref m9), (3, .ref o), (4, .int (nI (6 * j)))]) : W p l e room_1 s m #[Value.ref b] below meth c H locs (13 + 2 * j) (243 + 12 * j) (lw_Z below #[Value.ref b] s) (F0 m 509 ls []) := by
  obtain ⟨hx, hb, hr, hml, hown, hts, hX, hbl, hlocks, hgv⟩ := id C0
  have hA : ∀ q : Nat, s.heap.size ≤ q → (fun q : Nat => s.heap.size ≤ q) q := fun _ h => h
  have hbA : ¬ (fun q : Nat => s.heap.size ≤ q) b := Nat.not_le.mpr hbl
  obtain ⟨⟨hn, hrs, hSb, hFb⟩, ⟨har, hsl, hck⟩, hmr, ⟨htc, hrt, hXb, hYb⟩, him, hDb, hJb, hfs⟩ := id hli
  obtain ⟨hhd, hhm, hH, hM⟩ := mr_b hmr
  refine lv_aload_n hx hb dL_law_509 rfl (lv_at hl 1 rfl) ?_
  refine lv_aload_n hx hb dL_law_510 rfl (lv_at hl 0 rfl) ?_
  refine lv_iload hx hb dL_law_511 (lv_at hl 4 rfl) ?_
  refine lv_iconst (v := 1) hx hb dL_law_513 (by decide) ?_
  refine lv_iadd hx hb dL_law_514 ?_
  refine W.eq (congrArg (fun z => F0 m 515 ls (.int z :: [.ref b, .ref x])) (show nI (6 * j) + 1 = nI (6 * j + 1) from nI_add (6 * j) 1)) ?_
  refine va_sld hx hb hX hbl hbA hS (vp_in_nI (show 6 * j + 1 < L by omega) (by omega)) dL_law_515 ?_
  refine W.eq (congrArg (fun z => F0 m 516 ls (.int z :: [.ref x])) (congrArg xs (nI_clamp (show 6 * j + 1 < 2 ^ 31 by omega)))) ?_
  refine lv_aload_n hx hb dL_law_516 rfl (lv_at hl 0 rfl) ?_
  refine lv_iload hx hb dL_law_517 (lv_at hl 4 rfl) ?_
  refine lv_iconst (v := 2) hx hb dL_law_519 (by decide) ?_
  refine lv_iadd hx hb dL_law_520 ?_
  refine W.eq (congrArg (fun z => F0 m 521 ls (.int z :: [.ref b, .int (xs (6 * j + 1)), .ref x])) (show nI (6 * j) + 2 = nI (6 * j + 2) from nI_add (6 * j) 2)) ?_
  refine va_sld hx hb hX hbl hbA hS (vp_in_nI (show 6 * j + 2 < L by omega) (by omega)) dL_law_521 ?_
  refine W.eq (congrArg (fun z => F0 m 522 ls (.int z :: [.int (xs (6 * j + 1)), .ref x])) (congrArg xs (nI_clamp (show 6 * j + 2 < 2 ^ 31 by omega)))) ?_
  refine lv_aload_n hx hb dL_law_522 rfl (lv_at hl 3 rfl) ?_
  have hPc := hP.sub (ws' := (wXO x a1 a2 a3 a4 cI S F X Y n ar sl mu ml ck im ds js ps ss tc o cJ O)) [0, 1, 2, 3, 4, 5] rfl
  have hDc := hD.sub (ws' := (wXO x a1 a2 a3 a4 cI S F X Y n ar sl mu ml ck im ds js ps ss tc o cJ O)) [0, 1, 2, 3, 4, 5] (by decide) rfl
  have hFc := va_free (wc := (wXO x a1 a2 a3 a4 cI S F X Y n ar sl mu ml ck im ds js ps ss tc o cJ O)) hD hS hA [0, 1, 2, 3, 4, 5] rfl
  refine va_calli (vx_runSW (As := [.ref x, .int (xs (6 * j + 1)), .int (xs (6 * j + 2)), .ref o]) (rest := []) ⟨hx, hb, hml, hown, hts⟩ (c_L_impact l hst dC dI s.heap.size sa H.size hS.1 x a1 a2 a3 a4 cI S F X Y n ar sl mu ml ck im ds js ps ss tc o cJ O (xs (6 * j + 1)) (xs (6 * j + 2)) him) (vx_cwSW 4 hts (gS0 wl_L_92 ws_L_impact wi_L wc_L_impact) rfl rfl rfl (by decide +kernel) ⟨Nat.le_of_ble_eq_true rfl, Nat.le_of_ble_eq_true rfl⟩) ⟨fun a U g mk q => ⟨q.1, q.2.1, q.2.2.1, va_K.moved (u := U) (U := U.calling g mk a) (Vm.Alike.refl U.vm) q.2.2.2.1, q.2.2.2.2.1, gl_blind q.2.2.2.2.2⟩, fun U hU hW => ⟨rfl, by rw [hU], by rw [hU]; exact hPc, va_K.moved hW.alike hK, hDc, gl_moved hG hS (fun _ h => h) hU hW⟩⟩ rfl rfl hl.1 rfl (lv_room (Nat.le_of_ble_eq_true rfl)) dL_law_523 ⟨by show 13 + 2 * j + 1 ≤ 1064; omega, by show 243 + 12 * j + 6 ≤ 8597; omega⟩) hS (fun q _ h => hFc q h) hFc (fun r523 u523 t H1 locs ht hvm h523 hB hz1 hk1 hS => ?_)
  obtain ⟨hkr, ha1⟩ := h523
  subst hkr
  rcases hB with ⟨hk, hP1, hK1, hD1⟩ | ⟨hk, hP1, hK1, hD1⟩
  · -- answered
    rw [ht] at hP1
    obtain ⟨hP, hD⟩ := va_join (wr := (wM m9 b1 b2 b3 b4 b5 b6 cI S F D J X Y th n ar sl hd hu hw im tc ck up dn)) (w1 := (wXO x a1 a2 a3 a4 cI S F X Y n ar sl mu ml ck (im + 1) (ds + (xs (6 * j + 1)).toInt64) (js + (xs (6 * j + 2)).toInt64) (ps + ((xs (6 * j + 1)) * (xs (6 * j + 2))).toInt64) (ss + ((xs (6 * j + 1)) * (xs (6 * j + 1))).toInt64) tc o cJ (vp_updL O 0 u523))) hP hD [0, 1, 2, 3, 4, 5] [6, 7, 8, 9, 10, 11, 12] rfl rfl (by decide) (by decide) hk1 hFc hP1 hD1
    have hP : va_P (dC, dI) vwCl ((wXO x a1 a2 a3 a4 cI S F X Y n ar sl mu ml ck (im + 1) (ds + (xs (6 * j + 1)).toInt64) (js + (xs (6 * j + 2)).toInt64) (ps + ((xs (6 * j + 1)) * (xs (6 * j + 2))).toInt64) (ss + ((xs (6 * j + 1)) * (xs (6 * j + 1))).toInt64) tc o cJ (vp_updL O 0 u523)) ++ (wM m9 b1 b2 b3 b4 b5 b6 cI S F D J X Y th n ar sl hd hu hw im tc ck up dn)) H1 := hP.sub [7, 8, 9, 10, 11, 12, 0, 1, 2, 3, 4, 5, 6] rfl
    have hD : va_D (fun q : Nat => s.heap.size ≤ q) ((wXO x a1 a2 a3 a4 cI S F X Y n ar sl mu ml ck (im + 1) (ds + (xs (6 * j + 1)).toInt64) (js + (xs (6 * j + 2)).toInt64) (ps + ((xs (6 * j + 1)) * (xs (6 * j + 2))).toInt64) (ss + ((xs (6 * j + 1)) * (xs (6 * j + 1))).toInt64) tc o cJ (vp_updL O 0 u523)) ++ (wM m9 b1 b2 b3 b4 b5 b6 cI S F D J X Y th n ar sl hd hu hw im tc ck up dn)) := hD.sub [7, 8, 9, 10, 11, 12, 0, 1, 2, 3, 4, 5, 6] (by decide) rfl
    generalize H1 = H at hP hS ⊢
    refine lv_istore (lv' := [(5, .int (kd4 (ok_imp (xs (6 * j + 1)) (xs (6 * j + 2))) (im < 8) True True)), (0, .ref b), (1, .ref x), (2, .ref m9), (3, .ref o), (4, .int (nI (6 * j)))]) hx hb dL_law_526 hl (by decide) rfl (fun ls hl => ?_)
    refine lv_aload_n hx hb dL_law_528 rfl (lv_at hl 3 rfl) ?_
    refine lv_aload_n hx hb dL_law_529 rfl (lv_at hl 1 rfl) ?_
    refine lv_iload hx hb dL_law_530 (lv_at hl 5 rfl) ?_
    refine lv_iconst (v := 1) hx hb dL_law_532 (by decide) ?_
    refine lv_iadd hx hb dL_law_533 ?_
    refine W.eq (congrArg (fun z => F0 m 534 ls (.int z :: [.ref b, .ref m9])) (show nI (6 * j) + 1 = nI (6 * j + 1) from nI_add (6 * j) 1)) ?_
    refine va_sld hx hb hX hbl hbA hS (vp_in_nI (show 6 * j + 1 < L by omega) (by omega)) dL_law_534 ?_
    refine W.eq (congrArg (fun z => F0 m 535 ls (.int z :: [.ref m9])) (congrArg xs (nI_clamp (show 6 * j + 1 < 2 ^ 31 by omega)))) ?_
    refine lv_aload_n hx hb dL_law_535 rfl (lv_at hl 1 rfl) ?_
    refine lv_iload hx hb dL_law_536 (lv_at hl 5 rfl) ?_
    refine lv_iconst (v := 2) hx hb dL_law_538 (by decide) ?_
    refine lv_iadd hx hb dL_law_539 ?_
    refine W.eq (congrArg (fun z => F0 m 540 ls (.int z :: [.ref b, .int (xs (6 * j + 1)), .ref m9])) (show nI (6 * j) + 2 = nI (6 * j + 2) from nI_add (6 * j) 2)) ?_
    refine va_sld hx hb hX hbl hbA hS (vp_in_nI (show 6 * j + 2 < L by omega) (by omega)) dL_law_540 ?_
    refine W.eq (congrArg (fun z => F0 m 541 ls (.int z :: [.int (xs (6 * j + 1)), .ref m9])) (congrArg xs (nI_clamp (show 6 * j + 2 < 2 ^ 31 by omega)))) ?_
    have hPc := hP.sub (ws' := (wM m9 b1 b2 b3 b4 b5 b6 cI S F D J X Y th n ar sl hd hu hw im tc ck up dn)) [6, 7, 8, 9, 10, 11, 12] rfl
    have hDc := hD.sub (ws' := (wM m9 b1 b2 b3 b4 b5 b6 cI S F D J X Y th n ar sl hd hu hw im tc ck up dn)) [6, 7, 8, 9, 10, 11, 12] (by decide) rfl
    have hKc := hK.sub (tys' := [(cI, .int)]) [0] rfl
    have hFc := va_free (wc := (wM m9 b1 b2 b3 b4 b5 b6 cI S F D J X Y th n ar sl hd hu hw im tc ck up dn)) hD hS hA [6, 7, 8, 9, 10, 11, 12] rfl
    refine va_calli (va_runV (As := [.int (xs (6 * j + 1)), .int (xs (6 * j + 2))]) (rest := []) ⟨hx, hb, hml, hown, hts⟩ (c_X1_impact l dC dI H.size m9 b1 b2 b3 b4 b5 b6 cI S F D J X Y th n ar sl hd hu hw im tc ck up dn (xs (6 * j + 1)) (xs (6 * j + 2)) him) (cwV 2 hts (gV0 wl_L_94 wi_X1_impact wv_X1_impact wi_X1 wc_X1_impact) rfl rfl rfl (by decide +kernel) ⟨Nat.le_of_ble_eq_true rfl, Nat.le_of_ble_eq_true rfl⟩) ⟨fun a U g mk q => ⟨q.1, q.2.1, q.2.2.1, va_K.moved (u := U) (U := U.calling g mk a) (Vm.Alike.refl U.vm) q.2.2.2.1, q.2.2.2.2⟩, va_recv hKc hPc (ci := 1) (q0 := 0) rfl rfl, fun U hU hW => ⟨rfl, by rw [hU], by rw [hU]; exact hPc, va_K.moved hW.alike hKc, hDc.weaken (fun _ _ _ _ => trivial)⟩⟩ rfl rfl hl.1 rfl (lv_room (Nat.le_of_ble_eq_true rfl)) dL_law_541 ⟨by show 13 + 2 * j + 1 + 0 ≤ 1064; omega, by show 243 + 12 * j + 6 + 0 ≤ 8597; omega⟩) hS (fun q _ h => hFc q h) hFc (fun r541 v541 t H1 locs ht hvm h541 hB hz1 hk1 hS => ?_)
    rcases hB with ⟨-, hP1, hK1, hD1⟩ | ⟨hq, -⟩
    rotate_left
    · exact absurd hk hq
    rw [ht] at hP1
    obtain ⟨hP, hD⟩ := va_join (wr := (wXO x a1 a2 a3 a4 cI S F X Y n ar sl mu ml ck (im + 1) (ds + (xs (6 * j + 1)).toInt64) (js + (xs (6 * j + 2)).toInt64) (ps + ((xs (6 * j + 1)) * (xs (6 * j + 2))).toInt64) (ss + ((xs (6 * j + 1)) * (xs (6 * j + 1))).toInt64) tc o cJ (vp_updL O 0 u523))) (w1 := (wM m9 b1 b2 b3 b4 b5 b6 cI S F (upd D im (xs (6 * j + 1))) (upd J im (xs (6 * j + 2))) X Y (kd4 (ok_imp (xs (6 * j + 1)) (xs (6 * j + 2))) (im < 8) True True) n ar sl hd hu hw (im + 1) tc ck up dn)) hP hD [6, 7, 8, 9, 10, 11, 12] [0, 1, 2, 3, 4, 5] rfl rfl (by decide) (by decide) hk1 hFc hP1 hD1
    generalize H1 = H at hP hS ⊢
    have hP : va_P (dC, dI) vwCl ((wXO x a1 a2 a3 a4 cI S F X Y n ar sl mu ml ck (im + 1) (ds + (xs (6 * j + 1)).toInt64) (js + (xs (6 * j + 2)).toInt64) (ps + ((xs (6 * j + 1)) * (xs (6 * j + 2))).toInt64) (ss + ((xs (6 * j + 1)) * (xs (6 * j + 1))).toInt64) tc o cJ (vp_updL O 0 u523)) ++ (wM m9 b1 b2 b3 b4 b5 b6 cI S F (upd D im (xs (6 * j + 1))) (upd J im (xs (6 * j + 2))) X Y (kd4 (ok_imp (xs (6 * j + 1)) (xs (6 * j + 2))) (im < 8) True True) n ar sl hd hu hw (im + 1) tc ck up dn)) H := hP
    have hD : va_D (fun q : Nat => s.heap.size ≤ q) ((wXO x a1 a2 a3 a4 cI S F X Y n ar sl mu ml ck (im + 1) (ds + (xs (6 * j + 1)).toInt64) (js + (xs (6 * j + 2)).toInt64) (ps + ((xs (6 * j + 1)) * (xs (6 * j + 2))).toInt64) (ss + ((xs (6 * j + 1)) * (xs (6 * j + 1))).toInt64) tc o cJ (vp_updL O 0 u523)) ++ (wM m9 b1 b2 b3 b4 b5 b6 cI S F (upd D im (xs (6 * j + 1))) (upd J im (xs (6 * j + 2))) X Y (kd4 (ok_imp (xs (6 * j + 1)) (xs (6 * j + 2))) (im < 8) True True) n ar sl hd hu hw (im + 1) tc ck up dn)) := hD
    refine lv_istore (lv' := [(6, .int r541), (5, .int (kd4 (ok_imp (xs (6 * j + 1)) (xs (6 * j + 2))) (im < 8) True True)), (0, .ref b), (1, .ref x), (2, .ref m9), (3, .ref o), (4, .int (nI (6 * j)))]) hx hb dL_law_544 hl (by decide) rfl (fun ls hl => ?_)
    refine lv_aload_n hx hb dL_law_546 rfl (lv_at hl 4 rfl) ?_
    have hPc := hP.sub (ws' := (wM m9 b1 b2 b3 b4 b5 b6 cI S F (upd D im (xs (6 * j + 1))) (upd J im (xs (6 * j + 2))) X Y (kd4 (ok_imp (xs (6 * j + 1)) (xs (6 * j + 2))) (im < 8) True True) n ar sl hd hu hw (im + 1) tc ck up dn)) [6, 7, 8, 9, 10, 11, 12] rfl
    have hDc := hD.sub (ws' := (wM m9 b1 b2 b3 b4 b5 b6 cI S F (upd D im (xs (6 * j + 1))) (upd J im (xs (6 * j + 2))) X Y (kd4 (ok_imp (xs (6 * j + 1)) (xs (6 * j + 2))) (im < 8) True True) n ar sl hd hu hw (im + 1) tc ck up dn)) [6, 7, 8, 9, 10, 11, 12] (by decide) rfl
    have hKc := hK.sub (tys' := [(cI, .int)]) [0] rfl
    refine vp_callSi (W.runV (As := []) (rest := []) ⟨hx, hb, hml, hown, hts⟩ (c_X1_thrown l dC dI m9 b1 b2 b3 b4 b5 b6 cI S F (upd D im (xs (6 * j + 1))) (upd J im (xs (6 * j + 2))) X Y (kd4 (ok_imp (xs (6 * j + 1)) (xs (6 * j + 2))) (im < 8) True True) n ar sl hd hu hw (im + 1) tc ck up dn) (cwV 0 hts (gV0 wl_L_70 wi_X1_thrown wv_X1_thrown wi_X1 wc_X1_thrown) rfl rfl rfl (by decide +kernel) ⟨Nat.le_of_ble_eq_true rfl, Nat.le_of_ble_eq_true rfl⟩) ⟨fun a U g mk q => ⟨q.1, q.2.1, va_K.moved (u := U) (U := U.calling g mk a) (Vm.Alike.refl U.vm) q.2.2⟩, va_recv hKc hPc (ci := 1) (q0 := 0) rfl rfl, fun U hU hW => ⟨rfl, by rw [hU]; exact hPc, va_K.moved hW.alike hKc⟩⟩ rfl rfl hl.1 rfl (lv_room (Nat.le_of_ble_eq_true rfl)) dL_law_547 ⟨by show 13 + 2 * j + 1 + 0 + 0 ≤ 1064; omega, by show 243 + 12 * j + 6 + 0 + 0 ≤ 8597; omega⟩) (fun r547 h547 => ?_)
    subst h547
    refine lv_iload hx hb dL_law_550 (lv_at hl 1 rfl) ?_
    refine lv_icmp_eq (tgt := 557) hx hb dL_law_552 (by decide) (fun c552 => ?_) (fun c552 => ?_)
    · -- taken at 552
      have c552 : (kd4 (ok_imp (xs (6 * j + 1)) (xs (6 * j + 2))) (im < 8) True True).toInt = (kd4 (ok_imp (xs (6 * j + 1)) (xs (6 * j + 2))) (im < 8) True True).toInt := (Int32.toInt_inj.symm).mp c552
      refine lv_iload hx hb dL_law_557 (lv_at hl 1 rfl) ?_
      refine lv_if_ne (tgt := 574) hx hb dL_law_559 (by decide) (fun c559 => ?_) (fun c559 => ?_)
      · -- taken at 559
        exact absurd hk c559
      · -- not taken at 559
        refine lv_aload_n hx hb dL_law_562 rfl (lv_at hl 5 rfl) ?_
        refine lv_iconst (v := 0) hx hb dL_law_563 (by decide) ?_
        refine va_lald (D := (dC, dI)) hx hb hK hP 5 1 rfl rfl (vp_in_nI (show 0 < 1 by omega) (by decide)) dL_law_564 ?_
        refine W.eq (congrArg (fun z => F0 m 565 ls (.long z :: [])) (show (vp_updL O 0 u523) (0 : Int32).toNatClampNeg = u523 from upL0)) ?_
        refine lv_iload hx hb dL_law_565 (lv_at hl 0 rfl) ?_
        refine lv_i2l hx hb dL_law_567 rfl ?_
        refine W.lcmp hx hb dL_law_568 ?_
        refine lv_if_eq (tgt := 574) hx hb dL_law_569 (by decide) (fun c569 => ?_) (fun c569 => ?_)
        · -- taken at 569
          have c569 := (lg_cmp_eq _ _).mp c569
          have c569 : u523.toInt = r541.toInt64.toInt := (Int64.toInt_inj.symm).mp c569
          refine lv_goto (tgt := 1022) hx hb dL_law_574 (by decide) ?_
          refine W.widen (k := 13 + 2 * (j + 1)) (n := 243 + 12 * (j + 1)) (by omega) (by omega) ?_
          exact hN S F X Y (upd D im (xs (6 * j + 1))) (upd J im (xs (6 * j + 2))) n (im + 1) tc ar sl ck mu ml (ds + (xs (6 * j + 1)).toInt64) (js + (xs (6 * j + 2)).toInt64) (ps + ((xs (6 * j + 1)) * (xs (6 * j + 2))).toInt64) (ss + ((xs (6 * j + 1)) * (xs (6 * j + 1))).toInt64) (vp_updL O 0 u523) (kd4 (ok_imp (xs (6 * j + 1)) (xs (6 * j + 2))) (im < 8) True True) hd hu hw up dn H locs ls (li_imp hli (kd_z hk).1 (kd_z hk).2.1) hP hD hS (lv_sub hl [2, 3, 4, 5, 6] rfl)
        · -- not taken at 569
          have c569 := fun q9 => c569 ((lg_cmp_eq _ _).mpr q9)
          have c569 : ¬ u523.toInt = r541.toInt64.toInt := fun q9 => c569 ((Int64.toInt_inj.symm).mpr q9)
          exact absurd (by rw [ha1 hk, h541 hk]) c569
    · -- not taken at 552
      have c552 : ¬ (kd4 (ok_imp (xs (6 * j + 1)) (xs (6 * j + 2))) (im < 8) True True).toInt = (kd4 (ok_imp (xs (6 * j + 1)) (xs (6 * j + 2))) (im < 8) True True).toInt := fun q9 => c552 ((Int32.toInt_inj.symm).mpr q9)
      exact absurd rfl c552
  · -- refused
    rw [ht] at hP1
    obtain ⟨hP, hD⟩ := va_join (wr := (wM m9 b1 b2 b3 b4 b5 b6 cI S F D J X Y th n ar sl hd hu hw im tc ck up dn)) (w1 := (wXO x a1 a2 a3 a4 cI S F X Y n ar sl mu ml ck im ds js ps ss tc o cJ O)) hP hD [0, 1, 2, 3, 4, 5] [6, 7, 8, 9, 10, 11, 12] rfl rfl (by decide) (by decide) hk1 hFc hP1 hD1
    have hP : va_P (dC, dI) vwCl ((wXO x a1 a2 a3 a4 cI S F X Y n ar sl mu ml ck im ds js ps ss tc o cJ O) ++ (wM m9 b1 b2 b3 b4 b5 b6 cI S F D J X Y th n ar sl hd hu hw im tc ck up dn)) H1 := hP.sub [7, 8, 9, 10, 11, 12, 0, 1, 2, 3, 4, 5, 6] rfl
    have hD : va_D (fun q : Nat => s.heap.size ≤ q) ((wXO x a1 a2 a3 a4 cI S F X Y n ar sl mu ml ck im ds js ps ss tc o cJ O) ++ (wM m9 b1 b2 b3 b4 b5 b6 cI S F D J X Y th n ar sl hd hu hw im tc ck up dn)) := hD.sub [7, 8, 9, 10, 11, 12, 0, 1, 2, 3, 4, 5, 6] (by decide) rfl
    generalize H1 = H at hP hS ⊢
    refine lv_istore (lv' := [(5, .int (kd4 (ok_imp (xs (6 * j + 1)) (xs (6 * j + 2))) (im < 8) True True)), (0, .ref b), (1, .ref x), (2, .ref m9), (3, .ref o), (4, .int (nI (6 * j)))]) hx hb dL_law_526 hl (by decide) rfl (fun ls hl => ?_)
    refine lv_aload_n hx hb dL_law_528 rfl (lv_at hl 3 rfl) ?_
    refine lv_aload_n hx hb dL_law_529 rfl (lv_at hl 1 rfl) ?_
    refine lv_iload hx hb dL_law_530 (lv_at hl 5 rfl) ?_
    refine lv_iconst (v := 1) hx hb dL_law_532 (by decide) ?_
    refine lv_iadd hx hb dL_law_533 ?_
    refine W.eq (congrArg (fun z => F0 m 534 ls (.int z :: [.ref b, .ref m9])) (show nI (6 * j) + 1 = nI (6 * j + 1) from nI_add (6 * j) 1)) ?_
    refine va_sld hx hb hX hbl hbA hS (vp_in_nI (show 6 * j + 1 < L by omega) (by omega)) dL_law_534 ?_
    refine W.eq (congrArg (fun z => F0 m 535 ls (.int z :: [.ref m9])) (congrArg xs (nI_clamp (show 6 * j + 1 < 2 ^ 31 by omega)))) ?_
    refine lv_aload_n hx hb dL_law_535 rfl (lv_at hl 1 rfl) ?_
    refine lv_iload hx hb dL_law_536 (lv_at hl 5 rfl) ?_
    refine lv_iconst (v := 2) hx hb dL_law_538 (by decide) ?_
    refine lv_iadd hx hb dL_law_539 ?_
    refine W.eq (congrArg (fun z => F0 m 540 ls (.int z :: [.ref b, .int (xs (6 * j + 1)), .ref m9])) (show nI (6 * j) + 2 = nI (6 * j + 2) from nI_add (6 * j) 2)) ?_
    refine va_sld hx hb hX hbl hbA hS (vp_in_nI (show 6 * j + 2 < L by omega) (by omega)) dL_law_540 ?_
    refine W.eq (congrArg (fun z => F0 m 541 ls (.int z :: [.int (xs (6 * j + 1)), .ref m9])) (congrArg xs (nI_clamp (show 6 * j + 2 < 2 ^ 31 by omega)))) ?_
    have hPc := hP.sub (ws' := (wM m9 b1 b2 b3 b4 b5 b6 cI S F D J X Y th n ar sl hd hu hw im tc ck up dn)) [6, 7, 8, 9, 10, 11, 12] rfl
    have hDc := hD.sub (ws' := (wM m9 b1 b2 b3 b4 b5 b6 cI S F D J X Y th n ar sl hd hu hw im tc ck up dn)) [6, 7, 8, 9, 10, 11, 12] (by decide) rfl
    have hKc := hK.sub (tys' := [(cI, .int)]) [0] rfl
    have hFc := va_free (wc := (wM m9 b1 b2 b3 b4 b5 b6 cI S F D J X Y th n ar sl hd hu hw im tc ck up dn)) hD hS hA [6, 7, 8, 9, 10, 11, 12] rfl
    refine va_calli (va_runV (As := [.int (xs (6 * j + 1)), .int (xs (6 * j + 2))]) (rest := []) ⟨hx, hb, hml, hown, hts⟩ (c_X1_impact l dC dI H.size m9 b1 b2 b3 b4 b5 b6 cI S F D J X Y th n ar sl hd hu hw im tc ck up dn (xs (6 * j + 1)) (xs (6 * j + 2)) him) (cwV 2 hts (gV0 wl_L_94 wi_X1_impact wv_X1_impact wi_X1 wc_X1_impact) rfl rfl rfl (by decide +kernel) ⟨Nat.le_of_ble_eq_true rfl, Nat.le_of_ble_eq_true rfl⟩) ⟨fun a U g mk q => ⟨q.1, q.2.1, q.2.2.1, va_K.moved (u := U) (U := U.calling g mk a) (Vm.Alike.refl U.vm) q.2.2.2.1, q.2.2.2.2⟩, va_recv hKc hPc (ci := 1) (q0 := 0) rfl rfl, fun U hU hW => ⟨rfl, by rw [hU], by rw [hU]; exact hPc, va_K.moved hW.alike hKc, hDc.weaken (fun _ _ _ _ => trivial)⟩⟩ rfl rfl hl.1 rfl (lv_room (Nat.le_of_ble_eq_true rfl)) dL_law_541 ⟨by show 13 + 2 * j + 1 + 0 ≤ 1064; omega, by show 243 + 12 * j + 6 + 0 ≤ 8597; omega⟩) hS (fun q _ h => hFc q h) hFc (fun r541 v541 t H1 locs ht hvm h541 hB hz1 hk1 hS => ?_)
    rcases hB with ⟨hq, -⟩ | ⟨-, hP1, hK1, hD1⟩
    · exact absurd hq hk
    rw [ht] at hP1
    obtain ⟨hP, hD⟩ := va_join (wr := (wXO x a1 a2 a3 a4 cI S F X Y n ar sl mu ml ck im ds js ps ss tc o cJ O)) (w1 := (wM m9 b1 b2 b3 b4 b5 b6 cI S F D J X Y (kd4 (ok_imp (xs (6 * j + 1)) (xs (6 * j + 2))) (im < 8) True True) n ar sl hd hu hw im tc ck up dn)) hP hD [6, 7, 8, 9, 10, 11, 12] [0, 1, 2, 3, 4, 5] rfl rfl (by decide) (by decide) hk1 hFc hP1 hD1
    generalize H1 = H at hP hS ⊢
    have hP : va_P (dC, dI) vwCl ((wXO x a1 a2 a3 a4 cI S F X Y n ar sl mu ml ck im ds js ps ss tc o cJ O) ++ (wM m9 b1 b2 b3 b4 b5 b6 cI S F D J X Y (kd4 (ok_imp (xs (6 * j + 1)) (xs (6 * j + 2))) (im < 8) True True) n ar sl hd hu hw im tc ck up dn)) H := hP
    have hD : va_D (fun q : Nat => s.heap.size ≤ q) ((wXO x a1 a2 a3 a4 cI S F X Y n ar sl mu ml ck im ds js ps ss tc o cJ O) ++ (wM m9 b1 b2 b3 b4 b5 b6 cI S F D J X Y (kd4 (ok_imp (xs (6 * j + 1)) (xs (6 * j + 2))) (im < 8) True True) n ar sl hd hu hw im tc ck up dn)) := hD
    refine lv_istore (lv' := [(6, .int r541), (5, .int (kd4 (ok_imp (xs (6 * j + 1)) (xs (6 * j + 2))) (im < 8) True True)), (0, .ref b), (1, .ref x), (2, .ref m9), (3, .ref o), (4, .int (nI (6 * j)))]) hx hb dL_law_544 hl (by decide) rfl (fun ls hl => ?_)
    refine lv_aload_n hx hb dL_law_546 rfl (lv_at hl 4 rfl) ?_
    have hPc := hP.sub (ws' := (wM m9 b1 b2 b3 b4 b5 b6 cI S F D J X Y (kd4 (ok_imp (xs (6 * j + 1)) (xs (6 * j + 2))) (im < 8) True True) n ar sl hd hu hw im tc ck up dn)) [6, 7, 8, 9, 10, 11, 12] rfl
    have hDc := hD.sub (ws' := (wM m9 b1 b2 b3 b4 b5 b6 cI S F D J X Y (kd4 (ok_imp (xs (6 * j + 1)) (xs (6 * j + 2))) (im < 8) True True) n ar sl hd hu hw im tc ck up dn)) [6, 7, 8, 9, 10, 11, 12] (by decide) rfl
    have hKc := hK.sub (tys' := [(cI, .int)]) [0] rfl
    refine vp_callSi (W.runV (As := []) (rest := []) ⟨hx, hb, hml, hown, hts⟩ (c_X1_thrown l dC dI m9 b1 b2 b3 b4 b5 b6 cI S F D J X Y (kd4 (ok_imp (xs (6 * j + 1)) (xs (6 * j + 2))) (im < 8) True True) n ar sl hd hu hw im tc ck up dn) (cwV 0 hts (gV0 wl_L_70 wi_X1_thrown wv_X1_thrown wi_X1 wc_X1_thrown) rfl rfl rfl (by decide +kernel) ⟨Nat.le_of_ble_eq_true rfl, Nat.le_of_ble_eq_true rfl⟩) ⟨fun a U g mk q => ⟨q.1, q.2.1, va_K.moved (u := U) (U := U.calling g mk a) (Vm.Alike.refl U.vm) q.2.2⟩, va_recv hKc hPc (ci := 1) (q0 := 0) rfl rfl, fun U hU hW => ⟨rfl, by rw [hU]; exact hPc, va_K.moved hW.alike hKc⟩⟩ rfl rfl hl.1 rfl (lv_room (Nat.le_of_ble_eq_true rfl)) dL_law_547 ⟨by show 13 + 2 * j + 1 + 0 + 0 ≤ 1064; omega, by show 243 + 12 * j + 6 + 0 + 0 ≤ 8597; omega⟩) (fun r547 h547 => ?_)
    subst h547
    refine lv_iload hx hb dL_law_550 (lv_at hl 1 rfl) ?_
    refine lv_icmp_eq (tgt := 557) hx hb dL_law_552 (by decide) (fun c552 => ?_) (fun c552 => ?_)
    · -- taken at 552
      have c552 : (kd4 (ok_imp (xs (6 * j + 1)) (xs (6 * j + 2))) (im < 8) True True).toInt = (kd4 (ok_imp (xs (6 * j + 1)) (xs (6 * j + 2))) (im < 8) True True).toInt := (Int32.toInt_inj.symm).mp c552
      refine lv_iload hx hb dL_law_557 (lv_at hl 1 rfl) ?_
      refine lv_if_ne (tgt := 574) hx hb dL_law_559 (by decide) (fun c559 => ?_) (fun c559 => ?_)
      · -- taken at 559
        refine lv_goto (tgt := 1022) hx hb dL_law_574 (by decide) ?_
        refine W.widen (k := 13 + 2 * (j + 1)) (n := 243 + 12 * (j + 1)) (by omega) (by omega) ?_
        exact hN S F X Y D J n im tc ar sl ck mu ml ds js ps ss O (kd4 (ok_imp (xs (6 * j + 1)) (xs (6 * j + 2))) (im < 8) True True) hd hu hw up dn H locs ls (hli) hP hD hS (lv_sub hl [2, 3, 4, 5, 6] rfl)
      · -- not taken at 559
        exact absurd c559 hk
    · -- not taken at 552
      have c552 : ¬ (kd4 (ok_imp (xs (6 * j + 1)) (xs (6 * j + 2))) (im < 8) True True).toInt = (kd4 (ok_imp (xs (6 * j + 1)) (xs (6 * j + 2))) (im < 8) True True).toInt := fun q9 => c552 ((Int32.toInt_inj.symm).mpr q9)
      exact absurd rfl c552
