set_option maxHeartbeats 8000000 in
set_option maxRecDepth 100000 in
theorem law_convert {p : Program} {l : Launch} {e : Env} {s : State} {m : MethodId} {below : List Frame} {meth : Method} {c : Code} {dC : Nat → ClassId} {dI : Nat → Nat → Nat} {b L : Nat} {xs : Nat → Int32} {sa : Nat → Nat} {x a1 a2 a3 a4 o m9 b1 b2 b3 b4 b5 b6 : Nat} {cI cJ : ClassId} (hst : l.stackTraces = false) (hL : L ≤ 3072) (C0 : lw_At p s m meth c b L xs) (hG : gl_ok s.heap.size sa s) (hK : va_K (dC, dI) vwCl [(cI, .int), (cJ, .long)] s) (j : Nat) (h6 : 6 * j + 6 ≤ L) (hN : LN p l e s m below meth c dC dI b x a1 a2 a3 a4 o m9 b1 b2 b3 b4 b5 b6 cI cJ j) (S F X Y D J : Nat → Int32) (n im tc : Nat) (ar sl ck : Int32) (mu ml ds js ps ss : Int64) (O : Nat → Int64) (th hd : Int32) (hu hw up dn : Int64) (H : Heap) (locs : List Loc) (ls : Array Slot) (hli : li S F D J X Y n im tc ar sl ck mu ml ds js ps ss hd hu hw) (hP : va_P (dC, dI) vwCl ((wXO x a1 a2 a3 a4 cI S F X Y n ar sl mu ml ck im ds js ps ss tc o cJ O) ++ (wM m9 b1 b2 b3 b4 b5 b6 cI S F D J X Y th n ar sl hd hu hw im tc ck up dn)) H) (hD : va_D (fun q : Nat => s.heap.size ≤ q) ((wXO x a1 a2 a3 a4 cI S F X Y n ar sl mu ml ck im ds js ps ss tc o cJ O) ++ (wM m9 b1 b2 b3 b4 b5 b6 cI S F D J X Y th n ar sl hd hu hw im tc ck up dn))) (hS : va_S (fun q : Nat => s.heap.size ≤ q) s.heap H locs) (hl : lv_has ls 8 [(0, .ref b), (1, .ref x), (2, .ref m9), (3, .ref o), (4, .int (nI (6 * j)))]) : W p l e room_1 s m #[Value.ref b] below meth c H locs (13 + 2 * j) (243 + 12 * j) (lw_Z below #[Value.ref b] s) (F0 m 712 ls []) := by
  obtain ⟨hx, hb, hr, hml, hown, hts, hX, hbl, hlocks, hgv⟩ := id C0
  have hA : ∀ q : Nat, s.heap.size ≤ q → (fun q : Nat => s.heap.size ≤ q) q := fun _ h => h
  have hbA : ¬ (fun q : Nat => s.heap.size ≤ q) b := Nat.not_le.mpr hbl
  obtain ⟨⟨hn, hrs, hSb, hFb⟩, ⟨har, hsl, hck⟩, hmr, ⟨htc, hrt, hXb, hYb⟩, him, hDb, hJb, hfs⟩ := id hli
  obtain ⟨hhd, hhm, hH, hM⟩ := mr_b hmr
  refine lv_aload_n hx hb dL_law_712 rfl (lv_at hl 1 rfl) ?_
  refine lv_aload_n hx hb dL_law_713 rfl (lv_at hl 0 rfl) ?_
  refine lv_iload hx hb dL_law_714 (lv_at hl 4 rfl) ?_
  refine lv_iconst (v := 1) hx hb dL_law_716 (by decide) ?_
  refine lv_iadd hx hb dL_law_717 ?_
  refine W.eq (congrArg (fun z => F0 m 718 ls (.int z :: [.ref b, .ref x])) (show nI (6 * j) + 1 = nI (6 * j + 1) from nI_add (6 * j) 1)) ?_
  refine va_sld hx hb hX hbl hbA hS (vp_in_nI (show 6 * j + 1 < L by omega) (by omega)) dL_law_718 ?_
  refine W.eq (congrArg (fun z => F0 m 719 ls (.int z :: [.ref x])) (congrArg xs (nI_clamp (show 6 * j + 1 < 2 ^ 31 by omega)))) ?_
  refine lv_aload_n hx hb dL_law_719 rfl (lv_at hl 0 rfl) ?_
  refine lv_iload hx hb dL_law_720 (lv_at hl 4 rfl) ?_
  refine lv_iconst (v := 2) hx hb dL_law_722 (by decide) ?_
  refine lv_iadd hx hb dL_law_723 ?_
  refine W.eq (congrArg (fun z => F0 m 724 ls (.int z :: [.ref b, .int (xs (6 * j + 1)), .ref x])) (show nI (6 * j) + 2 = nI (6 * j + 2) from nI_add (6 * j) 2)) ?_
  refine va_sld hx hb hX hbl hbA hS (vp_in_nI (show 6 * j + 2 < L by omega) (by omega)) dL_law_724 ?_
  refine W.eq (congrArg (fun z => F0 m 725 ls (.int z :: [.int (xs (6 * j + 1)), .ref x])) (congrArg xs (nI_clamp (show 6 * j + 2 < 2 ^ 31 by omega)))) ?_
  refine lv_aload_n hx hb dL_law_725 rfl (lv_at hl 3 rfl) ?_
  have hPc := hP.sub (ws' := (wXO x a1 a2 a3 a4 cI S F X Y n ar sl mu ml ck im ds js ps ss tc o cJ O)) [0, 1, 2, 3, 4, 5] rfl
  have hDc := hD.sub (ws' := (wXO x a1 a2 a3 a4 cI S F X Y n ar sl mu ml ck im ds js ps ss tc o cJ O)) [0, 1, 2, 3, 4, 5] (by decide) rfl
  have hFc := va_free (wc := (wXO x a1 a2 a3 a4 cI S F X Y n ar sl mu ml ck im ds js ps ss tc o cJ O)) hD hS hA [0, 1, 2, 3, 4, 5] rfl
  refine va_calli (vx_runSW (As := [.ref x, .int (xs (6 * j + 1)), .int (xs (6 * j + 2)), .ref o]) (rest := []) ⟨hx, hb, hml, hown, hts⟩ (c_L_convert l hst dC dI s.heap.size sa H.size hS.1 x a1 a2 a3 a4 cI S F X Y n ar sl mu ml ck im ds js ps ss tc o cJ O (xs (6 * j + 1)) (xs (6 * j + 2)) htc hrt hXb hYb) (vx_cwSW 4 hts (gS0 wl_L_101 ws_L_convert wi_L wc_L_convert) rfl rfl rfl (by decide +kernel) ⟨Nat.le_of_ble_eq_true rfl, Nat.le_of_ble_eq_true rfl⟩) ⟨fun a U g mk q => ⟨q.1, q.2.1, q.2.2.1, va_K.moved (u := U) (U := U.calling g mk a) (Vm.Alike.refl U.vm) q.2.2.2.1, q.2.2.2.2.1, gl_blind q.2.2.2.2.2⟩, fun U hU hW => ⟨rfl, by rw [hU], by rw [hU]; exact hPc, va_K.moved hW.alike hK, hDc, gl_moved hG hS (fun _ h => h) hU hW⟩⟩ rfl rfl hl.1 rfl (lv_room (Nat.le_of_ble_eq_true rfl)) dL_law_726 ⟨by show 13 + 2 * j + 2 ≤ 1064; omega, by show 243 + 12 * j + 12 ≤ 8597; omega⟩) hS (fun q _ h => hFc q h) hFc (fun r726 u726 t H1 locs ht hvm h726 hB hz1 hk1 hS => ?_)
  obtain ⟨hkr, ha1⟩ := h726
  subst hkr
  rcases hB with ⟨hk, hP1, hK1, hD1⟩ | ⟨hk, hP1, hK1, hD1⟩
  · -- answered
    rw [ht] at hP1
    obtain ⟨hP, hD⟩ := va_join (wr := (wM m9 b1 b2 b3 b4 b5 b6 cI S F D J X Y th n ar sl hd hu hw im tc ck up dn)) (w1 := (wXO x a1 a2 a3 a4 cI S F X Y n ar sl mu ml ck im ds js ps ss tc o cJ (vp_updL O 0 u726))) hP hD [0, 1, 2, 3, 4, 5] [6, 7, 8, 9, 10, 11, 12] rfl rfl (by decide) (by decide) hk1 hFc hP1 hD1
    have hP : va_P (dC, dI) vwCl ((wXO x a1 a2 a3 a4 cI S F X Y n ar sl mu ml ck im ds js ps ss tc o cJ (vp_updL O 0 u726)) ++ (wM m9 b1 b2 b3 b4 b5 b6 cI S F D J X Y th n ar sl hd hu hw im tc ck up dn)) H1 := hP.sub [7, 8, 9, 10, 11, 12, 0, 1, 2, 3, 4, 5, 6] rfl
    have hD : va_D (fun q : Nat => s.heap.size ≤ q) ((wXO x a1 a2 a3 a4 cI S F X Y n ar sl mu ml ck im ds js ps ss tc o cJ (vp_updL O 0 u726)) ++ (wM m9 b1 b2 b3 b4 b5 b6 cI S F D J X Y th n ar sl hd hu hw im tc ck up dn)) := hD.sub [7, 8, 9, 10, 11, 12, 0, 1, 2, 3, 4, 5, 6] (by decide) rfl
    generalize H1 = H at hP hS ⊢
    refine lv_istore (lv' := [(5, .int (kd4 (0 ≤ (xs (6 * j + 2)).toInt ∧ (xs (6 * j + 2)).toInt ≤ 2) (0 < tc) (0 ≤ (xs (6 * j + 1)).toInt ∧ (xs (6 * j + 1)).toInt ≤ 2000) (ok_cv tc X (xs (6 * j + 1))))), (0, .ref b), (1, .ref x), (2, .ref m9), (3, .ref o), (4, .int (nI (6 * j)))]) hx hb dL_law_729 hl (by decide) rfl (fun ls hl => ?_)
    refine lv_aload_n hx hb dL_law_731 rfl (lv_at hl 3 rfl) ?_
    refine lv_aload_n hx hb dL_law_732 rfl (lv_at hl 1 rfl) ?_
    refine lv_iload hx hb dL_law_733 (lv_at hl 5 rfl) ?_
    refine lv_iconst (v := 1) hx hb dL_law_735 (by decide) ?_
    refine lv_iadd hx hb dL_law_736 ?_
    refine W.eq (congrArg (fun z => F0 m 737 ls (.int z :: [.ref b, .ref m9])) (show nI (6 * j) + 1 = nI (6 * j + 1) from nI_add (6 * j) 1)) ?_
    refine va_sld hx hb hX hbl hbA hS (vp_in_nI (show 6 * j + 1 < L by omega) (by omega)) dL_law_737 ?_
    refine W.eq (congrArg (fun z => F0 m 738 ls (.int z :: [.ref m9])) (congrArg xs (nI_clamp (show 6 * j + 1 < 2 ^ 31 by omega)))) ?_
    refine lv_aload_n hx hb dL_law_738 rfl (lv_at hl 1 rfl) ?_
    refine lv_iload hx hb dL_law_739 (lv_at hl 5 rfl) ?_
    refine lv_iconst (v := 2) hx hb dL_law_741 (by decide) ?_
    refine lv_iadd hx hb dL_law_742 ?_
    refine W.eq (congrArg (fun z => F0 m 743 ls (.int z :: [.ref b, .int (xs (6 * j + 1)), .ref m9])) (show nI (6 * j) + 2 = nI (6 * j + 2) from nI_add (6 * j) 2)) ?_
    refine va_sld hx hb hX hbl hbA hS (vp_in_nI (show 6 * j + 2 < L by omega) (by omega)) dL_law_743 ?_
    refine W.eq (congrArg (fun z => F0 m 744 ls (.int z :: [.int (xs (6 * j + 1)), .ref m9])) (congrArg xs (nI_clamp (show 6 * j + 2 < 2 ^ 31 by omega)))) ?_
    have hPc := hP.sub (ws' := (wM m9 b1 b2 b3 b4 b5 b6 cI S F D J X Y th n ar sl hd hu hw im tc ck up dn)) [6, 7, 8, 9, 10, 11, 12] rfl
    have hDc := hD.sub (ws' := (wM m9 b1 b2 b3 b4 b5 b6 cI S F D J X Y th n ar sl hd hu hw im tc ck up dn)) [6, 7, 8, 9, 10, 11, 12] (by decide) rfl
    have hKc := hK.sub (tys' := [(cI, .int)]) [0] rfl
    have hFc := va_free (wc := (wM m9 b1 b2 b3 b4 b5 b6 cI S F D J X Y th n ar sl hd hu hw im tc ck up dn)) hD hS hA [6, 7, 8, 9, 10, 11, 12] rfl
    refine va_calli (va_runV (As := [.int (xs (6 * j + 1)), .int (xs (6 * j + 2))]) (rest := []) ⟨hx, hb, hml, hown, hts⟩ (c_X1_convert l dC dI H.size m9 b1 b2 b3 b4 b5 b6 cI S F D J X Y th n ar sl hd hu hw im tc ck up dn (xs (6 * j + 1)) (xs (6 * j + 2)) htc hrt hXb hYb) (cwV 2 hts (gV0 wl_L_103 wi_X1_convert wv_X1_convert wi_X1 wc_X1_convert) rfl rfl rfl (by decide +kernel) ⟨Nat.le_of_ble_eq_true rfl, Nat.le_of_ble_eq_true rfl⟩) ⟨fun a U g mk q => ⟨q.1, q.2.1, q.2.2.1, va_K.moved (u := U) (U := U.calling g mk a) (Vm.Alike.refl U.vm) q.2.2.2.1, q.2.2.2.2⟩, va_recv hKc hPc (ci := 1) (q0 := 0) rfl rfl, fun U hU hW => ⟨rfl, by rw [hU], by rw [hU]; exact hPc, va_K.moved hW.alike hKc, hDc.weaken (fun _ _ _ _ => trivial)⟩⟩ rfl rfl hl.1 rfl (lv_room (Nat.le_of_ble_eq_true rfl)) dL_law_744 ⟨by show 13 + 2 * j + 2 + 0 ≤ 1064; omega, by show 243 + 12 * j + 12 + 0 ≤ 8597; omega⟩) hS (fun q _ h => hFc q h) hFc (fun r744 v744 t H1 locs ht hvm h744 hB hz1 hk1 hS => ?_)
    obtain ⟨hP1, hK1, hD1⟩ := hB
    rw [ht] at hP1
    obtain ⟨hP, hD⟩ := va_join (wr := (wXO x a1 a2 a3 a4 cI S F X Y n ar sl mu ml ck im ds js ps ss tc o cJ (vp_updL O 0 u726))) (w1 := (wM m9 b1 b2 b3 b4 b5 b6 cI S F D J X Y (kd4 (0 ≤ (xs (6 * j + 2)).toInt ∧ (xs (6 * j + 2)).toInt ≤ 2) (0 < tc) (0 ≤ (xs (6 * j + 1)).toInt ∧ (xs (6 * j + 1)).toInt ≤ 2000) (ok_cv tc X (xs (6 * j + 1)))) n ar sl hd hu hw im tc ck up dn)) hP hD [6, 7, 8, 9, 10, 11, 12] [0, 1, 2, 3, 4, 5] rfl rfl (by decide) (by decide) hk1 hFc hP1 hD1
    generalize H1 = H at hP hS ⊢
    have hP : va_P (dC, dI) vwCl ((wXO x a1 a2 a3 a4 cI S F X Y n ar sl mu ml ck im ds js ps ss tc o cJ (vp_updL O 0 u726)) ++ (wM m9 b1 b2 b3 b4 b5 b6 cI S F D J X Y (kd4 (0 ≤ (xs (6 * j + 2)).toInt ∧ (xs (6 * j + 2)).toInt ≤ 2) (0 < tc) (0 ≤ (xs (6 * j + 1)).toInt ∧ (xs (6 * j + 1)).toInt ≤ 2000) (ok_cv tc X (xs (6 * j + 1)))) n ar sl hd hu hw im tc ck up dn)) H := hP
    have hD : va_D (fun q : Nat => s.heap.size ≤ q) ((wXO x a1 a2 a3 a4 cI S F X Y n ar sl mu ml ck im ds js ps ss tc o cJ (vp_updL O 0 u726)) ++ (wM m9 b1 b2 b3 b4 b5 b6 cI S F D J X Y (kd4 (0 ≤ (xs (6 * j + 2)).toInt ∧ (xs (6 * j + 2)).toInt ≤ 2) (0 < tc) (0 ≤ (xs (6 * j + 1)).toInt ∧ (xs (6 * j + 1)).toInt ≤ 2000) (ok_cv tc X (xs (6 * j + 1)))) n ar sl hd hu hw im tc ck up dn)) := hD
    refine lv_istore (lv' := [(6, .int r744), (5, .int (kd4 (0 ≤ (xs (6 * j + 2)).toInt ∧ (xs (6 * j + 2)).toInt ≤ 2) (0 < tc) (0 ≤ (xs (6 * j + 1)).toInt ∧ (xs (6 * j + 1)).toInt ≤ 2000) (ok_cv tc X (xs (6 * j + 1))))), (0, .ref b), (1, .ref x), (2, .ref m9), (3, .ref o), (4, .int (nI (6 * j)))]) hx hb dL_law_747 hl (by decide) rfl (fun ls hl => ?_)
    refine lv_aload_n hx hb dL_law_749 rfl (lv_at hl 4 rfl) ?_
    have hPc := hP.sub (ws' := (wM m9 b1 b2 b3 b4 b5 b6 cI S F D J X Y (kd4 (0 ≤ (xs (6 * j + 2)).toInt ∧ (xs (6 * j + 2)).toInt ≤ 2) (0 < tc) (0 ≤ (xs (6 * j + 1)).toInt ∧ (xs (6 * j + 1)).toInt ≤ 2000) (ok_cv tc X (xs (6 * j + 1)))) n ar sl hd hu hw im tc ck up dn)) [6, 7, 8, 9, 10, 11, 12] rfl
    have hDc := hD.sub (ws' := (wM m9 b1 b2 b3 b4 b5 b6 cI S F D J X Y (kd4 (0 ≤ (xs (6 * j + 2)).toInt ∧ (xs (6 * j + 2)).toInt ≤ 2) (0 < tc) (0 ≤ (xs (6 * j + 1)).toInt ∧ (xs (6 * j + 1)).toInt ≤ 2000) (ok_cv tc X (xs (6 * j + 1)))) n ar sl hd hu hw im tc ck up dn)) [6, 7, 8, 9, 10, 11, 12] (by decide) rfl
    have hKc := hK.sub (tys' := [(cI, .int)]) [0] rfl
    refine vp_callSi (W.runV (As := []) (rest := []) ⟨hx, hb, hml, hown, hts⟩ (c_X1_thrown l dC dI m9 b1 b2 b3 b4 b5 b6 cI S F D J X Y (kd4 (0 ≤ (xs (6 * j + 2)).toInt ∧ (xs (6 * j + 2)).toInt ≤ 2) (0 < tc) (0 ≤ (xs (6 * j + 1)).toInt ∧ (xs (6 * j + 1)).toInt ≤ 2000) (ok_cv tc X (xs (6 * j + 1)))) n ar sl hd hu hw im tc ck up dn) (cwV 0 hts (gV0 wl_L_70 wi_X1_thrown wv_X1_thrown wi_X1 wc_X1_thrown) rfl rfl rfl (by decide +kernel) ⟨Nat.le_of_ble_eq_true rfl, Nat.le_of_ble_eq_true rfl⟩) ⟨fun a U g mk q => ⟨q.1, q.2.1, va_K.moved (u := U) (U := U.calling g mk a) (Vm.Alike.refl U.vm) q.2.2⟩, va_recv hKc hPc (ci := 1) (q0 := 0) rfl rfl, fun U hU hW => ⟨rfl, by rw [hU]; exact hPc, va_K.moved hW.alike hKc⟩⟩ rfl rfl hl.1 rfl (lv_room (Nat.le_of_ble_eq_true rfl)) dL_law_750 ⟨by show 13 + 2 * j + 2 + 0 + 0 ≤ 1064; omega, by show 243 + 12 * j + 12 + 0 + 0 ≤ 8597; omega⟩) (fun r750 h750 => ?_)
    subst h750
    refine lv_iload hx hb dL_law_753 (lv_at hl 1 rfl) ?_
    refine lv_icmp_eq (tgt := 760) hx hb dL_law_755 (by decide) (fun c755 => ?_) (fun c755 => ?_)
    · -- taken at 755
      have c755 : (kd4 (0 ≤ (xs (6 * j + 2)).toInt ∧ (xs (6 * j + 2)).toInt ≤ 2) (0 < tc) (0 ≤ (xs (6 * j + 1)).toInt ∧ (xs (6 * j + 1)).toInt ≤ 2000) (ok_cv tc X (xs (6 * j + 1)))).toInt = (kd4 (0 ≤ (xs (6 * j + 2)).toInt ∧ (xs (6 * j + 2)).toInt ≤ 2) (0 < tc) (0 ≤ (xs (6 * j + 1)).toInt ∧ (xs (6 * j + 1)).toInt ≤ 2000) (ok_cv tc X (xs (6 * j + 1)))).toInt := (Int32.toInt_inj.symm).mp c755
      refine lv_iload hx hb dL_law_760 (lv_at hl 1 rfl) ?_
      refine lv_if_ne (tgt := 777) hx hb dL_law_762 (by decide) (fun c762 => ?_) (fun c762 => ?_)
      · -- taken at 762
        exact absurd hk c762
      · -- not taken at 762
        refine lv_aload_n hx hb dL_law_765 rfl (lv_at hl 5 rfl) ?_
        refine lv_iconst (v := 0) hx hb dL_law_766 (by decide) ?_
        refine va_lald (D := (dC, dI)) hx hb hK hP 5 1 rfl rfl (vp_in_nI (show 0 < 1 by omega) (by decide)) dL_law_767 ?_
        refine W.eq (congrArg (fun z => F0 m 768 ls (.long z :: [])) (show (vp_updL O 0 u726) (0 : Int32).toNatClampNeg = u726 from upL0)) ?_
        refine lv_iload hx hb dL_law_768 (lv_at hl 0 rfl) ?_
        refine lv_i2l hx hb dL_law_770 rfl ?_
        refine W.lcmp hx hb dL_law_771 ?_
        refine lv_if_eq (tgt := 777) hx hb dL_law_772 (by decide) (fun c772 => ?_) (fun c772 => ?_)
        · -- taken at 772
          have c772 := (lg_cmp_eq _ _).mp c772
          have c772 : u726.toInt = r744.toInt64.toInt := (Int64.toInt_inj.symm).mp c772
          refine lv_goto (tgt := 1022) hx hb dL_law_777 (by decide) ?_
          refine W.widen (k := 13 + 2 * (j + 1)) (n := 243 + 12 * (j + 1)) (by omega) (by omega) ?_
          exact hN S F X Y D J n im tc ar sl ck mu ml ds js ps ss (vp_updL O 0 u726) (kd4 (0 ≤ (xs (6 * j + 2)).toInt ∧ (xs (6 * j + 2)).toInt ≤ 2) (0 < tc) (0 ≤ (xs (6 * j + 1)).toInt ∧ (xs (6 * j + 1)).toInt ≤ 2000) (ok_cv tc X (xs (6 * j + 1)))) hd hu hw up dn H locs ls (hli) hP hD hS (lv_sub hl [2, 3, 4, 5, 6] rfl)
        · -- not taken at 772
          have c772 := fun q9 => c772 ((lg_cmp_eq _ _).mpr q9)
          have c772 : ¬ u726.toInt = r744.toInt64.toInt := fun q9 => c772 ((Int64.toInt_inj.symm).mpr q9)
          exact absurd (law_cv (ha1 hk) (h744 hk)) c772
    · -- not taken at 755
      have c755 : ¬ (kd4 (0 ≤ (xs (6 * j + 2)).toInt ∧ (xs (6 * j + 2)).toInt ≤ 2) (0 < tc) (0 ≤ (xs (6 * j + 1)).toInt ∧ (xs (6 * j + 1)).toInt ≤ 2000) (ok_cv tc X (xs (6 * j + 1)))).toInt = (kd4 (0 ≤ (xs (6 * j + 2)).toInt ∧ (xs (6 * j + 2)).toInt ≤ 2) (0 < tc) (0 ≤ (xs (6 * j + 1)).toInt ∧ (xs (6 * j + 1)).toInt ≤ 2000) (ok_cv tc X (xs (6 * j + 1)))).toInt := fun q9 => c755 ((Int32.toInt_inj.symm).mpr q9)
      exact absurd rfl c755
  · -- refused
    rw [ht] at hP1
    obtain ⟨hP, hD⟩ := va_join (wr := (wM m9 b1 b2 b3 b4 b5 b6 cI S F D J X Y th n ar sl hd hu hw im tc ck up dn)) (w1 := (wXO x a1 a2 a3 a4 cI S F X Y n ar sl mu ml ck im ds js ps ss tc o cJ O)) hP hD [0, 1, 2, 3, 4, 5] [6, 7, 8, 9, 10, 11, 12] rfl rfl (by decide) (by decide) hk1 hFc hP1 hD1
    have hP : va_P (dC, dI) vwCl ((wXO x a1 a2 a3 a4 cI S F X Y n ar sl mu ml ck im ds js ps ss tc o cJ O) ++ (wM m9 b1 b2 b3 b4 b5 b6 cI S F D J X Y th n ar sl hd hu hw im tc ck up dn)) H1 := hP.sub [7, 8, 9, 10, 11, 12, 0, 1, 2, 3, 4, 5, 6] rfl
    have hD : va_D (fun q : Nat => s.heap.size ≤ q) ((wXO x a1 a2 a3 a4 cI S F X Y n ar sl mu ml ck im ds js ps ss tc o cJ O) ++ (wM m9 b1 b2 b3 b4 b5 b6 cI S F D J X Y th n ar sl hd hu hw im tc ck up dn)) := hD.sub [7, 8, 9, 10, 11, 12, 0, 1, 2, 3, 4, 5, 6] (by decide) rfl
    generalize H1 = H at hP hS ⊢
    refine lv_istore (lv' := [(5, .int (kd4 (0 ≤ (xs (6 * j + 2)).toInt ∧ (xs (6 * j + 2)).toInt ≤ 2) (0 < tc) (0 ≤ (xs (6 * j + 1)).toInt ∧ (xs (6 * j + 1)).toInt ≤ 2000) (ok_cv tc X (xs (6 * j + 1))))), (0, .ref b), (1, .ref x), (2, .ref m9), (3, .ref o), (4, .int (nI (6 * j)))]) hx hb dL_law_729 hl (by decide) rfl (fun ls hl => ?_)
    refine lv_aload_n hx hb dL_law_731 rfl (lv_at hl 3 rfl) ?_
    refine lv_aload_n hx hb dL_law_732 rfl (lv_at hl 1 rfl) ?_
    refine lv_iload hx hb dL_law_733 (lv_at hl 5 rfl) ?_
    refine lv_iconst (v := 1) hx hb dL_law_735 (by decide) ?_
    refine lv_iadd hx hb dL_law_736 ?_
    refine W.eq (congrArg (fun z => F0 m 737 ls (.int z :: [.ref b, .ref m9])) (show nI (6 * j) + 1 = nI (6 * j + 1) from nI_add (6 * j) 1)) ?_
    refine va_sld hx hb hX hbl hbA hS (vp_in_nI (show 6 * j + 1 < L by omega) (by omega)) dL_law_737 ?_
    refine W.eq (congrArg (fun z => F0 m 738 ls (.int z :: [.ref m9])) (congrArg xs (nI_clamp (show 6 * j + 1 < 2 ^ 31 by omega)))) ?_
    refine lv_aload_n hx hb dL_law_738 rfl (lv_at hl 1 rfl) ?_
    refine lv_iload hx hb dL_law_739 (lv_at hl 5 rfl) ?_
    refine lv_iconst (v := 2) hx hb dL_law_741 (by decide) ?_
    refine lv_iadd hx hb dL_law_742 ?_
    refine W.eq (congrArg (fun z => F0 m 743 ls (.int z :: [.ref b, .int (xs (6 * j + 1)), .ref m9])) (show nI (6 * j) + 2 = nI (6 * j + 2) from nI_add (6 * j) 2)) ?_
    refine va_sld hx hb hX hbl hbA hS (vp_in_nI (show 6 * j + 2 < L by omega) (by omega)) dL_law_743 ?_
    refine W.eq (congrArg (fun z => F0 m 744 ls (.int z :: [.int (xs (6 * j + 1)), .ref m9])) (congrArg xs (nI_clamp (show 6 * j + 2 < 2 ^ 31 by omega)))) ?_
    have hPc := hP.sub (ws' := (wM m9 b1 b2 b3 b4 b5 b6 cI S F D J X Y th n ar sl hd hu hw im tc ck up dn)) [6, 7, 8, 9, 10, 11, 12] rfl
    have hDc := hD.sub (ws' := (wM m9 b1 b2 b3 b4 b5 b6 cI S F D J X Y th n ar sl hd hu hw im tc ck up dn)) [6, 7, 8, 9, 10, 11, 12] (by decide) rfl
    have hKc := hK.sub (tys' := [(cI, .int)]) [0] rfl
    have hFc := va_free (wc := (wM m9 b1 b2 b3 b4 b5 b6 cI S F D J X Y th n ar sl hd hu hw im tc ck up dn)) hD hS hA [6, 7, 8, 9, 10, 11, 12] rfl
    refine va_calli (va_runV (As := [.int (xs (6 * j + 1)), .int (xs (6 * j + 2))]) (rest := []) ⟨hx, hb, hml, hown, hts⟩ (c_X1_convert l dC dI H.size m9 b1 b2 b3 b4 b5 b6 cI S F D J X Y th n ar sl hd hu hw im tc ck up dn (xs (6 * j + 1)) (xs (6 * j + 2)) htc hrt hXb hYb) (cwV 2 hts (gV0 wl_L_103 wi_X1_convert wv_X1_convert wi_X1 wc_X1_convert) rfl rfl rfl (by decide +kernel) ⟨Nat.le_of_ble_eq_true rfl, Nat.le_of_ble_eq_true rfl⟩) ⟨fun a U g mk q => ⟨q.1, q.2.1, q.2.2.1, va_K.moved (u := U) (U := U.calling g mk a) (Vm.Alike.refl U.vm) q.2.2.2.1, q.2.2.2.2⟩, va_recv hKc hPc (ci := 1) (q0 := 0) rfl rfl, fun U hU hW => ⟨rfl, by rw [hU], by rw [hU]; exact hPc, va_K.moved hW.alike hKc, hDc.weaken (fun _ _ _ _ => trivial)⟩⟩ rfl rfl hl.1 rfl (lv_room (Nat.le_of_ble_eq_true rfl)) dL_law_744 ⟨by show 13 + 2 * j + 2 + 0 ≤ 1064; omega, by show 243 + 12 * j + 12 + 0 ≤ 8597; omega⟩) hS (fun q _ h => hFc q h) hFc (fun r744 v744 t H1 locs ht hvm h744 hB hz1 hk1 hS => ?_)
    obtain ⟨hP1, hK1, hD1⟩ := hB
    rw [ht] at hP1
    obtain ⟨hP, hD⟩ := va_join (wr := (wXO x a1 a2 a3 a4 cI S F X Y n ar sl mu ml ck im ds js ps ss tc o cJ O)) (w1 := (wM m9 b1 b2 b3 b4 b5 b6 cI S F D J X Y (kd4 (0 ≤ (xs (6 * j + 2)).toInt ∧ (xs (6 * j + 2)).toInt ≤ 2) (0 < tc) (0 ≤ (xs (6 * j + 1)).toInt ∧ (xs (6 * j + 1)).toInt ≤ 2000) (ok_cv tc X (xs (6 * j + 1)))) n ar sl hd hu hw im tc ck up dn)) hP hD [6, 7, 8, 9, 10, 11, 12] [0, 1, 2, 3, 4, 5] rfl rfl (by decide) (by decide) hk1 hFc hP1 hD1
    generalize H1 = H at hP hS ⊢
    have hP : va_P (dC, dI) vwCl ((wXO x a1 a2 a3 a4 cI S F X Y n ar sl mu ml ck im ds js ps ss tc o cJ O) ++ (wM m9 b1 b2 b3 b4 b5 b6 cI S F D J X Y (kd4 (0 ≤ (xs (6 * j + 2)).toInt ∧ (xs (6 * j + 2)).toInt ≤ 2) (0 < tc) (0 ≤ (xs (6 * j + 1)).toInt ∧ (xs (6 * j + 1)).toInt ≤ 2000) (ok_cv tc X (xs (6 * j + 1)))) n ar sl hd hu hw im tc ck up dn)) H := hP
    have hD : va_D (fun q : Nat => s.heap.size ≤ q) ((wXO x a1 a2 a3 a4 cI S F X Y n ar sl mu ml ck im ds js ps ss tc o cJ O) ++ (wM m9 b1 b2 b3 b4 b5 b6 cI S F D J X Y (kd4 (0 ≤ (xs (6 * j + 2)).toInt ∧ (xs (6 * j + 2)).toInt ≤ 2) (0 < tc) (0 ≤ (xs (6 * j + 1)).toInt ∧ (xs (6 * j + 1)).toInt ≤ 2000) (ok_cv tc X (xs (6 * j + 1)))) n ar sl hd hu hw im tc ck up dn)) := hD
    refine lv_istore (lv' := [(6, .int r744), (5, .int (kd4 (0 ≤ (xs (6 * j + 2)).toInt ∧ (xs (6 * j + 2)).toInt ≤ 2) (0 < tc) (0 ≤ (xs (6 * j + 1)).toInt ∧ (xs (6 * j + 1)).toInt ≤ 2000) (ok_cv tc X (xs (6 * j + 1))))), (0, .ref b), (1, .ref x), (2, .ref m9), (3, .ref o), (4, .int (nI (6 * j)))]) hx hb dL_law_747 hl (by decide) rfl (fun ls hl => ?_)
    refine lv_aload_n hx hb dL_law_749 rfl (lv_at hl 4 rfl) ?_
    have hPc := hP.sub (ws' := (wM m9 b1 b2 b3 b4 b5 b6 cI S F D J X Y (kd4 (0 ≤ (xs (6 * j + 2)).toInt ∧ (xs (6 * j + 2)).toInt ≤ 2) (0 < tc) (0 ≤ (xs (6 * j + 1)).toInt ∧ (xs (6 * j + 1)).toInt ≤ 2000) (ok_cv tc X (xs (6 * j + 1)))) n ar sl hd hu hw im tc ck up dn)) [6, 7, 8, 9, 10, 11, 12] rfl
    have hDc := hD.sub (ws' := (wM m9 b1 b2 b3 b4 b5 b6 cI S F D J X Y (kd4 (0 ≤ (xs (6 * j + 2)).toInt ∧ (xs (6 * j + 2)).toInt ≤ 2) (0 < tc) (0 ≤ (xs (6 * j + 1)).toInt ∧ (xs (6 * j + 1)).toInt ≤ 2000) (ok_cv tc X (xs (6 * j + 1)))) n ar sl hd hu hw im tc ck up dn)) [6, 7, 8, 9, 10, 11, 12] (by decide) rfl
    have hKc := hK.sub (tys' := [(cI, .int)]) [0] rfl
    refine vp_callSi (W.runV (As := []) (rest := []) ⟨hx, hb, hml, hown, hts⟩ (c_X1_thrown l dC dI m9 b1 b2 b3 b4 b5 b6 cI S F D J X Y (kd4 (0 ≤ (xs (6 * j + 2)).toInt ∧ (xs (6 * j + 2)).toInt ≤ 2) (0 < tc) (0 ≤ (xs (6 * j + 1)).toInt ∧ (xs (6 * j + 1)).toInt ≤ 2000) (ok_cv tc X (xs (6 * j + 1)))) n ar sl hd hu hw im tc ck up dn) (cwV 0 hts (gV0 wl_L_70 wi_X1_thrown wv_X1_thrown wi_X1 wc_X1_thrown) rfl rfl rfl (by decide +kernel) ⟨Nat.le_of_ble_eq_true rfl, Nat.le_of_ble_eq_true rfl⟩) ⟨fun a U g mk q => ⟨q.1, q.2.1, va_K.moved (u := U) (U := U.calling g mk a) (Vm.Alike.refl U.vm) q.2.2⟩, va_recv hKc hPc (ci := 1) (q0 := 0) rfl rfl, fun U hU hW => ⟨rfl, by rw [hU]; exact hPc, va_K.moved hW.alike hKc⟩⟩ rfl rfl hl.1 rfl (lv_room (Nat.le_of_ble_eq_true rfl)) dL_law_750 ⟨by show 13 + 2 * j + 2 + 0 + 0 ≤ 1064; omega, by show 243 + 12 * j + 12 + 0 + 0 ≤ 8597; omega⟩) (fun r750 h750 => ?_)
    subst h750
    refine lv_iload hx hb dL_law_753 (lv_at hl 1 rfl) ?_
    refine lv_icmp_eq (tgt := 760) hx hb dL_law_755 (by decide) (fun c755 => ?_) (fun c755 => ?_)
    · -- taken at 755
      have c755 : (kd4 (0 ≤ (xs (6 * j + 2)).toInt ∧ (xs (6 * j + 2)).toInt ≤ 2) (0 < tc) (0 ≤ (xs (6 * j + 1)).toInt ∧ (xs (6 * j + 1)).toInt ≤ 2000) (ok_cv tc X (xs (6 * j + 1)))).toInt = (kd4 (0 ≤ (xs (6 * j + 2)).toInt ∧ (xs (6 * j + 2)).toInt ≤ 2) (0 < tc) (0 ≤ (xs (6 * j + 1)).toInt ∧ (xs (6 * j + 1)).toInt ≤ 2000) (ok_cv tc X (xs (6 * j + 1)))).toInt := (Int32.toInt_inj.symm).mp c755
      refine lv_iload hx hb dL_law_760 (lv_at hl 1 rfl) ?_
      refine lv_if_ne (tgt := 777) hx hb dL_law_762 (by decide) (fun c762 => ?_) (fun c762 => ?_)
      · -- taken at 762
        refine lv_goto (tgt := 1022) hx hb dL_law_777 (by decide) ?_
        refine W.widen (k := 13 + 2 * (j + 1)) (n := 243 + 12 * (j + 1)) (by omega) (by omega) ?_
        exact hN S F X Y D J n im tc ar sl ck mu ml ds js ps ss O (kd4 (0 ≤ (xs (6 * j + 2)).toInt ∧ (xs (6 * j + 2)).toInt ≤ 2) (0 < tc) (0 ≤ (xs (6 * j + 1)).toInt ∧ (xs (6 * j + 1)).toInt ≤ 2000) (ok_cv tc X (xs (6 * j + 1)))) hd hu hw up dn H locs ls (hli) hP hD hS (lv_sub hl [2, 3, 4, 5, 6] rfl)
      · -- not taken at 762
        exact absurd c762 hk
    · -- not taken at 755
      have c755 : ¬ (kd4 (0 ≤ (xs (6 * j + 2)).toInt ∧ (xs (6 * j + 2)).toInt ≤ 2) (0 < tc) (0 ≤ (xs (6 * j + 1)).toInt ∧ (xs (6 * j + 1)).toInt ≤ 2000) (ok_cv tc X (xs (6 * j + 1)))).toInt = (kd4 (0 ≤ (xs (6 * j + 2)).toInt ∧ (xs (6 * j + 2)).toInt ≤ 2) (0 < tc) (0 ≤ (xs (6 * j + 1)).toInt ∧ (xs (6 * j + 1)).toInt ≤ 2000) (ok_cv tc X (xs (6 * j + 1)))).toInt := fun q9 => c755 ((Int32.toInt_inj.symm).mpr q9)
      exact absurd rfl c755
