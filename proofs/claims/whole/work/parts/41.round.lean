set_option maxHeartbeats 8000000 in
set_option maxRecDepth 100000 in
theorem law_round {p : Program} {l : Launch} {e : Env} {s : State} {m : MethodId} {below : List Frame} {meth : Method} {c : Code} {dC : Nat → ClassId} {dI : Nat → Nat → Nat} {b L : Nat} {xs : Nat → Int32} {sa : Nat → Nat} {x a1 a2 a3 a4 o m9 b1 b2 b3 b4 b5 b6 : Nat} {cI cJ : ClassId} (hst : l.stackTraces = false) (hL : L ≤ 3072) (C0 : lw_At p s m meth c b L xs) (hG : gl_ok s.heap.size sa s) (hK : va_K (dC, dI) vwCl [(cI, .int), (cJ, .long)] s) (j : Nat) (h6 : 6 * j + 6 ≤ L) (hN : LN p l e s m below meth c dC dI b x a1 a2 a3 a4 o m9 b1 b2 b3 b4 b5 b6 cI cJ j) (S F X Y D J : Nat → Int32) (n im tc : Nat) (ar sl ck : Int32) (mu ml ds js ps ss : Int64) (O : Nat → Int64) (th hd : Int32) (hu hw up dn : Int64) (H : Heap) (locs : List Loc) (ls : Array Slot) (hli : li S F D J X Y n im tc ar sl ck mu ml ds js ps ss hd hu hw) (hP : va_P (dC, dI) vwCl ((wXO x a1 a2 a3 a4 cI S F X Y n ar sl mu ml ck im ds js ps ss tc o cJ O) ++ (wM m9 b1 b2 b3 b4 b5 b6 cI S F D J X Y th n ar sl hd hu hw im tc ck up dn)) H) (hD : va_D (fun q : Nat => s.heap.size ≤ q) ((wXO x a1 a2 a3 a4 cI S F X Y n ar sl mu ml ck im ds js ps ss tc o cJ O) ++ (wM m9 b1 b2 b3 b4 b5 b6 cI S F D J X Y th n ar sl hd hu hw im tc ck up dn))) (hS : va_S (fun q : Nat => s.heap.size ≤ q) s.heap H locs) (hl : lv_has ls 8 [(0, .ref b), (1, .ref x), (2, .ref m9), (3, .ref o), (4, .int (nI (6 * j)))]) : W p l e room_1 s m #[Value.ref b] below meth c H locs (13 + 2 * j) (243 + 12 * j) (lw_Z below #[Value.ref b] s) (F0 m 780 ls []) := by
  obtain ⟨hx, hb, hr, hml, hown, hts, hX, hbl, hlocks, hgv⟩ := id C0
  have hA : ∀ q : Nat, s.heap.size ≤ q → (fun q : Nat => s.heap.size ≤ q) q := fun _ h => h
  have hbA : ¬ (fun q : Nat => s.heap.size ≤ q) b := Nat.not_le.mpr hbl
  obtain ⟨⟨hn, hrs, hSb, hFb⟩, ⟨har, hsl, hck⟩, hmr, ⟨htc, hrt, hXb, hYb⟩, him, hDb, hJb, hfs⟩ := id hli
  obtain ⟨hhd, hhm, hH, hM⟩ := mr_b hmr
  have k104 := hts _ (tb wl_L_104)
  refine lv_aload_n hx hb dL_law_780 rfl (lv_at hl 1 rfl) ?_
  refine lv_aload_n hx hb dL_law_781 rfl (lv_at hl 0 rfl) ?_
  refine lv_iload hx hb dL_law_782 (lv_at hl 4 rfl) ?_
  refine lv_iconst (v := 1) hx hb dL_law_784 (by decide) ?_
  refine lv_iadd hx hb dL_law_785 ?_
  refine W.eq (congrArg (fun z => F0 m 786 ls (.int z :: [.ref b, .ref x])) (show nI (6 * j) + 1 = nI (6 * j + 1) from nI_add (6 * j) 1)) ?_
  refine va_sld hx hb hX hbl hbA hS (vp_in_nI (show 6 * j + 1 < L by omega) (by omega)) dL_law_786 ?_
  refine W.eq (congrArg (fun z => F0 m 787 ls (.int z :: [.ref x])) (congrArg xs (nI_clamp (show 6 * j + 1 < 2 ^ 31 by omega)))) ?_
  refine lv_i2l hx hb dL_law_787 rfl ?_
  refine lv_bipush (v := 32) hx hb dL_law_788 (by decide) ?_
  refine lv_lshl hx hb dL_law_790 rfl ?_
  refine lv_aload_n hx hb dL_law_791 rfl (lv_at hl 0 rfl) ?_
  refine lv_iload hx hb dL_law_792 (lv_at hl 4 rfl) ?_
  refine lv_iconst (v := 2) hx hb dL_law_794 (by decide) ?_
  refine lv_iadd hx hb dL_law_795 ?_
  refine W.eq (congrArg (fun z => F0 m 796 ls (.int z :: [.ref b, .long (((xs (6 * j + 1)).toInt64) <<< ((32 : Int32).toInt64 &&& 63)), .ref x])) (show nI (6 * j) + 2 = nI (6 * j + 2) from nI_add (6 * j) 2)) ?_
  refine va_sld hx hb hX hbl hbA hS (vp_in_nI (show 6 * j + 2 < L by omega) (by omega)) dL_law_796 ?_
  refine W.eq (congrArg (fun z => F0 m 797 ls (.int z :: [.long (((xs (6 * j + 1)).toInt64) <<< ((32 : Int32).toInt64 &&& 63)), .ref x])) (congrArg xs (nI_clamp (show 6 * j + 2 < 2 ^ 31 by omega)))) ?_
  refine lv_i2l hx hb dL_law_797 rfl ?_
  refine lv_ldc2 (v := 4294967295) hx hb hown k104 dL_law_798 ?_
  refine lv_land hx hb dL_law_801 ?_
  refine lv_lor hx hb dL_law_802 ?_
  refine lv_aload_n hx hb dL_law_803 rfl (lv_at hl 0 rfl) ?_
  refine lv_iload hx hb dL_law_804 (lv_at hl 4 rfl) ?_
  refine lv_iconst (v := 3) hx hb dL_law_806 (by decide) ?_
  refine lv_iadd hx hb dL_law_807 ?_
  refine W.eq (congrArg (fun z => F0 m 808 ls (.int z :: [.ref b, .long ((((xs (6 * j + 1)).toInt64) <<< ((32 : Int32).toInt64 &&& 63)) ||| (((xs (6 * j + 2)).toInt64) &&& 4294967295)), .ref x])) (show nI (6 * j) + 3 = nI (6 * j + 3) from nI_add (6 * j) 3)) ?_
  refine va_sld hx hb hX hbl hbA hS (vp_in_nI (show 6 * j + 3 < L by omega) (by omega)) dL_law_808 ?_
  refine W.eq (congrArg (fun z => F0 m 809 ls (.int z :: [.long ((((xs (6 * j + 1)).toInt64) <<< ((32 : Int32).toInt64 &&& 63)) ||| (((xs (6 * j + 2)).toInt64) &&& 4294967295)), .ref x])) (congrArg xs (nI_clamp (show 6 * j + 3 < 2 ^ 31 by omega)))) ?_
  refine lv_i2l hx hb dL_law_809 rfl ?_
  refine lv_bipush (v := 32) hx hb dL_law_810 (by decide) ?_
  refine lv_lshl hx hb dL_law_812 rfl ?_
  refine lv_aload_n hx hb dL_law_813 rfl (lv_at hl 0 rfl) ?_
  refine lv_iload hx hb dL_law_814 (lv_at hl 4 rfl) ?_
  refine lv_iconst (v := 4) hx hb dL_law_816 (by decide) ?_
  refine lv_iadd hx hb dL_law_817 ?_
  refine W.eq (congrArg (fun z => F0 m 818 ls (.int z :: [.ref b, .long (((xs (6 * j + 3)).toInt64) <<< ((32 : Int32).toInt64 &&& 63)), .long ((((xs (6 * j + 1)).toInt64) <<< ((32 : Int32).toInt64 &&& 63)) ||| (((xs (6 * j + 2)).toInt64) &&& 4294967295)), .ref x])) (show nI (6 * j) + 4 = nI (6 * j + 4) from nI_add (6 * j) 4)) ?_
  refine va_sld hx hb hX hbl hbA hS (vp_in_nI (show 6 * j + 4 < L by omega) (by omega)) dL_law_818 ?_
  refine W.eq (congrArg (fun z => F0 m 819 ls (.int z :: [.long (((xs (6 * j + 3)).toInt64) <<< ((32 : Int32).toInt64 &&& 63)), .long ((((xs (6 * j + 1)).toInt64) <<< ((32 : Int32).toInt64 &&& 63)) ||| (((xs (6 * j + 2)).toInt64) &&& 4294967295)), .ref x])) (congrArg xs (nI_clamp (show 6 * j + 4 < 2 ^ 31 by omega)))) ?_
  refine lv_i2l hx hb dL_law_819 rfl ?_
  refine lv_ldc2 (v := 4294967295) hx hb hown k104 dL_law_820 ?_
  refine lv_land hx hb dL_law_823 ?_
  refine lv_lor hx hb dL_law_824 ?_
  refine lv_aload_n hx hb dL_law_825 rfl (lv_at hl 0 rfl) ?_
  refine lv_iload hx hb dL_law_826 (lv_at hl 4 rfl) ?_
  refine lv_iconst (v := 5) hx hb dL_law_828 (by decide) ?_
  refine lv_iadd hx hb dL_law_829 ?_
  refine W.eq (congrArg (fun z => F0 m 830 ls (.int z :: [.ref b, .long ((((xs (6 * j + 3)).toInt64) <<< ((32 : Int32).toInt64 &&& 63)) ||| (((xs (6 * j + 4)).toInt64) &&& 4294967295)), .long ((((xs (6 * j + 1)).toInt64) <<< ((32 : Int32).toInt64 &&& 63)) ||| (((xs (6 * j + 2)).toInt64) &&& 4294967295)), .ref x])) (show nI (6 * j) + 5 = nI (6 * j + 5) from nI_add (6 * j) 5)) ?_
  refine va_sld hx hb hX hbl hbA hS (vp_in_nI (show 6 * j + 5 < L by omega) (by omega)) dL_law_830 ?_
  refine W.eq (congrArg (fun z => F0 m 831 ls (.int z :: [.long ((((xs (6 * j + 3)).toInt64) <<< ((32 : Int32).toInt64 &&& 63)) ||| (((xs (6 * j + 4)).toInt64) &&& 4294967295)), .long ((((xs (6 * j + 1)).toInt64) <<< ((32 : Int32).toInt64 &&& 63)) ||| (((xs (6 * j + 2)).toInt64) &&& 4294967295)), .ref x])) (congrArg xs (nI_clamp (show 6 * j + 5 < 2 ^ 31 by omega)))) ?_
  refine lv_aload_n hx hb dL_law_831 rfl (lv_at hl 3 rfl) ?_
  have hPc := hP.sub (ws' := (wXO x a1 a2 a3 a4 cI S F X Y n ar sl mu ml ck im ds js ps ss tc o cJ O)) [0, 1, 2, 3, 4, 5] rfl
  have hDc := hD.sub (ws' := (wXO x a1 a2 a3 a4 cI S F X Y n ar sl mu ml ck im ds js ps ss tc o cJ O)) [0, 1, 2, 3, 4, 5] (by decide) rfl
  have hFc := va_free (wc := (wXO x a1 a2 a3 a4 cI S F X Y n ar sl mu ml ck im ds js ps ss tc o cJ O)) hD hS hA [0, 1, 2, 3, 4, 5] rfl
  obtain ⟨Y1, hY1⟩ : ∃ z, z = (((xs (6 * j + 1)).toInt64) <<< ((32 : Int32).toInt64 &&& 63)) ||| (((xs (6 * j + 2)).toInt64) &&& 4294967295) := ⟨_, rfl⟩
  obtain ⟨Y2, hY2⟩ : ∃ z, z = (((xs (6 * j + 3)).toInt64) <<< ((32 : Int32).toInt64 &&& 63)) ||| (((xs (6 * j + 4)).toInt64) &&& 4294967295) := ⟨_, rfl⟩
  rw [← hY1, ← hY2]
  refine va_calli (vx_runSW (As := [.ref x, .long Y1, .long Y2, .int (xs (6 * j + 5)), .ref o]) (rest := []) ⟨hx, hb, hml, hown, hts⟩ (c_L_round l hst dC dI s.heap.size sa H.size hS.1 x a1 a2 a3 a4 cI S F X Y n ar sl mu ml ck im ds js ps ss tc o cJ O Y1 Y2 (xs (6 * j + 5)) ) (vx_cwSW 5 hts (gS0 wl_L_106 ws_L_round wi_L wc_L_round) rfl rfl rfl (by decide +kernel) ⟨Nat.le_of_ble_eq_true rfl, Nat.le_of_ble_eq_true rfl⟩) ⟨fun a U g mk q => ⟨q.1, q.2.1, q.2.2.1, va_K.moved (u := U) (U := U.calling g mk a) (Vm.Alike.refl U.vm) q.2.2.2.1, q.2.2.2.2.1, gl_blind q.2.2.2.2.2⟩, fun U hU hW => ⟨rfl, by rw [hU], by rw [hU]; exact hPc, va_K.moved hW.alike hK, hDc, gl_moved hG hS (fun _ h => h) hU hW⟩⟩ rfl rfl hl.1 rfl (lv_room (Nat.le_of_ble_eq_true rfl)) dL_law_832 ⟨by show 13 + 2 * j + 2 ≤ 1064; omega, by show 243 + 12 * j + 12 ≤ 8597; omega⟩) hS (fun q _ h => hFc q h) hFc (fun r832 u832 t H1 locs ht hvm h832 hB hz1 hk1 hS => ?_)
  obtain ⟨hkr, ha1⟩ := h832
  subst hkr
  rcases hB with ⟨hk, hP1, hK1, hD1⟩ | ⟨hk, hP1, hK1, hD1⟩
  · -- answered
    rw [ht] at hP1
    obtain ⟨hP, hD⟩ := va_join (wr := (wM m9 b1 b2 b3 b4 b5 b6 cI S F D J X Y th n ar sl hd hu hw im tc ck up dn)) (w1 := (wXO x a1 a2 a3 a4 cI S F X Y n ar sl mu ml ck im ds js ps ss tc o cJ (vp_updL O 0 u832))) hP hD [0, 1, 2, 3, 4, 5] [6, 7, 8, 9, 10, 11, 12] rfl rfl (by decide) (by decide) hk1 hFc hP1 hD1
    have hP : va_P (dC, dI) vwCl ((wXO x a1 a2 a3 a4 cI S F X Y n ar sl mu ml ck im ds js ps ss tc o cJ (vp_updL O 0 u832)) ++ (wM m9 b1 b2 b3 b4 b5 b6 cI S F D J X Y th n ar sl hd hu hw im tc ck up dn)) H1 := hP.sub [7, 8, 9, 10, 11, 12, 0, 1, 2, 3, 4, 5, 6] rfl
    have hD : va_D (fun q : Nat => s.heap.size ≤ q) ((wXO x a1 a2 a3 a4 cI S F X Y n ar sl mu ml ck im ds js ps ss tc o cJ (vp_updL O 0 u832)) ++ (wM m9 b1 b2 b3 b4 b5 b6 cI S F D J X Y th n ar sl hd hu hw im tc ck up dn)) := hD.sub [7, 8, 9, 10, 11, 12, 0, 1, 2, 3, 4, 5, 6] (by decide) rfl
    generalize H1 = H at hP hS ⊢
    refine lv_istore (lv' := [(5, .int (kd4 (0 ≤ (xs (6 * j + 5)).toInt ∧ (xs (6 * j + 5)).toInt ≤ 2) (ok_rd Y1 Y2) True True)), (0, .ref b), (1, .ref x), (2, .ref m9), (3, .ref o), (4, .int (nI (6 * j)))]) hx hb dL_law_835 hl (by decide) rfl (fun ls hl => ?_)
    refine lv_aload_n hx hb dL_law_837 rfl (lv_at hl 3 rfl) ?_
    refine lv_aload_n hx hb dL_law_838 rfl (lv_at hl 1 rfl) ?_
    refine lv_iload hx hb dL_law_839 (lv_at hl 5 rfl) ?_
    refine lv_iconst (v := 1) hx hb dL_law_841 (by decide) ?_
    refine lv_iadd hx hb dL_law_842 ?_
    refine W.eq (congrArg (fun z => F0 m 843 ls (.int z :: [.ref b, .ref m9])) (show nI (6 * j) + 1 = nI (6 * j + 1) from nI_add (6 * j) 1)) ?_
    refine va_sld hx hb hX hbl hbA hS (vp_in_nI (show 6 * j + 1 < L by omega) (by omega)) dL_law_843 ?_
    refine W.eq (congrArg (fun z => F0 m 844 ls (.int z :: [.ref m9])) (congrArg xs (nI_clamp (show 6 * j + 1 < 2 ^ 31 by omega)))) ?_
    refine lv_i2l hx hb dL_law_844 rfl ?_
    refine lv_bipush (v := 32) hx hb dL_law_845 (by decide) ?_
    refine lv_lshl hx hb dL_law_847 rfl ?_
    refine lv_aload_n hx hb dL_law_848 rfl (lv_at hl 1 rfl) ?_
    refine lv_iload hx hb dL_law_849 (lv_at hl 5 rfl) ?_
    refine lv_iconst (v := 2) hx hb dL_law_851 (by decide) ?_
    refine lv_iadd hx hb dL_law_852 ?_
    refine W.eq (congrArg (fun z => F0 m 853 ls (.int z :: [.ref b, .long (((xs (6 * j + 1)).toInt64) <<< ((32 : Int32).toInt64 &&& 63)), .ref m9])) (show nI (6 * j) + 2 = nI (6 * j + 2) from nI_add (6 * j) 2)) ?_
    refine va_sld hx hb hX hbl hbA hS (vp_in_nI (show 6 * j + 2 < L by omega) (by omega)) dL_law_853 ?_
    refine W.eq (congrArg (fun z => F0 m 854 ls (.int z :: [.long (((xs (6 * j + 1)).toInt64) <<< ((32 : Int32).toInt64 &&& 63)), .ref m9])) (congrArg xs (nI_clamp (show 6 * j + 2 < 2 ^ 31 by omega)))) ?_
    refine lv_i2l hx hb dL_law_854 rfl ?_
    refine lv_ldc2 (v := 4294967295) hx hb hown k104 dL_law_855 ?_
    refine lv_land hx hb dL_law_858 ?_
    refine lv_lor hx hb dL_law_859 ?_
    refine lv_aload_n hx hb dL_law_860 rfl (lv_at hl 1 rfl) ?_
    refine lv_iload hx hb dL_law_861 (lv_at hl 5 rfl) ?_
    refine lv_iconst (v := 3) hx hb dL_law_863 (by decide) ?_
    refine lv_iadd hx hb dL_law_864 ?_
    refine W.eq (congrArg (fun z => F0 m 865 ls (.int z :: [.ref b, .long ((((xs (6 * j + 1)).toInt64) <<< ((32 : Int32).toInt64 &&& 63)) ||| (((xs (6 * j + 2)).toInt64) &&& 4294967295)), .ref m9])) (show nI (6 * j) + 3 = nI (6 * j + 3) from nI_add (6 * j) 3)) ?_
    refine va_sld hx hb hX hbl hbA hS (vp_in_nI (show 6 * j + 3 < L by omega) (by omega)) dL_law_865 ?_
    refine W.eq (congrArg (fun z => F0 m 866 ls (.int z :: [.long ((((xs (6 * j + 1)).toInt64) <<< ((32 : Int32).toInt64 &&& 63)) ||| (((xs (6 * j + 2)).toInt64) &&& 4294967295)), .ref m9])) (congrArg xs (nI_clamp (show 6 * j + 3 < 2 ^ 31 by omega)))) ?_
    refine lv_i2l hx hb dL_law_866 rfl ?_
    refine lv_bipush (v := 32) hx hb dL_law_867 (by decide) ?_
    refine lv_lshl hx hb dL_law_869 rfl ?_
    refine lv_aload_n hx hb dL_law_870 rfl (lv_at hl 1 rfl) ?_
    refine lv_iload hx hb dL_law_871 (lv_at hl 5 rfl) ?_
    refine lv_iconst (v := 4) hx hb dL_law_873 (by decide) ?_
    refine lv_iadd hx hb dL_law_874 ?_
    refine W.eq (congrArg (fun z => F0 m 875 ls (.int z :: [.ref b, .long (((xs (6 * j + 3)).toInt64) <<< ((32 : Int32).toInt64 &&& 63)), .long ((((xs (6 * j + 1)).toInt64) <<< ((32 : Int32).toInt64 &&& 63)) ||| (((xs (6 * j + 2)).toInt64) &&& 4294967295)), .ref m9])) (show nI (6 * j) + 4 = nI (6 * j + 4) from nI_add (6 * j) 4)) ?_
    refine va_sld hx hb hX hbl hbA hS (vp_in_nI (show 6 * j + 4 < L by omega) (by omega)) dL_law_875 ?_
    refine W.eq (congrArg (fun z => F0 m 876 ls (.int z :: [.long (((xs (6 * j + 3)).toInt64) <<< ((32 : Int32).toInt64 &&& 63)), .long ((((xs (6 * j + 1)).toInt64) <<< ((32 : Int32).toInt64 &&& 63)) ||| (((xs (6 * j + 2)).toInt64) &&& 4294967295)), .ref m9])) (congrArg xs (nI_clamp (show 6 * j + 4 < 2 ^ 31 by omega)))) ?_
    refine lv_i2l hx hb dL_law_876 rfl ?_
    refine lv_ldc2 (v := 4294967295) hx hb hown k104 dL_law_877 ?_
    refine lv_land hx hb dL_law_880 ?_
    refine lv_lor hx hb dL_law_881 ?_
    refine lv_aload_n hx hb dL_law_882 rfl (lv_at hl 1 rfl) ?_
    refine lv_iload hx hb dL_law_883 (lv_at hl 5 rfl) ?_
    refine lv_iconst (v := 5) hx hb dL_law_885 (by decide) ?_
    refine lv_iadd hx hb dL_law_886 ?_
    refine W.eq (congrArg (fun z => F0 m 887 ls (.int z :: [.ref b, .long ((((xs (6 * j + 3)).toInt64) <<< ((32 : Int32).toInt64 &&& 63)) ||| (((xs (6 * j + 4)).toInt64) &&& 4294967295)), .long ((((xs (6 * j + 1)).toInt64) <<< ((32 : Int32).toInt64 &&& 63)) ||| (((xs (6 * j + 2)).toInt64) &&& 4294967295)), .ref m9])) (show nI (6 * j) + 5 = nI (6 * j + 5) from nI_add (6 * j) 5)) ?_
    refine va_sld hx hb hX hbl hbA hS (vp_in_nI (show 6 * j + 5 < L by omega) (by omega)) dL_law_887 ?_
    refine W.eq (congrArg (fun z => F0 m 888 ls (.int z :: [.long ((((xs (6 * j + 3)).toInt64) <<< ((32 : Int32).toInt64 &&& 63)) ||| (((xs (6 * j + 4)).toInt64) &&& 4294967295)), .long ((((xs (6 * j + 1)).toInt64) <<< ((32 : Int32).toInt64 &&& 63)) ||| (((xs (6 * j + 2)).toInt64) &&& 4294967295)), .ref m9])) (congrArg xs (nI_clamp (show 6 * j + 5 < 2 ^ 31 by omega)))) ?_
    have hPc := hP.sub (ws' := (wM m9 b1 b2 b3 b4 b5 b6 cI S F D J X Y th n ar sl hd hu hw im tc ck up dn)) [6, 7, 8, 9, 10, 11, 12] rfl
    have hDc := hD.sub (ws' := (wM m9 b1 b2 b3 b4 b5 b6 cI S F D J X Y th n ar sl hd hu hw im tc ck up dn)) [6, 7, 8, 9, 10, 11, 12] (by decide) rfl
    have hKc := hK.sub (tys' := [(cI, .int)]) [0] rfl
    rw [← hY1, ← hY2]
    have hFc := va_free (wc := (wM m9 b1 b2 b3 b4 b5 b6 cI S F D J X Y th n ar sl hd hu hw im tc ck up dn)) hD hS hA [6, 7, 8, 9, 10, 11, 12] rfl
    refine va_calll (va_runV (As := [.long Y1, .long Y2, .int (xs (6 * j + 5))]) (rest := []) ⟨hx, hb, hml, hown, hts⟩ (c_X1_round l dC dI H.size m9 b1 b2 b3 b4 b5 b6 cI S F D J X Y th n ar sl hd hu hw im tc ck up dn Y1 Y2 (xs (6 * j + 5)) ) (cwV 3 hts (gV0 wl_L_109 wi_X1_round wv_X1_round wi_X1 wc_X1_round) rfl rfl rfl (by decide +kernel) ⟨Nat.le_of_ble_eq_true rfl, Nat.le_of_ble_eq_true rfl⟩) ⟨fun a U g mk q => ⟨q.1, q.2.1, q.2.2.1, va_K.moved (u := U) (U := U.calling g mk a) (Vm.Alike.refl U.vm) q.2.2.2.1, q.2.2.2.2⟩, va_recv hKc hPc (ci := 1) (q0 := 0) rfl rfl, fun U hU hW => ⟨rfl, by rw [hU], by rw [hU]; exact hPc, va_K.moved hW.alike hKc, hDc.weaken (fun _ _ _ _ => trivial)⟩⟩ rfl rfl hl.1 rfl (lv_room (Nat.le_of_ble_eq_true rfl)) dL_law_888 ⟨by show 13 + 2 * j + 2 + 0 ≤ 1064; omega, by show 243 + 12 * j + 12 + 0 ≤ 8597; omega⟩) hS (fun q _ h => hFc q h) hFc (fun r888 v888 t H1 locs ht hvm h888 hB hz1 hk1 hS => ?_)
    obtain ⟨hP1, hK1, hD1⟩ := hB
    rw [ht] at hP1
    obtain ⟨hP, hD⟩ := va_join (wr := (wXO x a1 a2 a3 a4 cI S F X Y n ar sl mu ml ck im ds js ps ss tc o cJ (vp_updL O 0 u832))) (w1 := (wM m9 b1 b2 b3 b4 b5 b6 cI S F D J X Y (kd4 (0 ≤ (xs (6 * j + 5)).toInt ∧ (xs (6 * j + 5)).toInt ≤ 2) (ok_rd Y1 Y2) True True) n ar sl hd hu hw im tc ck up dn)) hP hD [6, 7, 8, 9, 10, 11, 12] [0, 1, 2, 3, 4, 5] rfl rfl (by decide) (by decide) hk1 hFc hP1 hD1
    generalize H1 = H at hP hS ⊢
    have hP : va_P (dC, dI) vwCl ((wXO x a1 a2 a3 a4 cI S F X Y n ar sl mu ml ck im ds js ps ss tc o cJ (vp_updL O 0 u832)) ++ (wM m9 b1 b2 b3 b4 b5 b6 cI S F D J X Y (kd4 (0 ≤ (xs (6 * j + 5)).toInt ∧ (xs (6 * j + 5)).toInt ≤ 2) (ok_rd Y1 Y2) True True) n ar sl hd hu hw im tc ck up dn)) H := hP
    have hD : va_D (fun q : Nat => s.heap.size ≤ q) ((wXO x a1 a2 a3 a4 cI S F X Y n ar sl mu ml ck im ds js ps ss tc o cJ (vp_updL O 0 u832)) ++ (wM m9 b1 b2 b3 b4 b5 b6 cI S F D J X Y (kd4 (0 ≤ (xs (6 * j + 5)).toInt ∧ (xs (6 * j + 5)).toInt ≤ 2) (ok_rd Y1 Y2) True True) n ar sl hd hu hw im tc ck up dn)) := hD
    refine lv_lstore (lv' := [(6, .long r888), (5, .int (kd4 (0 ≤ (xs (6 * j + 5)).toInt ∧ (xs (6 * j + 5)).toInt ≤ 2) (ok_rd Y1 Y2) True True)), (0, .ref b), (1, .ref x), (2, .ref m9), (3, .ref o), (4, .int (nI (6 * j)))]) hx hb dL_law_891 hl (by decide) rfl (fun ls hl => ?_)
    refine lv_aload_n hx hb dL_law_893 rfl (lv_at hl 4 rfl) ?_
    have hPc := hP.sub (ws' := (wM m9 b1 b2 b3 b4 b5 b6 cI S F D J X Y (kd4 (0 ≤ (xs (6 * j + 5)).toInt ∧ (xs (6 * j + 5)).toInt ≤ 2) (ok_rd Y1 Y2) True True) n ar sl hd hu hw im tc ck up dn)) [6, 7, 8, 9, 10, 11, 12] rfl
    have hDc := hD.sub (ws' := (wM m9 b1 b2 b3 b4 b5 b6 cI S F D J X Y (kd4 (0 ≤ (xs (6 * j + 5)).toInt ∧ (xs (6 * j + 5)).toInt ≤ 2) (ok_rd Y1 Y2) True True) n ar sl hd hu hw im tc ck up dn)) [6, 7, 8, 9, 10, 11, 12] (by decide) rfl
    have hKc := hK.sub (tys' := [(cI, .int)]) [0] rfl
    refine vp_callSi (W.runV (As := []) (rest := []) ⟨hx, hb, hml, hown, hts⟩ (c_X1_thrown l dC dI m9 b1 b2 b3 b4 b5 b6 cI S F D J X Y (kd4 (0 ≤ (xs (6 * j + 5)).toInt ∧ (xs (6 * j + 5)).toInt ≤ 2) (ok_rd Y1 Y2) True True) n ar sl hd hu hw im tc ck up dn) (cwV 0 hts (gV0 wl_L_70 wi_X1_thrown wv_X1_thrown wi_X1 wc_X1_thrown) rfl rfl rfl (by decide +kernel) ⟨Nat.le_of_ble_eq_true rfl, Nat.le_of_ble_eq_true rfl⟩) ⟨fun a U g mk q => ⟨q.1, q.2.1, va_K.moved (u := U) (U := U.calling g mk a) (Vm.Alike.refl U.vm) q.2.2⟩, va_recv hKc hPc (ci := 1) (q0 := 0) rfl rfl, fun U hU hW => ⟨rfl, by rw [hU]; exact hPc, va_K.moved hW.alike hKc⟩⟩ rfl rfl hl.1 rfl (lv_room (Nat.le_of_ble_eq_true rfl)) dL_law_894 ⟨by show 13 + 2 * j + 2 + 0 + 0 ≤ 1064; omega, by show 243 + 12 * j + 12 + 0 + 0 ≤ 8597; omega⟩) (fun r894 h894 => ?_)
    subst h894
    refine lv_iload hx hb dL_law_897 (lv_at hl 1 rfl) ?_
    refine lv_icmp_eq (tgt := 904) hx hb dL_law_899 (by decide) (fun c899 => ?_) (fun c899 => ?_)
    · -- taken at 899
      have c899 : (kd4 (0 ≤ (xs (6 * j + 5)).toInt ∧ (xs (6 * j + 5)).toInt ≤ 2) (ok_rd Y1 Y2) True True).toInt = (kd4 (0 ≤ (xs (6 * j + 5)).toInt ∧ (xs (6 * j + 5)).toInt ≤ 2) (ok_rd Y1 Y2) True True).toInt := (Int32.toInt_inj.symm).mp c899
      refine lv_iload hx hb dL_law_904 (lv_at hl 1 rfl) ?_
      refine lv_if_ne (tgt := 920) hx hb dL_law_906 (by decide) (fun c906 => ?_) (fun c906 => ?_)
      · -- taken at 906
        exact absurd hk c906
      · -- not taken at 906
        refine lv_aload_n hx hb dL_law_909 rfl (lv_at hl 5 rfl) ?_
        refine lv_iconst (v := 0) hx hb dL_law_910 (by decide) ?_
        refine va_lald (D := (dC, dI)) hx hb hK hP 5 1 rfl rfl (vp_in_nI (show 0 < 1 by omega) (by decide)) dL_law_911 ?_
        refine W.eq (congrArg (fun z => F0 m 912 ls (.long z :: [])) (show (vp_updL O 0 u832) (0 : Int32).toNatClampNeg = u832 from upL0)) ?_
        refine lv_lload hx hb dL_law_912 (lv_at hl 0 rfl) ?_
        refine W.lcmp hx hb dL_law_914 ?_
        refine lv_if_eq (tgt := 920) hx hb dL_law_915 (by decide) (fun c915 => ?_) (fun c915 => ?_)
        · -- taken at 915
          have c915 := (lg_cmp_eq _ _).mp c915
          have c915 : u832.toInt = r888.toInt := (Int64.toInt_inj.symm).mp c915
          refine lv_goto (tgt := 1022) hx hb dL_law_920 (by decide) ?_
          refine W.widen (k := 13 + 2 * (j + 1)) (n := 243 + 12 * (j + 1)) (by omega) (by omega) ?_
          exact hN S F X Y D J n im tc ar sl ck mu ml ds js ps ss (vp_updL O 0 u832) (kd4 (0 ≤ (xs (6 * j + 5)).toInt ∧ (xs (6 * j + 5)).toInt ≤ 2) (ok_rd Y1 Y2) True True) hd hu hw up dn H locs ls (hli) hP hD hS (lv_sub hl [2, 3, 4, 5, 6] rfl)
        · -- not taken at 915
          have c915 := fun q9 => c915 ((lg_cmp_eq _ _).mpr q9)
          have c915 : ¬ u832.toInt = r888.toInt := fun q9 => c915 ((Int64.toInt_inj.symm).mpr q9)
          exact absurd ((ha1 hk).trans (h888 hk).symm) c915
    · -- not taken at 899
      have c899 : ¬ (kd4 (0 ≤ (xs (6 * j + 5)).toInt ∧ (xs (6 * j + 5)).toInt ≤ 2) (ok_rd Y1 Y2) True True).toInt = (kd4 (0 ≤ (xs (6 * j + 5)).toInt ∧ (xs (6 * j + 5)).toInt ≤ 2) (ok_rd Y1 Y2) True True).toInt := fun q9 => c899 ((Int32.toInt_inj.symm).mpr q9)
      exact absurd rfl c899
  · -- refused
    rw [ht] at hP1
    obtain ⟨hP, hD⟩ := va_join (wr := (wM m9 b1 b2 b3 b4 b5 b6 cI S F D J X Y th n ar sl hd hu hw im tc ck up dn)) (w1 := (wXO x a1 a2 a3 a4 cI S F X Y n ar sl mu ml ck im ds js ps ss tc o cJ O)) hP hD [0, 1, 2, 3, 4, 5] [6, 7, 8, 9, 10, 11, 12] rfl rfl (by decide) (by decide) hk1 hFc hP1 hD1
    have hP : va_P (dC, dI) vwCl ((wXO x a1 a2 a3 a4 cI S F X Y n ar sl mu ml ck im ds js ps ss tc o cJ O) ++ (wM m9 b1 b2 b3 b4 b5 b6 cI S F D J X Y th n ar sl hd hu hw im tc ck up dn)) H1 := hP.sub [7, 8, 9, 10, 11, 12, 0, 1, 2, 3, 4, 5, 6] rfl
    have hD : va_D (fun q : Nat => s.heap.size ≤ q) ((wXO x a1 a2 a3 a4 cI S F X Y n ar sl mu ml ck im ds js ps ss tc o cJ O) ++ (wM m9 b1 b2 b3 b4 b5 b6 cI S F D J X Y th n ar sl hd hu hw im tc ck up dn)) := hD.sub [7, 8, 9, 10, 11, 12, 0, 1, 2, 3, 4, 5, 6] (by decide) rfl
    generalize H1 = H at hP hS ⊢
    refine lv_istore (lv' := [(5, .int (kd4 (0 ≤ (xs (6 * j + 5)).toInt ∧ (xs (6 * j + 5)).toInt ≤ 2) (ok_rd Y1 Y2) True True)), (0, .ref b), (1, .ref x), (2, .ref m9), (3, .ref o), (4, .int (nI (6 * j)))]) hx hb dL_law_835 hl (by decide) rfl (fun ls hl => ?_)
    refine lv_aload_n hx hb dL_law_837 rfl (lv_at hl 3 rfl) ?_
    refine lv_aload_n hx hb dL_law_838 rfl (lv_at hl 1 rfl) ?_
    refine lv_iload hx hb dL_law_839 (lv_at hl 5 rfl) ?_
    refine lv_iconst (v := 1) hx hb dL_law_841 (by decide) ?_
    refine lv_iadd hx hb dL_law_842 ?_
    refine W.eq (congrArg (fun z => F0 m 843 ls (.int z :: [.ref b, .ref m9])) (show nI (6 * j) + 1 = nI (6 * j + 1) from nI_add (6 * j) 1)) ?_
    refine va_sld hx hb hX hbl hbA hS (vp_in_nI (show 6 * j + 1 < L by omega) (by omega)) dL_law_843 ?_
    refine W.eq (congrArg (fun z => F0 m 844 ls (.int z :: [.ref m9])) (congrArg xs (nI_clamp (show 6 * j + 1 < 2 ^ 31 by omega)))) ?_
    refine lv_i2l hx hb dL_law_844 rfl ?_
    refine lv_bipush (v := 32) hx hb dL_law_845 (by decide) ?_
    refine lv_lshl hx hb dL_law_847 rfl ?_
    refine lv_aload_n hx hb dL_law_848 rfl (lv_at hl 1 rfl) ?_
    refine lv_iload hx hb dL_law_849 (lv_at hl 5 rfl) ?_
    refine lv_iconst (v := 2) hx hb dL_law_851 (by decide) ?_
    refine lv_iadd hx hb dL_law_852 ?_
    refine W.eq (congrArg (fun z => F0 m 853 ls (.int z :: [.ref b, .long (((xs (6 * j + 1)).toInt64) <<< ((32 : Int32).toInt64 &&& 63)), .ref m9])) (show nI (6 * j) + 2 = nI (6 * j + 2) from nI_add (6 * j) 2)) ?_
    refine va_sld hx hb hX hbl hbA hS (vp_in_nI (show 6 * j + 2 < L by omega) (by omega)) dL_law_853 ?_
    refine W.eq (congrArg (fun z => F0 m 854 ls (.int z :: [.long (((xs (6 * j + 1)).toInt64) <<< ((32 : Int32).toInt64 &&& 63)), .ref m9])) (congrArg xs (nI_clamp (show 6 * j + 2 < 2 ^ 31 by omega)))) ?_
    refine lv_i2l hx hb dL_law_854 rfl ?_
    refine lv_ldc2 (v := 4294967295) hx hb hown k104 dL_law_855 ?_
    refine lv_land hx hb dL_law_858 ?_
    refine lv_lor hx hb dL_law_859 ?_
    refine lv_aload_n hx hb dL_law_860 rfl (lv_at hl 1 rfl) ?_
    refine lv_iload hx hb dL_law_861 (lv_at hl 5 rfl) ?_
    refine lv_iconst (v := 3) hx hb dL_law_863 (by decide) ?_
    refine lv_iadd hx hb dL_law_864 ?_
    refine W.eq (congrArg (fun z => F0 m 865 ls (.int z :: [.ref b, .long ((((xs (6 * j + 1)).toInt64) <<< ((32 : Int32).toInt64 &&& 63)) ||| (((xs (6 * j + 2)).toInt64) &&& 4294967295)), .ref m9])) (show nI (6 * j) + 3 = nI (6 * j + 3) from nI_add (6 * j) 3)) ?_
    refine va_sld hx hb hX hbl hbA hS (vp_in_nI (show 6 * j + 3 < L by omega) (by omega)) dL_law_865 ?_
    refine W.eq (congrArg (fun z => F0 m 866 ls (.int z :: [.long ((((xs (6 * j + 1)).toInt64) <<< ((32 : Int32).toInt64 &&& 63)) ||| (((xs (6 * j + 2)).toInt64) &&& 4294967295)), .ref m9])) (congrArg xs (nI_clamp (show 6 * j + 3 < 2 ^ 31 by omega)))) ?_
    refine lv_i2l hx hb dL_law_866 rfl ?_
    refine lv_bipush (v := 32) hx hb dL_law_867 (by decide) ?_
    refine lv_lshl hx hb dL_law_869 rfl ?_
    refine lv_aload_n hx hb dL_law_870 rfl (lv_at hl 1 rfl) ?_
    refine lv_iload hx hb dL_law_871 (lv_at hl 5 rfl) ?_
    refine lv_iconst (v := 4) hx hb dL_law_873 (by decide) ?_
    refine lv_iadd hx hb dL_law_874 ?_
    refine W.eq (congrArg (fun z => F0 m 875 ls (.int z :: [.ref b, .long (((xs (6 * j + 3)).toInt64) <<< ((32 : Int32).toInt64 &&& 63)), .long ((((xs (6 * j + 1)).toInt64) <<< ((32 : Int32).toInt64 &&& 63)) ||| (((xs (6 * j + 2)).toInt64) &&& 4294967295)), .ref m9])) (show nI (6 * j) + 4 = nI (6 * j + 4) from nI_add (6 * j) 4)) ?_
    refine va_sld hx hb hX hbl hbA hS (vp_in_nI (show 6 * j + 4 < L by omega) (by omega)) dL_law_875 ?_
    refine W.eq (congrArg (fun z => F0 m 876 ls (.int z :: [.long (((xs (6 * j + 3)).toInt64) <<< ((32 : Int32).toInt64 &&& 63)), .long ((((xs (6 * j + 1)).toInt64) <<< ((32 : Int32).toInt64 &&& 63)) ||| (((xs (6 * j + 2)).toInt64) &&& 4294967295)), .ref m9])) (congrArg xs (nI_clamp (show 6 * j + 4 < 2 ^ 31 by omega)))) ?_
    refine lv_i2l hx hb dL_law_876 rfl ?_
    refine lv_ldc2 (v := 4294967295) hx hb hown k104 dL_law_877 ?_
    refine lv_land hx hb dL_law_880 ?_
    refine lv_lor hx hb dL_law_881 ?_
    refine lv_aload_n hx hb dL_law_882 rfl (lv_at hl 1 rfl) ?_
    refine lv_iload hx hb dL_law_883 (lv_at hl 5 rfl) ?_
    refine lv_iconst (v := 5) hx hb dL_law_885 (by decide) ?_
    refine lv_iadd hx hb dL_law_886 ?_
    refine W.eq (congrArg (fun z => F0 m 887 ls (.int z :: [.ref b, .long ((((xs (6 * j + 3)).toInt64) <<< ((32 : Int32).toInt64 &&& 63)) ||| (((xs (6 * j + 4)).toInt64) &&& 4294967295)), .long ((((xs (6 * j + 1)).toInt64) <<< ((32 : Int32).toInt64 &&& 63)) ||| (((xs (6 * j + 2)).toInt64) &&& 4294967295)), .ref m9])) (show nI (6 * j) + 5 = nI (6 * j + 5) from nI_add (6 * j) 5)) ?_
    refine va_sld hx hb hX hbl hbA hS (vp_in_nI (show 6 * j + 5 < L by omega) (by omega)) dL_law_887 ?_
    refine W.eq (congrArg (fun z => F0 m 888 ls (.int z :: [.long ((((xs (6 * j + 3)).toInt64) <<< ((32 : Int32).toInt64 &&& 63)) ||| (((xs (6 * j + 4)).toInt64) &&& 4294967295)), .long ((((xs (6 * j + 1)).toInt64) <<< ((32 : Int32).toInt64 &&& 63)) ||| (((xs (6 * j + 2)).toInt64) &&& 4294967295)), .ref m9])) (congrArg xs (nI_clamp (show 6 * j + 5 < 2 ^ 31 by omega)))) ?_
    have hPc := hP.sub (ws' := (wM m9 b1 b2 b3 b4 b5 b6 cI S F D J X Y th n ar sl hd hu hw im tc ck up dn)) [6, 7, 8, 9, 10, 11, 12] rfl
    have hDc := hD.sub (ws' := (wM m9 b1 b2 b3 b4 b5 b6 cI S F D J X Y th n ar sl hd hu hw im tc ck up dn)) [6, 7, 8, 9, 10, 11, 12] (by decide) rfl
    have hKc := hK.sub (tys' := [(cI, .int)]) [0] rfl
    rw [← hY1, ← hY2]
    have hFc := va_free (wc := (wM m9 b1 b2 b3 b4 b5 b6 cI S F D J X Y th n ar sl hd hu hw im tc ck up dn)) hD hS hA [6, 7, 8, 9, 10, 11, 12] rfl
    refine va_calll (va_runV (As := [.long Y1, .long Y2, .int (xs (6 * j + 5))]) (rest := []) ⟨hx, hb, hml, hown, hts⟩ (c_X1_round l dC dI H.size m9 b1 b2 b3 b4 b5 b6 cI S F D J X Y th n ar sl hd hu hw im tc ck up dn Y1 Y2 (xs (6 * j + 5)) ) (cwV 3 hts (gV0 wl_L_109 wi_X1_round wv_X1_round wi_X1 wc_X1_round) rfl rfl rfl (by decide +kernel) ⟨Nat.le_of_ble_eq_true rfl, Nat.le_of_ble_eq_true rfl⟩) ⟨fun a U g mk q => ⟨q.1, q.2.1, q.2.2.1, va_K.moved (u := U) (U := U.calling g mk a) (Vm.Alike.refl U.vm) q.2.2.2.1, q.2.2.2.2⟩, va_recv hKc hPc (ci := 1) (q0 := 0) rfl rfl, fun U hU hW => ⟨rfl, by rw [hU], by rw [hU]; exact hPc, va_K.moved hW.alike hKc, hDc.weaken (fun _ _ _ _ => trivial)⟩⟩ rfl rfl hl.1 rfl (lv_room (Nat.le_of_ble_eq_true rfl)) dL_law_888 ⟨by show 13 + 2 * j + 2 + 0 ≤ 1064; omega, by show 243 + 12 * j + 12 + 0 ≤ 8597; omega⟩) hS (fun q _ h => hFc q h) hFc (fun r888 v888 t H1 locs ht hvm h888 hB hz1 hk1 hS => ?_)
    obtain ⟨hP1, hK1, hD1⟩ := hB
    rw [ht] at hP1
    obtain ⟨hP, hD⟩ := va_join (wr := (wXO x a1 a2 a3 a4 cI S F X Y n ar sl mu ml ck im ds js ps ss tc o cJ O)) (w1 := (wM m9 b1 b2 b3 b4 b5 b6 cI S F D J X Y (kd4 (0 ≤ (xs (6 * j + 5)).toInt ∧ (xs (6 * j + 5)).toInt ≤ 2) (ok_rd Y1 Y2) True True) n ar sl hd hu hw im tc ck up dn)) hP hD [6, 7, 8, 9, 10, 11, 12] [0, 1, 2, 3, 4, 5] rfl rfl (by decide) (by decide) hk1 hFc hP1 hD1
    generalize H1 = H at hP hS ⊢
    have hP : va_P (dC, dI) vwCl ((wXO x a1 a2 a3 a4 cI S F X Y n ar sl mu ml ck im ds js ps ss tc o cJ O) ++ (wM m9 b1 b2 b3 b4 b5 b6 cI S F D J X Y (kd4 (0 ≤ (xs (6 * j + 5)).toInt ∧ (xs (6 * j + 5)).toInt ≤ 2) (ok_rd Y1 Y2) True True) n ar sl hd hu hw im tc ck up dn)) H := hP
    have hD : va_D (fun q : Nat => s.heap.size ≤ q) ((wXO x a1 a2 a3 a4 cI S F X Y n ar sl mu ml ck im ds js ps ss tc o cJ O) ++ (wM m9 b1 b2 b3 b4 b5 b6 cI S F D J X Y (kd4 (0 ≤ (xs (6 * j + 5)).toInt ∧ (xs (6 * j + 5)).toInt ≤ 2) (ok_rd Y1 Y2) True True) n ar sl hd hu hw im tc ck up dn)) := hD
    refine lv_lstore (lv' := [(6, .long r888), (5, .int (kd4 (0 ≤ (xs (6 * j + 5)).toInt ∧ (xs (6 * j + 5)).toInt ≤ 2) (ok_rd Y1 Y2) True True)), (0, .ref b), (1, .ref x), (2, .ref m9), (3, .ref o), (4, .int (nI (6 * j)))]) hx hb dL_law_891 hl (by decide) rfl (fun ls hl => ?_)
    refine lv_aload_n hx hb dL_law_893 rfl (lv_at hl 4 rfl) ?_
    have hPc := hP.sub (ws' := (wM m9 b1 b2 b3 b4 b5 b6 cI S F D J X Y (kd4 (0 ≤ (xs (6 * j + 5)).toInt ∧ (xs (6 * j + 5)).toInt ≤ 2) (ok_rd Y1 Y2) True True) n ar sl hd hu hw im tc ck up dn)) [6, 7, 8, 9, 10, 11, 12] rfl
    have hDc := hD.sub (ws' := (wM m9 b1 b2 b3 b4 b5 b6 cI S F D J X Y (kd4 (0 ≤ (xs (6 * j + 5)).toInt ∧ (xs (6 * j + 5)).toInt ≤ 2) (ok_rd Y1 Y2) True True) n ar sl hd hu hw im tc ck up dn)) [6, 7, 8, 9, 10, 11, 12] (by decide) rfl
    have hKc := hK.sub (tys' := [(cI, .int)]) [0] rfl
    refine vp_callSi (W.runV (As := []) (rest := []) ⟨hx, hb, hml, hown, hts⟩ (c_X1_thrown l dC dI m9 b1 b2 b3 b4 b5 b6 cI S F D J X Y (kd4 (0 ≤ (xs (6 * j + 5)).toInt ∧ (xs (6 * j + 5)).toInt ≤ 2) (ok_rd Y1 Y2) True True) n ar sl hd hu hw im tc ck up dn) (cwV 0 hts (gV0 wl_L_70 wi_X1_thrown wv_X1_thrown wi_X1 wc_X1_thrown) rfl rfl rfl (by decide +kernel) ⟨Nat.le_of_ble_eq_true rfl, Nat.le_of_ble_eq_true rfl⟩) ⟨fun a U g mk q => ⟨q.1, q.2.1, va_K.moved (u := U) (U := U.calling g mk a) (Vm.Alike.refl U.vm) q.2.2⟩, va_recv hKc hPc (ci := 1) (q0 := 0) rfl rfl, fun U hU hW => ⟨rfl, by rw [hU]; exact hPc, va_K.moved hW.alike hKc⟩⟩ rfl rfl hl.1 rfl (lv_room (Nat.le_of_ble_eq_true rfl)) dL_law_894 ⟨by show 13 + 2 * j + 2 + 0 + 0 ≤ 1064; omega, by show 243 + 12 * j + 12 + 0 + 0 ≤ 8597; omega⟩) (fun r894 h894 => ?_)
    subst h894
    refine lv_iload hx hb dL_law_897 (lv_at hl 1 rfl) ?_
    refine lv_icmp_eq (tgt := 904) hx hb dL_law_899 (by decide) (fun c899 => ?_) (fun c899 => ?_)
    · -- taken at 899
      have c899 : (kd4 (0 ≤ (xs (6 * j + 5)).toInt ∧ (xs (6 * j + 5)).toInt ≤ 2) (ok_rd Y1 Y2) True True).toInt = (kd4 (0 ≤ (xs (6 * j + 5)).toInt ∧ (xs (6 * j + 5)).toInt ≤ 2) (ok_rd Y1 Y2) True True).toInt := (Int32.toInt_inj.symm).mp c899
      refine lv_iload hx hb dL_law_904 (lv_at hl 1 rfl) ?_
      refine lv_if_ne (tgt := 920) hx hb dL_law_906 (by decide) (fun c906 => ?_) (fun c906 => ?_)
      · -- taken at 906
        refine lv_goto (tgt := 1022) hx hb dL_law_920 (by decide) ?_
        refine W.widen (k := 13 + 2 * (j + 1)) (n := 243 + 12 * (j + 1)) (by omega) (by omega) ?_
        exact hN S F X Y D J n im tc ar sl ck mu ml ds js ps ss O (kd4 (0 ≤ (xs (6 * j + 5)).toInt ∧ (xs (6 * j + 5)).toInt ≤ 2) (ok_rd Y1 Y2) True True) hd hu hw up dn H locs ls (hli) hP hD hS (lv_sub hl [2, 3, 4, 5, 6] rfl)
      · -- not taken at 906
        exact absurd c906 hk
    · -- not taken at 899
      have c899 : ¬ (kd4 (0 ≤ (xs (6 * j + 5)).toInt ∧ (xs (6 * j + 5)).toInt ≤ 2) (ok_rd Y1 Y2) True True).toInt = (kd4 (0 ≤ (xs (6 * j + 5)).toInt ∧ (xs (6 * j + 5)).toInt ≤ 2) (ok_rd Y1 Y2) True True).toInt := fun q9 => c899 ((Int32.toInt_inj.symm).mpr q9)
      exact absurd rfl c899
