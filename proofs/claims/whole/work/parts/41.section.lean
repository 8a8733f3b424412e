set_option maxHeartbeats 8000000 in
set_option maxRecDepth 100000 in
theorem law_section {p : Program} {l : Launch} {e : Env} {s : State} {m : MethodId} {below : List Frame} {meth : Method} {c : Code} {dC : Nat → ClassId} {dI : Nat → Nat → Nat} {b L : Nat} {xs : Nat → Int32} {sa : Nat → Nat} {x a1 a2 a3 a4 o m9 b1 b2 b3 b4 b5 b6 : Nat} {cI cJ : ClassId} (hst : l.stackTraces = false) (hL : L ≤ 3072) (C0 : lw_At p s m meth c b L xs) (hG : gl_ok s.heap.size sa s) (hK : va_K (dC, dI) vwCl [(cI, .int), (cJ, .long)] s) (j : Nat) (h6 : 6 * j + 6 ≤ L) (hN : LN p l e s m below meth c dC dI b x a1 a2 a3 a4 o m9 b1 b2 b3 b4 b5 b6 cI cJ j) (S F X Y D J : Nat → Int32) (n im tc : Nat) (ar sl ck : Int32) (mu ml ds js ps ss : Int64) (O : Nat → Int64) (th hd : Int32) (hu hw up dn : Int64) (H : Heap) (locs : List Loc) (ls : Array Slot) (hli : li S F D J X Y n im tc ar sl ck mu ml ds js ps ss hd hu hw) (hP : va_P (dC, dI) vwCl ((wXO x a1 a2 a3 a4 cI S F X Y n ar sl mu ml ck im ds js ps ss tc o cJ O) ++ (wM m9 b1 b2 b3 b4 b5 b6 cI S F D J X Y th n ar sl hd hu hw im tc ck up dn)) H) (hD : va_D (fun q : Nat => s.heap.size ≤ q) ((wXO x a1 a2 a3 a4 cI S F X Y n ar sl mu ml ck im ds js ps ss tc o cJ O) ++ (wM m9 b1 b2 b3 b4 b5 b6 cI S F D J X Y th n ar sl hd hu hw im tc ck up dn))) (hS : va_S (fun q : Nat => s.heap.size ≤ q) s.heap H locs) (hl : lv_has ls 8 [(0, .ref b), (1, .ref x), (2, .ref m9), (3, .ref o), (4, .int (nI (6 * j)))]) : W p l e room_1 s m #[Value.ref b] below meth c H locs (13 + 2 * j) (243 + 12 * j) (lw_Z below #[Value.ref b] s) (F0 m 180 ls []) := by
  obtain ⟨hx, hb, hr, hml, hown, hts, hX, hbl, hlocks, hgv⟩ := id C0
  have hA : ∀ q : Nat, s.heap.size ≤ q → (fun q : Nat => s.heap.size ≤ q) q := fun _ h => h
  have hbA : ¬ (fun q : Nat => s.heap.size ≤ q) b := Nat.not_le.mpr hbl
  obtain ⟨⟨hn, hrs, hSb, hFb⟩, ⟨har, hsl, hck⟩, hmr, ⟨htc, hrt, hXb, hYb⟩, him, hDb, hJb, hfs⟩ := id hli
  obtain ⟨hhd, hhm, hH, hM⟩ := mr_b hmr
  refine lv_aload_n hx hb dL_law_180 rfl (lv_at hl 1 rfl) ?_
  refine lv_aload_n hx hb dL_law_181 rfl (lv_at hl 0 rfl) ?_
  refine lv_iload hx hb dL_law_182 (lv_at hl 4 rfl) ?_
  refine lv_iconst (v := 1) hx hb dL_law_184 (by decide) ?_
  refine lv_iadd hx hb dL_law_185 ?_
  refine W.eq (congrArg (fun z => F0 m 186 ls (.int z :: [.ref b, .ref x])) (show nI (6 * j) + 1 = nI (6 * j + 1) from nI_add (6 * j) 1)) ?_
  refine va_sld hx hb hX hbl hbA hS (vp_in_nI (show 6 * j + 1 < L by omega) (by omega)) dL_law_186 ?_
  refine W.eq (congrArg (fun z => F0 m 187 ls (.int z :: [.ref x])) (congrArg xs (nI_clamp (show 6 * j + 1 < 2 ^ 31 by omega)))) ?_
  refine lv_aload_n hx hb dL_law_187 rfl (lv_at hl 0 rfl) ?_
  refine lv_iload hx hb dL_law_188 (lv_at hl 4 rfl) ?_
  refine lv_iconst (v := 2) hx hb dL_law_190 (by decide) ?_
  refine lv_iadd hx hb dL_law_191 ?_
  refine W.eq (congrArg (fun z => F0 m 192 ls (.int z :: [.ref b, .int (xs (6 * j + 1)), .ref x])) (show nI (6 * j) + 2 = nI (6 * j + 2) from nI_add (6 * j) 2)) ?_
  refine va_sld hx hb hX hbl hbA hS (vp_in_nI (show 6 * j + 2 < L by omega) (by omega)) dL_law_192 ?_
  refine W.eq (congrArg (fun z => F0 m 193 ls (.int z :: [.int (xs (6 * j + 1)), .ref x])) (congrArg xs (nI_clamp (show 6 * j + 2 < 2 ^ 31 by omega)))) ?_
  have hPc := hP.sub (ws' := (wXO x a1 a2 a3 a4 cI S F X Y n ar sl mu ml ck im ds js ps ss tc o cJ O)) [0, 1, 2, 3, 4, 5] rfl
  have hDc := hD.sub (ws' := (wXO x a1 a2 a3 a4 cI S F X Y n ar sl mu ml ck im ds js ps ss tc o cJ O)) [0, 1, 2, 3, 4, 5] (by decide) rfl
  have hFc := va_free (wc := (wXO x a1 a2 a3 a4 cI S F X Y n ar sl mu ml ck im ds js ps ss tc o cJ O)) hD hS hA [0, 1, 2, 3, 4, 5] rfl
  refine va_calli (vx_runSW (As := [.ref x, .int (xs (6 * j + 1)), .int (xs (6 * j + 2))]) (rest := []) ⟨hx, hb, hml, hown, hts⟩ (c_L_section l hst dC dI s.heap.size sa H.size hS.1 x a1 a2 a3 a4 cI S F X Y n ar sl mu ml ck im ds js ps ss tc o cJ O (xs (6 * j + 1)) (xs (6 * j + 2)) ) (vx_cwSW 3 hts (gS0 wl_L_74 ws_L_section wi_L wc_L_section) rfl rfl rfl (by decide +kernel) ⟨Nat.le_of_ble_eq_true rfl, Nat.le_of_ble_eq_true rfl⟩) ⟨fun a U g mk q => ⟨q.1, q.2.1, q.2.2.1, va_K.moved (u := U) (U := U.calling g mk a) (Vm.Alike.refl U.vm) q.2.2.2.1, q.2.2.2.2.1, gl_blind q.2.2.2.2.2⟩, fun U hU hW => ⟨rfl, by rw [hU], by rw [hU]; exact hPc, va_K.moved hW.alike hK, hDc, gl_moved hG hS (fun _ h => h) hU hW⟩⟩ rfl rfl hl.1 rfl (lv_room (Nat.le_of_ble_eq_true rfl)) dL_law_193 ⟨by show 13 + 2 * j + 1 ≤ 1064; omega, by show 243 + 12 * j + 6 ≤ 8597; omega⟩) hS (fun q _ h => hFc q h) hFc (fun r193 u193 t H1 locs ht hvm h193 hB hz1 hk1 hS => ?_)
  obtain ⟨hkr, ha1⟩ := h193
  subst hkr
  rcases hB with ⟨hk, hP1, hK1, hD1⟩ | ⟨hk, hP1, hK1, hD1⟩
  · -- answered
    rw [ht] at hP1
    obtain ⟨hP, hD⟩ := va_join (wr := (wM m9 b1 b2 b3 b4 b5 b6 cI S F D J X Y th n ar sl hd hu hw im tc ck up dn)) (w1 := (wXO x a1 a2 a3 a4 cI S F X Y n (xs (6 * j + 1)) (xs (6 * j + 2)) mu ml ck im ds js ps ss tc o cJ O)) hP hD [0, 1, 2, 3, 4, 5] [6, 7, 8, 9, 10, 11, 12] rfl rfl (by decide) (by decide) hk1 hFc hP1 hD1
    have hP : va_P (dC, dI) vwCl ((wXO x a1 a2 a3 a4 cI S F X Y n (xs (6 * j + 1)) (xs (6 * j + 2)) mu ml ck im ds js ps ss tc o cJ O) ++ (wM m9 b1 b2 b3 b4 b5 b6 cI S F D J X Y th n ar sl hd hu hw im tc ck up dn)) H1 := hP.sub [7, 8, 9, 10, 11, 12, 0, 1, 2, 3, 4, 5, 6] rfl
    have hD : va_D (fun q : Nat => s.heap.size ≤ q) ((wXO x a1 a2 a3 a4 cI S F X Y n (xs (6 * j + 1)) (xs (6 * j + 2)) mu ml ck im ds js ps ss tc o cJ O) ++ (wM m9 b1 b2 b3 b4 b5 b6 cI S F D J X Y th n ar sl hd hu hw im tc ck up dn)) := hD.sub [7, 8, 9, 10, 11, 12, 0, 1, 2, 3, 4, 5, 6] (by decide) rfl
    generalize H1 = H at hP hS ⊢
    refine lv_istore (lv' := [(5, .int (kd4 (ok_sec (xs (6 * j + 1)) (xs (6 * j + 2))) True True True)), (0, .ref b), (1, .ref x), (2, .ref m9), (3, .ref o), (4, .int (nI (6 * j)))]) hx hb dL_law_196 hl (by decide) rfl (fun ls hl => ?_)
    refine lv_aload_n hx hb dL_law_198 rfl (lv_at hl 3 rfl) ?_
    refine lv_aload_n hx hb dL_law_199 rfl (lv_at hl 1 rfl) ?_
    refine lv_iload hx hb dL_law_200 (lv_at hl 5 rfl) ?_
    refine lv_iconst (v := 1) hx hb dL_law_202 (by decide) ?_
    refine lv_iadd hx hb dL_law_203 ?_
    refine W.eq (congrArg (fun z => F0 m 204 ls (.int z :: [.ref b, .ref m9])) (show nI (6 * j) + 1 = nI (6 * j + 1) from nI_add (6 * j) 1)) ?_
    refine va_sld hx hb hX hbl hbA hS (vp_in_nI (show 6 * j + 1 < L by omega) (by omega)) dL_law_204 ?_
    refine W.eq (congrArg (fun z => F0 m 205 ls (.int z :: [.ref m9])) (congrArg xs (nI_clamp (show 6 * j + 1 < 2 ^ 31 by omega)))) ?_
    refine lv_aload_n hx hb dL_law_205 rfl (lv_at hl 1 rfl) ?_
    refine lv_iload hx hb dL_law_206 (lv_at hl 5 rfl) ?_
    refine lv_iconst (v := 2) hx hb dL_law_208 (by decide) ?_
    refine lv_iadd hx hb dL_law_209 ?_
    refine W.eq (congrArg (fun z => F0 m 210 ls (.int z :: [.ref b, .int (xs (6 * j + 1)), .ref m9])) (show nI (6 * j) + 2 = nI (6 * j + 2) from nI_add (6 * j) 2)) ?_
    refine va_sld hx hb hX hbl hbA hS (vp_in_nI (show 6 * j + 2 < L by omega) (by omega)) dL_law_210 ?_
    refine W.eq (congrArg (fun z => F0 m 211 ls (.int z :: [.int (xs (6 * j + 1)), .ref m9])) (congrArg xs (nI_clamp (show 6 * j + 2 < 2 ^ 31 by omega)))) ?_
    have hPc := hP.sub (ws' := (wM m9 b1 b2 b3 b4 b5 b6 cI S F D J X Y th n ar sl hd hu hw im tc ck up dn)) [6, 7, 8, 9, 10, 11, 12] rfl
    have hDc := hD.sub (ws' := (wM m9 b1 b2 b3 b4 b5 b6 cI S F D J X Y th n ar sl hd hu hw im tc ck up dn)) [6, 7, 8, 9, 10, 11, 12] (by decide) rfl
    have hKc := hK.sub (tys' := [(cI, .int)]) [0] rfl
    have hFc := va_free (wc := (wM m9 b1 b2 b3 b4 b5 b6 cI S F D J X Y th n ar sl hd hu hw im tc ck up dn)) hD hS hA [6, 7, 8, 9, 10, 11, 12] rfl
    refine va_callv (va_runV (As := [.int (xs (6 * j + 1)), .int (xs (6 * j + 2))]) (rest := []) ⟨hx, hb, hml, hown, hts⟩ (c_X1_section l dC dI H.size m9 b1 b2 b3 b4 b5 b6 cI S F D J X Y th n ar sl hd hu hw im tc ck up dn (xs (6 * j + 1)) (xs (6 * j + 2)) ) (cwV 2 hts (gV0 wl_L_77 wi_X1_section wv_X1_section wi_X1 wc_X1_section) rfl rfl rfl (by decide +kernel) ⟨Nat.le_of_ble_eq_true rfl, Nat.le_of_ble_eq_true rfl⟩) ⟨fun a U g mk q => ⟨q.1, q.2.1, q.2.2.1, va_K.moved (u := U) (U := U.calling g mk a) (Vm.Alike.refl U.vm) q.2.2.2.1, q.2.2.2.2⟩, va_recv hKc hPc (ci := 1) (q0 := 0) rfl rfl, fun U hU hW => ⟨rfl, by rw [hU], by rw [hU]; exact hPc, va_K.moved hW.alike hKc, hDc.weaken (fun _ _ _ _ => trivial)⟩⟩ rfl rfl hl.1 rfl (lv_room (Nat.le_of_ble_eq_true rfl)) dL_law_211 ⟨by show 13 + 2 * j + 1 + 0 ≤ 1064; omega, by show 243 + 12 * j + 6 + 0 ≤ 8597; omega⟩) hS (fun q _ h => hFc q h) hFc (fun v211 t H1 locs ht hvm h211 hB hz1 hk1 hS => ?_)
    rcases hB with ⟨-, hP1, hK1, hD1⟩ | ⟨hq, -⟩
    rotate_left
    · exact absurd hk hq
    rw [ht] at hP1
    obtain ⟨hP, hD⟩ := va_join (wr := (wXO x a1 a2 a3 a4 cI S F X Y n (xs (6 * j + 1)) (xs (6 * j + 2)) mu ml ck im ds js ps ss tc o cJ O)) (w1 := (wM m9 b1 b2 b3 b4 b5 b6 cI S F D J X Y (kd4 (ok_sec (xs (6 * j + 1)) (xs (6 * j + 2))) True True True) n (xs (6 * j + 1)) (xs (6 * j + 2)) hd hu hw im tc ck up dn)) hP hD [6, 7, 8, 9, 10, 11, 12] [0, 1, 2, 3, 4, 5] rfl rfl (by decide) (by decide) hk1 hFc hP1 hD1
    generalize H1 = H at hP hS ⊢
    have hP : va_P (dC, dI) vwCl ((wXO x a1 a2 a3 a4 cI S F X Y n (xs (6 * j + 1)) (xs (6 * j + 2)) mu ml ck im ds js ps ss tc o cJ O) ++ (wM m9 b1 b2 b3 b4 b5 b6 cI S F D J X Y (kd4 (ok_sec (xs (6 * j + 1)) (xs (6 * j + 2))) True True True) n (xs (6 * j + 1)) (xs (6 * j + 2)) hd hu hw im tc ck up dn)) H := hP
    have hD : va_D (fun q : Nat => s.heap.size ≤ q) ((wXO x a1 a2 a3 a4 cI S F X Y n (xs (6 * j + 1)) (xs (6 * j + 2)) mu ml ck im ds js ps ss tc o cJ O) ++ (wM m9 b1 b2 b3 b4 b5 b6 cI S F D J X Y (kd4 (ok_sec (xs (6 * j + 1)) (xs (6 * j + 2))) True True True) n (xs (6 * j + 1)) (xs (6 * j + 2)) hd hu hw im tc ck up dn)) := hD
    refine lv_aload_n hx hb dL_law_214 rfl (lv_at hl 3 rfl) ?_
    have hPc := hP.sub (ws' := (wM m9 b1 b2 b3 b4 b5 b6 cI S F D J X Y (kd4 (ok_sec (xs (6 * j + 1)) (xs (6 * j + 2))) True True True) n (xs (6 * j + 1)) (xs (6 * j + 2)) hd hu hw im tc ck up dn)) [6, 7, 8, 9, 10, 11, 12] rfl
    have hDc := hD.sub (ws' := (wM m9 b1 b2 b3 b4 b5 b6 cI S F D J X Y (kd4 (ok_sec (xs (6 * j + 1)) (xs (6 * j + 2))) True True True) n (xs (6 * j + 1)) (xs (6 * j + 2)) hd hu hw im tc ck up dn)) [6, 7, 8, 9, 10, 11, 12] (by decide) rfl
    have hKc := hK.sub (tys' := [(cI, .int)]) [0] rfl
    refine vp_callSi (W.runV (As := []) (rest := []) ⟨hx, hb, hml, hown, hts⟩ (c_X1_thrown l dC dI m9 b1 b2 b3 b4 b5 b6 cI S F D J X Y (kd4 (ok_sec (xs (6 * j + 1)) (xs (6 * j + 2))) True True True) n (xs (6 * j + 1)) (xs (6 * j + 2)) hd hu hw im tc ck up dn) (cwV 0 hts (gV0 wl_L_70 wi_X1_thrown wv_X1_thrown wi_X1 wc_X1_thrown) rfl rfl rfl (by decide +kernel) ⟨Nat.le_of_ble_eq_true rfl, Nat.le_of_ble_eq_true rfl⟩) ⟨fun a U g mk q => ⟨q.1, q.2.1, va_K.moved (u := U) (U := U.calling g mk a) (Vm.Alike.refl U.vm) q.2.2⟩, va_recv hKc hPc (ci := 1) (q0 := 0) rfl rfl, fun U hU hW => ⟨rfl, by rw [hU]; exact hPc, va_K.moved hW.alike hKc⟩⟩ rfl rfl hl.1 rfl (lv_room (Nat.le_of_ble_eq_true rfl)) dL_law_215 ⟨by show 13 + 2 * j + 1 + 0 + 0 ≤ 1064; omega, by show 243 + 12 * j + 6 + 0 + 0 ≤ 8597; omega⟩) (fun r215 h215 => ?_)
    subst h215
    refine lv_iload hx hb dL_law_218 (lv_at hl 0 rfl) ?_
    refine lv_icmp_eq (tgt := 225) hx hb dL_law_220 (by decide) (fun c220 => ?_) (fun c220 => ?_)
    · -- taken at 220
      have c220 : (kd4 (ok_sec (xs (6 * j + 1)) (xs (6 * j + 2))) True True True).toInt = (kd4 (ok_sec (xs (6 * j + 1)) (xs (6 * j + 2))) True True True).toInt := (Int32.toInt_inj.symm).mp c220
      refine lv_goto (tgt := 1022) hx hb dL_law_225 (by decide) ?_
      refine W.widen (k := 13 + 2 * (j + 1)) (n := 243 + 12 * (j + 1)) (by omega) (by omega) ?_
      exact hN S F X Y D J n im tc (xs (6 * j + 1)) (xs (6 * j + 2)) ck mu ml ds js ps ss O (kd4 (ok_sec (xs (6 * j + 1)) (xs (6 * j + 2))) True True True) hd hu hw up dn H locs ls (li_sec hli (kd_z hk).1) hP hD hS (lv_sub hl [1, 2, 3, 4, 5] rfl)
    · -- not taken at 220
      have c220 : ¬ (kd4 (ok_sec (xs (6 * j + 1)) (xs (6 * j + 2))) True True True).toInt = (kd4 (ok_sec (xs (6 * j + 1)) (xs (6 * j + 2))) True True True).toInt := fun q9 => c220 ((Int32.toInt_inj.symm).mpr q9)
      exact absurd rfl c220
  · -- refused
    rw [ht] at hP1
    obtain ⟨hP, hD⟩ := va_join (wr := (wM m9 b1 b2 b3 b4 b5 b6 cI S F D J X Y th n ar sl hd hu hw im tc ck up dn)) (w1 := (wXO x a1 a2 a3 a4 cI S F X Y n ar sl mu ml ck im ds js ps ss tc o cJ O)) hP hD [0, 1, 2, 3, 4, 5] [6, 7, 8, 9, 10, 11, 12] rfl rfl (by decide) (by decide) hk1 hFc hP1 hD1
    have hP : va_P (dC, dI) vwCl ((wXO x a1 a2 a3 a4 cI S F X Y n ar sl mu ml ck im ds js ps ss tc o cJ O) ++ (wM m9 b1 b2 b3 b4 b5 b6 cI S F D J X Y th n ar sl hd hu hw im tc ck up dn)) H1 := hP.sub [7, 8, 9, 10, 11, 12, 0, 1, 2, 3, 4, 5, 6] rfl
    have hD : va_D (fun q : Nat => s.heap.size ≤ q) ((wXO x a1 a2 a3 a4 cI S F X Y n ar sl mu ml ck im ds js ps ss tc o cJ O) ++ (wM m9 b1 b2 b3 b4 b5 b6 cI S F D J X Y th n ar sl hd hu hw im tc ck up dn)) := hD.sub [7, 8, 9, 10, 11, 12, 0, 1, 2, 3, 4, 5, 6] (by decide) rfl
    generalize H1 = H at hP hS ⊢
    refine lv_istore (lv' := [(5, .int (kd4 (ok_sec (xs (6 * j + 1)) (xs (6 * j + 2))) True True True)), (0, .ref b), (1, .ref x), (2, .ref m9), (3, .ref o), (4, .int (nI (6 * j)))]) hx hb dL_law_196 hl (by decide) rfl (fun ls hl => ?_)
    refine lv_aload_n hx hb dL_law_198 rfl (lv_at hl 3 rfl) ?_
    refine lv_aload_n hx hb dL_law_199 rfl (lv_at hl 1 rfl) ?_
    refine lv_iload hx hb dL_law_200 (lv_at hl 5 rfl) ?_
    refine lv_iconst (v := 1) hx hb dL_law_202 (by decide) ?_
    refine lv_iadd hx hb dL_law_203 ?_
    refine W.eq (congrArg (fun z => F0 m 204 ls (.int z :: [.ref b, .ref m9])) (show nI (6 * j) + 1 = nI (6 * j + 1) from nI_add (6 * j) 1)) ?_
    refine va_sld hx hb hX hbl hbA hS (vp_in_nI (show 6 * j + 1 < L by omega) (by omega)) dL_law_204 ?_
    refine W.eq (congrArg (fun z => F0 m 205 ls (.int z :: [.ref m9])) (congrArg xs (nI_clamp (show 6 * j + 1 < 2 ^ 31 by omega)))) ?_
    refine lv_aload_n hx hb dL_law_205 rfl (lv_at hl 1 rfl) ?_
    refine lv_iload hx hb dL_law_206 (lv_at hl 5 rfl) ?_
    refine lv_iconst (v := 2) hx hb dL_law_208 (by decide) ?_
    refine lv_iadd hx hb dL_law_209 ?_
    refine W.eq (congrArg (fun z => F0 m 210 ls (.int z :: [.ref b, .int (xs (6 * j + 1)), .ref m9])) (show nI (6 * j) + 2 = nI (6 * j + 2) from nI_add (6 * j) 2)) ?_
    refine va_sld hx hb hX hbl hbA hS (vp_in_nI (show 6 * j + 2 < L by omega) (by omega)) dL_law_210 ?_
    refine W.eq (congrArg (fun z => F0 m 211 ls (.int z :: [.int (xs (6 * j + 1)), .ref m9])) (congrArg xs (nI_clamp (show 6 * j + 2 < 2 ^ 31 by omega)))) ?_
    have hPc := hP.sub (ws' := (wM m9 b1 b2 b3 b4 b5 b6 cI S F D J X Y th n ar sl hd hu hw im tc ck up dn)) [6, 7, 8, 9, 10, 11, 12] rfl
    have hDc := hD.sub (ws' := (wM m9 b1 b2 b3 b4 b5 b6 cI S F D J X Y th n ar sl hd hu hw im tc ck up dn)) [6, 7, 8, 9, 10, 11, 12] (by decide) rfl
    have hKc := hK.sub (tys' := [(cI, .int)]) [0] rfl
    have hFc := va_free (wc := (wM m9 b1 b2 b3 b4 b5 b6 cI S F D J X Y th n ar sl hd hu hw im tc ck up dn)) hD hS hA [6, 7, 8, 9, 10, 11, 12] rfl
    refine va_callv (va_runV (As := [.int (xs (6 * j + 1)), .int (xs (6 * j + 2))]) (rest := []) ⟨hx, hb, hml, hown, hts⟩ (c_X1_section l dC dI H.size m9 b1 b2 b3 b4 b5 b6 cI S F D J X Y th n ar sl hd hu hw im tc ck up dn (xs (6 * j + 1)) (xs (6 * j + 2)) ) (cwV 2 hts (gV0 wl_L_77 wi_X1_section wv_X1_section wi_X1 wc_X1_section) rfl rfl rfl (by decide +kernel) ⟨Nat.le_of_ble_eq_true rfl, Nat.le_of_ble_eq_true rfl⟩) ⟨fun a U g mk q => ⟨q.1, q.2.1, q.2.2.1, va_K.moved (u := U) (U := U.calling g mk a) (Vm.Alike.refl U.vm) q.2.2.2.1, q.2.2.2.2⟩, va_recv hKc hPc (ci := 1) (q0 := 0) rfl rfl, fun U hU hW => ⟨rfl, by rw [hU], by rw [hU]; exact hPc, va_K.moved hW.alike hKc, hDc.weaken (fun _ _ _ _ => trivial)⟩⟩ rfl rfl hl.1 rfl (lv_room (Nat.le_of_ble_eq_true rfl)) dL_law_211 ⟨by show 13 + 2 * j + 1 + 0 ≤ 1064; omega, by show 243 + 12 * j + 6 + 0 ≤ 8597; omega⟩) hS (fun q _ h => hFc q h) hFc (fun v211 t H1 locs ht hvm h211 hB hz1 hk1 hS => ?_)
    rcases hB with ⟨hq, -⟩ | ⟨-, hP1, hK1, hD1⟩
    · exact absurd hq hk
    rw [ht] at hP1
    obtain ⟨hP, hD⟩ := va_join (wr := (wXO x a1 a2 a3 a4 cI S F X Y n ar sl mu ml ck im ds js ps ss tc o cJ O)) (w1 := (wM m9 b1 b2 b3 b4 b5 b6 cI S F D J X Y (kd4 (ok_sec (xs (6 * j + 1)) (xs (6 * j + 2))) True True True) n ar sl hd hu hw im tc ck up dn)) hP hD [6, 7, 8, 9, 10, 11, 12] [0, 1, 2, 3, 4, 5] rfl rfl (by decide) (by decide) hk1 hFc hP1 hD1
    generalize H1 = H at hP hS ⊢
    have hP : va_P (dC, dI) vwCl ((wXO x a1 a2 a3 a4 cI S F X Y n ar sl mu ml ck im ds js ps ss tc o cJ O) ++ (wM m9 b1 b2 b3 b4 b5 b6 cI S F D J X Y (kd4 (ok_sec (xs (6 * j + 1)) (xs (6 * j + 2))) True True True) n ar sl hd hu hw im tc ck up dn)) H := hP
    have hD : va_D (fun q : Nat => s.heap.size ≤ q) ((wXO x a1 a2 a3 a4 cI S F X Y n ar sl mu ml ck im ds js ps ss tc o cJ O) ++ (wM m9 b1 b2 b3 b4 b5 b6 cI S F D J X Y (kd4 (ok_sec (xs (6 * j + 1)) (xs (6 * j + 2))) True True True) n ar sl hd hu hw im tc ck up dn)) := hD
    refine lv_aload_n hx hb dL_law_214 rfl (lv_at hl 3 rfl) ?_
    have hPc := hP.sub (ws' := (wM m9 b1 b2 b3 b4 b5 b6 cI S F D J X Y (kd4 (ok_sec (xs (6 * j + 1)) (xs (6 * j + 2))) True True True) n ar sl hd hu hw im tc ck up dn)) [6, 7, 8, 9, 10, 11, 12] rfl
    have hDc := hD.sub (ws' := (wM m9 b1 b2 b3 b4 b5 b6 cI S F D J X Y (kd4 (ok_sec (xs (6 * j + 1)) (xs (6 * j + 2))) True True True) n ar sl hd hu hw im tc ck up dn)) [6, 7, 8, 9, 10, 11, 12] (by decide) rfl
    have hKc := hK.sub (tys' := [(cI, .int)]) [0] rfl
    refine vp_callSi (W.runV (As := []) (rest := []) ⟨hx, hb, hml, hown, hts⟩ (c_X1_thrown l dC dI m9 b1 b2 b3 b4 b5 b6 cI S F D J X Y (kd4 (ok_sec (xs (6 * j + 1)) (xs (6 * j + 2))) True True True) n ar sl hd hu hw im tc ck up dn) (cwV 0 hts (gV0 wl_L_70 wi_X1_thrown wv_X1_thrown wi_X1 wc_X1_thrown) rfl rfl rfl (by decide +kernel) ⟨Nat.le_of_ble_eq_true rfl, Nat.le_of_ble_eq_true rfl⟩) ⟨fun a U g mk q => ⟨q.1, q.2.1, va_K.moved (u := U) (U := U.calling g mk a) (Vm.Alike.refl U.vm) q.2.2⟩, va_recv hKc hPc (ci := 1) (q0 := 0) rfl rfl, fun U hU hW => ⟨rfl, by rw [hU]; exact hPc, va_K.moved hW.alike hKc⟩⟩ rfl rfl hl.1 rfl (lv_room (Nat.le_of_ble_eq_true rfl)) dL_law_215 ⟨by show 13 + 2 * j + 1 + 0 + 0 ≤ 1064; omega, by show 243 + 12 * j + 6 + 0 + 0 ≤ 8597; omega⟩) (fun r215 h215 => ?_)
    subst h215
    refine lv_iload hx hb dL_law_218 (lv_at hl 0 rfl) ?_
    refine lv_icmp_eq (tgt := 225) hx hb dL_law_220 (by decide) (fun c220 => ?_) (fun c220 => ?_)
    · -- taken at 220
      have c220 : (kd4 (ok_sec (xs (6 * j + 1)) (xs (6 * j + 2))) True True True).toInt = (kd4 (ok_sec (xs (6 * j + 1)) (xs (6 * j + 2))) True True True).toInt := (Int32.toInt_inj.symm).mp c220
      refine lv_goto (tgt := 1022) hx hb dL_law_225 (by decide) ?_
      refine W.widen (k := 13 + 2 * (j + 1)) (n := 243 + 12 * (j + 1)) (by omega) (by omega) ?_
      exact hN S F X Y D J n im tc ar sl ck mu ml ds js ps ss O (kd4 (ok_sec (xs (6 * j + 1)) (xs (6 * j + 2))) True True True) hd hu hw up dn H locs ls (hli) hP hD hS (lv_sub hl [1, 2, 3, 4, 5] rfl)
    · -- not taken at 220
      have c220 : ¬ (kd4 (ok_sec (xs (6 * j + 1)) (xs (6 * j + 2))) True True True).toInt = (kd4 (ok_sec (xs (6 * j + 1)) (xs (6 * j + 2))) True True True).toInt := fun q9 => c220 ((Int32.toInt_inj.symm).mpr q9)
      exact absurd rfl c220
