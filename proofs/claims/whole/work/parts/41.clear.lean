set_option maxHeartbeats 8000000 in
set_option maxRecDepth 100000 in
theorem law_clear {p : Program} {l : Launch} {e : Env} {s : State} {m : MethodId} {below : List Frame} {meth : Method} {c : Code} {dC : Nat → ClassId} {dI : Nat → Nat → Nat} {b L : Nat} {xs : Nat → Int32} {sa : Nat → Nat} {x a1 a2 a3 a4 o m9 b1 b2 b3 b4 b5 b6 : Nat} {cI cJ : ClassId} (hst : l.stackTraces = false) (hL : L ≤ 3072) (C0 : lw_At p s m meth c b L xs) (hG : gl_ok s.heap.size sa s) (hK : va_K (dC, dI) vwCl [(cI, .int), (cJ, .long)] s) (j : Nat) (h6 : 6 * j + 6 ≤ L) (hN : LN p l e s m below meth c dC dI b x a1 a2 a3 a4 o m9 b1 b2 b3 b4 b5 b6 cI cJ j) (S F X Y D J : Nat → Int32) (n im tc : Nat) (ar sl ck : Int32) (mu ml ds js ps ss : Int64) (O : Nat → Int64) (th hd : Int32) (hu hw up dn : Int64) (H : Heap) (locs : List Loc) (ls : Array Slot) (hli : li S F D J X Y n im tc ar sl ck mu ml ds js ps ss hd hu hw) (hP : va_P (dC, dI) vwCl ((wXO x a1 a2 a3 a4 cI S F X Y n ar sl mu ml ck im ds js ps ss tc o cJ O) ++ (wM m9 b1 b2 b3 b4 b5 b6 cI S F D J X Y th n ar sl hd hu hw im tc ck up dn)) H) (hD : va_D (fun q : Nat => s.heap.size ≤ q) ((wXO x a1 a2 a3 a4 cI S F X Y n ar sl mu ml ck im ds js ps ss tc o cJ O) ++ (wM m9 b1 b2 b3 b4 b5 b6 cI S F D J X Y th n ar sl hd hu hw im tc ck up dn))) (hS : va_S (fun q : Nat => s.heap.size ≤ q) s.heap H locs) (hl : lv_has ls 8 [(0, .ref b), (1, .ref x), (2, .ref m9), (3, .ref o), (4, .int (nI (6 * j)))]) : W p l e room_1 s m #[Value.ref b] below meth c H locs (13 + 2 * j) (243 + 12 * j) (lw_Z below #[Value.ref b] s) (F0 m 1011 ls []) := by
  obtain ⟨hx, hb, hr, hml, hown, hts, hX, hbl, hlocks, hgv⟩ := id C0
  have hA : ∀ q : Nat, s.heap.size ≤ q → (fun q : Nat => s.heap.size ≤ q) q := fun _ h => h
  have hbA : ¬ (fun q : Nat => s.heap.size ≤ q) b := Nat.not_le.mpr hbl
  obtain ⟨⟨hn, hrs, hSb, hFb⟩, ⟨har, hsl, hck⟩, hmr, ⟨htc, hrt, hXb, hYb⟩, him, hDb, hJb, hfs⟩ := id hli
  obtain ⟨hhd, hhm, hH, hM⟩ := mr_b hmr
  refine lv_aload_n hx hb dL_law_1011 rfl (lv_at hl 1 rfl) ?_
  have hPc := hP.sub (ws' := (wX x a1 a2 a3 a4 cI S F X Y n ar sl mu ml ck im ds js ps ss tc)) [0, 1, 2, 3, 4] rfl
  have hDc := hD.sub (ws' := (wX x a1 a2 a3 a4 cI S F X Y n ar sl mu ml ck im ds js ps ss tc)) [0, 1, 2, 3, 4] (by decide) rfl
  have hKc := hK.sub (tys' := [(cI, .int)]) [0] rfl
  have hFc := va_free (wc := (wX x a1 a2 a3 a4 cI S F X Y n ar sl mu ml ck im ds js ps ss tc)) hD hS hA [0, 1, 2, 3, 4] rfl
  refine va_callv (va_runV (As := []) (rest := []) ⟨hx, hb, hml, hown, hts⟩ (c_X0_clear l dC dI H.size x a1 a2 a3 a4 cI S F X Y n ar sl mu ml ck im ds js ps ss tc) (cwV 0 hts (gV0 wl_L_117 wi_X0_clear wv_X0_clear wi_X0 wc_X0_clear) rfl rfl rfl (by decide +kernel) ⟨Nat.le_of_ble_eq_true rfl, Nat.le_of_ble_eq_true rfl⟩) ⟨fun a U g mk q => ⟨q.1, q.2.1, q.2.2.1, va_K.moved (u := U) (U := U.calling g mk a) (Vm.Alike.refl U.vm) q.2.2.2.1, q.2.2.2.2⟩, va_recv hKc hPc (ci := 0) (q0 := 0) rfl rfl, fun U hU hW => ⟨rfl, by rw [hU], by rw [hU]; exact hPc, va_K.moved hW.alike hKc, hDc.weaken (fun _ _ _ _ => trivial)⟩⟩ rfl rfl hl.1 rfl (lv_room (Nat.le_of_ble_eq_true rfl)) dL_law_1012 ⟨by show 13 + 2 * j + 0 ≤ 1064; omega, by show 243 + 12 * j + 0 ≤ 8597; omega⟩) hS (fun q _ h => hFc q h) hFc (fun u1012 t H1 locs ht hvm h1012 hB hz1 hk1 hS => ?_)
  obtain ⟨hP1, hK1, hD1⟩ := hB
  rw [ht] at hP1
  obtain ⟨hP, hD⟩ := va_join (wr := ((o, .inl (cJ, (1, .inr (.inl O)))) :: (wM m9 b1 b2 b3 b4 b5 b6 cI S F D J X Y th n ar sl hd hu hw im tc ck up dn))) (w1 := (wX x a1 a2 a3 a4 cI S F X Y 0 0 0 0 0 0 im ds js ps ss tc)) hP hD [0, 1, 2, 3, 4] [5, 6, 7, 8, 9, 10, 11, 12] rfl rfl (by decide) (by decide) hk1 hFc hP1 hD1
  have hP : va_P (dC, dI) vwCl ((wXO x a1 a2 a3 a4 cI S F X Y 0 0 0 0 0 0 im ds js ps ss tc o cJ O) ++ (wM m9 b1 b2 b3 b4 b5 b6 cI S F D J X Y th n ar sl hd hu hw im tc ck up dn)) H1 := hP.sub [8, 9, 10, 11, 12, 0, 1, 2, 3, 4, 5, 6, 7] rfl
  have hD : va_D (fun q : Nat => s.heap.size ≤ q) ((wXO x a1 a2 a3 a4 cI S F X Y 0 0 0 0 0 0 im ds js ps ss tc o cJ O) ++ (wM m9 b1 b2 b3 b4 b5 b6 cI S F D J X Y th n ar sl hd hu hw im tc ck up dn)) := hD.sub [8, 9, 10, 11, 12, 0, 1, 2, 3, 4, 5, 6, 7] (by decide) rfl
  generalize H1 = H at hP hS ⊢
  refine lv_aload_n hx hb dL_law_1015 rfl (lv_at hl 2 rfl) ?_
  have hPc := hP.sub (ws' := (wM m9 b1 b2 b3 b4 b5 b6 cI S F D J X Y th n ar sl hd hu hw im tc ck up dn)) [6, 7, 8, 9, 10, 11, 12] rfl
  have hDc := hD.sub (ws' := (wM m9 b1 b2 b3 b4 b5 b6 cI S F D J X Y th n ar sl hd hu hw im tc ck up dn)) [6, 7, 8, 9, 10, 11, 12] (by decide) rfl
  have hKc := hK.sub (tys' := [(cI, .int)]) [0] rfl
  have hFc := va_free (wc := (wM m9 b1 b2 b3 b4 b5 b6 cI S F D J X Y th n ar sl hd hu hw im tc ck up dn)) hD hS hA [6, 7, 8, 9, 10, 11, 12] rfl
  refine va_callv (va_runV (As := []) (rest := []) ⟨hx, hb, hml, hown, hts⟩ (c_X1_clear l dC dI H.size m9 b1 b2 b3 b4 b5 b6 cI S F D J X Y th n ar sl hd hu hw im tc ck up dn  ) (cwV 0 hts (gV0 wl_L_120 wi_X1_clear wv_X1_clear wi_X1 wc_X1_clear) rfl rfl rfl (by decide +kernel) ⟨Nat.le_of_ble_eq_true rfl, Nat.le_of_ble_eq_true rfl⟩) ⟨fun a U g mk q => ⟨q.1, q.2.1, q.2.2.1, va_K.moved (u := U) (U := U.calling g mk a) (Vm.Alike.refl U.vm) q.2.2.2.1, q.2.2.2.2⟩, va_recv hKc hPc (ci := 1) (q0 := 0) rfl rfl, fun U hU hW => ⟨rfl, by rw [hU], by rw [hU]; exact hPc, va_K.moved hW.alike hKc, hDc.weaken (fun _ _ _ _ => trivial)⟩⟩ rfl rfl hl.1 rfl (lv_room (Nat.le_of_ble_eq_true rfl)) dL_law_1016 ⟨by show 13 + 2 * j + 0 + 0 ≤ 1064; omega, by show 243 + 12 * j + 0 + 0 ≤ 8597; omega⟩) hS (fun q _ h => hFc q h) hFc (fun v1016 t H1 locs ht hvm h1016 hB hz1 hk1 hS => ?_)
  obtain ⟨hP1, hK1, hD1⟩ := hB
  rw [ht] at hP1
  obtain ⟨hP, hD⟩ := va_join (wr := (wXO x a1 a2 a3 a4 cI S F X Y 0 0 0 0 0 0 im ds js ps ss tc o cJ O)) (w1 := (wM m9 b1 b2 b3 b4 b5 b6 cI S F D J X Y 0 0 0 0 0 hu hw im tc 0 up dn)) hP hD [6, 7, 8, 9, 10, 11, 12] [0, 1, 2, 3, 4, 5] rfl rfl (by decide) (by decide) hk1 hFc hP1 hD1
  generalize H1 = H at hP hS ⊢
  have hP : va_P (dC, dI) vwCl ((wXO x a1 a2 a3 a4 cI S F X Y 0 0 0 0 0 0 im ds js ps ss tc o cJ O) ++ (wM m9 b1 b2 b3 b4 b5 b6 cI S F D J X Y 0 0 0 0 0 hu hw im tc 0 up dn)) H := hP
  have hD : va_D (fun q : Nat => s.heap.size ≤ q) ((wXO x a1 a2 a3 a4 cI S F X Y 0 0 0 0 0 0 im ds js ps ss tc o cJ O) ++ (wM m9 b1 b2 b3 b4 b5 b6 cI S F D J X Y 0 0 0 0 0 hu hw im tc 0 up dn)) := hD
  refine lv_goto (tgt := 1022) hx hb dL_law_1019 (by decide) ?_
  refine W.widen (k := 13 + 2 * (j + 1)) (n := 243 + 12 * (j + 1)) (by omega) (by omega) ?_
  exact hN S F X Y D J 0 im tc 0 0 0 0 0 ds js ps ss O 0 0 hu hw up dn H locs ls (li_clear hli) hP hD hS (lv_sub hl [0, 1, 2, 3, 4] rfl)
