set_option maxHeartbeats 4000000 in
set_option maxRecDepth 100000 in
theorem c_X0_stretch (l : Launch) (hL : l.stackTraces = false) (dC : Nat → ClassId) (dI : Nat → Nat → Nat) (z0 : Nat) (sa : Nat → Nat) (sz : Nat) (hz : z0 ≤ sz) (x a1 a2 a3 a4 : Nat) (cI : ClassId) (S F X Y : Nat → Int32) (n : Nat) (ar sl : Int32) (mu ml : Int64) (ck : Int32) (ic : Nat) (ds js ps ss : Int64) (tc : Nat) (p1 p2 p3 : Int32) : vx_Met l yX0_stretch wsX0_stretch ({ frames := 7, cells := 2, slots := 12, locals := 111 }) (va_Pc [.ref x, .int p1, .int p2, .int p3] (fun U => U.heap.size = sz ∧ va_P (dC, dI) vwCl (wX x a1 a2 a3 a4 cI S F X Y n ar sl mu ml ck ic ds js ps ss tc) U.heap ∧ va_K (dC, dI) vwCl [(cI, .int)] U ∧ va_D (fun q => z0 ≤ q) (wX x a1 a2 a3 a4 cI S F X Y n ar sl mu ml ck ic ds js ps ss tc) ∧ gl_ok z0 sa U)) (va_Ql (fun r (_ : Unit) => kd4 (0 ≤ p3.toInt ∧ p3.toInt ≤ 1) (ok_len p1 p2) True True = 0 ∧ r.toInt = fr (p2.toInt - p1.toInt) p1.toInt p3.toInt) (fun (_ : Unit) t => at_w dC dI cI (va_A (wX x a1 a2 a3 a4 cI S F X Y n ar sl mu ml ck ic ds js ps ss tc) sz) (wX x a1 a2 a3 a4 cI S F X Y n ar sl mu ml ck ic ds js ps ss tc) t) (va_A (wX x a1 a2 a3 a4 cI S F X Y n ar sl mu ml ck ic ds js ps ss tc) sz)) (vx_X (fun _ : Unit => True) (fun E _ t => ((E = "java/lang/IndexOutOfBoundsException" ∧ kd4 (0 ≤ p3.toInt ∧ p3.toInt ≤ 1) (ok_len p1 p2) True True = 1) ∨ (E = "java/lang/IllegalArgumentException" ∧ kd4 (0 ≤ p3.toInt ∧ p3.toInt ≤ 1) (ok_len p1 p2) True True = 2)) ∧ at_w dC dI cI (va_A (wX x a1 a2 a3 a4 cI S F X Y n ar sl mu ml ck ic ds js ps ss tc) sz) (wX x a1 a2 a3 a4 cI S F X Y n ar sl mu ml ck ic ds js ps ss tc) t) (va_A (wX x a1 a2 a3 a4 cI S F X Y n ar sl mu ml ck ic ds js ps ss tc) sz)) 2 12 (va_A (wX x a1 a2 a3 a4 cI S F X Y n ar sl mu ml ck ic ds js ps ss tc) sz) := by
  refine vx_ofW (cc := cX0_stretch) (maxL := 4) (ret := (some .long)) (by decide) rfl ?_
  intro p e s m args below meth c s₁ B hml htab hv
  obtain ⟨rfl, hsz, hP, hK, hD0, hG⟩ := hv
  have hx := B.exec
  have hb := B.bytes
  have hr := B.returns
  have hts := atoms_spec (ws := wsX0_stretch) B.pre
  have hown : s.vm.findClass RX0 = some m.cls := findClass_of_methodNamed B.named
  have hlocks := B.notSynchronized
  have hinX0 : ∀ w ∈ wsX00, w ∈ wsX0_stretch := fun w h => List.mem_cons_of_mem _ (inX0 w h)
  have k22 := hts _ (List.mem_cons_of_mem _ wl_X0_22)
  subst hsz
  have hD := hD0.self (sz := s.heap.size)
  have hAz := az_of hD0 hz
  generalize hAe : va_A (wX x a1 a2 a3 a4 cI S F X Y n ar sl mu ml ck ic ds js ps ss tc) s.heap.size = A at hD hAz ⊢
  have hA : ∀ q : Nat, s.heap.size ≤ q → A q := fun q h => by rw [← hAe]; exact Or.inr h
  have hS : va_S A s.heap s.heap [] := va_S.rf
  have hZU := hG.1.narrow hAz
  have hZN := hG.2.1.narrow hAz
  have hl := lv_entry ([.ref x, .int p1, .int p2, .int p3]) (n := 4) (Nat.le_of_ble_eq_true rfl)
  rw [lg_entry_eq]
  generalize (lg_sl ([.ref x, .int p1, .int p2, .int p3]) ++ List.replicate (4 - (lg_sl ([.ref x, .int p1, .int p2, .int p3])).length) Slot.unset).toArray = ls at hl ⊢
  have hl : lv_has ls 4 [(0, .ref x), (1, .int p1), (2, .int p2), (3, .int p3)] := hl
  refine lv_iload_n hx hb dX0_stretch_0 rfl (lv_at hl 3 rfl) ?_
  have hFc := va_free (wc := []) hD hS hA [] rfl
  refine vx_callv (vx_runS (As := [.int p3]) (rest := []) ⟨hx, hb, hml, hown, hts⟩ (c_X0_refuseNoSuchPart l hL z0 sa s.heap.size (Nat.le_trans hz hS.1) p3) (va_cwS 1 hts (gS wl_X0_53 ws_X0_refuseNoSuchPart wi_X0 wc_X0_refuseNoSuchPart) rfl rfl rfl (by decide +kernel) ⟨Nat.le_of_ble_eq_true rfl, Nat.le_of_ble_eq_true rfl⟩) ⟨fun a U g mk q => ⟨q.1, q.2.1, gl_blind q.2.2⟩, fun U hU hW => ⟨rfl, by rw [hU], gl_moved hG hS hAz hU hW⟩⟩ rfl rfl hl.1 rfl (lv_room (Nat.le_of_ble_eq_true rfl)) dX0_stretch_1 ⟨Nat.le_of_ble_eq_true rfl, Nat.le_of_ble_eq_true rfl⟩) hS (fun q _ h => hFc q h) hFc (fun q _ h => hFc q h) (fun E ce q9 u t H1 locs ht hvm hpx hB hz1 hk1 hS hce hcv hcl => ?_) (fun u t H1 locs ht hvm h1 hB hz1 hk1 hS => ?_)
  · -- thrown there
    obtain ⟨⟨rfl, hB9⟩, -⟩ := hB
    obtain ⟨hP, hD⟩ := va_join (wr := (wX x a1 a2 a3 a4 cI S F X Y n ar sl mu ml ck ic ds js ps ss tc)) (w1 := []) hP hD [] [0, 1, 2, 3, 4] rfl rfl (by decide) (by decide) hk1 hFc nil_P nil_D
    have hP : va_P (dC, dI) vwCl (wX x a1 a2 a3 a4 cI S F X Y n ar sl mu ml ck ic ds js ps ss tc) H1 := hP
    have hD : va_D A (wX x a1 a2 a3 a4 cI S F X Y n ar sl mu ml ck ic ds js ps ss tc) := hD
    exact vx_out (fun x hx => (htab x hx).elim) hlocks hce hcv hcl (fun t ht ha => ⟨(), trivial, ⟨Or.inl ⟨rfl, kd_1 hB9⟩, by rw [ht]; exact hP, va_K.moved ha hK, hD⟩, hS.F ht⟩) hS.2.2 (Nat.le_of_ble_eq_true rfl) (Nat.le_of_ble_eq_true rfl)
  obtain ⟨hP, hD⟩ := va_join (wr := (wX x a1 a2 a3 a4 cI S F X Y n ar sl mu ml ck ic ds js ps ss tc)) (w1 := []) hP hD [] [0, 1, 2, 3, 4] rfl rfl (by decide) (by decide) hk1 hFc nil_P nil_D
  generalize H1 = H at hP hS ⊢
  have hP : va_P (dC, dI) vwCl (wX x a1 a2 a3 a4 cI S F X Y n ar sl mu ml ck ic ds js ps ss tc) H := hP
  have hD : va_D A (wX x a1 a2 a3 a4 cI S F X Y n ar sl mu ml ck ic ds js ps ss tc) := hD
  refine lv_iload_n hx hb dX0_stretch_4 rfl (lv_at hl 1 rfl) ?_
  refine lv_iconst (v := 1) hx hb dX0_stretch_5 (by decide) ?_
  refine lv_ldc (v := 1000000) hx hb hown k22 dX0_stretch_6 ?_
  refine vp_callSi (W.runS (As := [.int p1, .int 1, .int 1000000]) (rest := []) ⟨hx, hb, hml, hown, hts⟩ (c_X0_isWithin l p1 1 1000000 1 1000000 (by decide) (by decide)) (va_cwS 3 hts (gS wl_X0_23 ws_X0_isWithin wi_X0 wc_X0_isWithin) rfl rfl rfl (by decide +kernel) ⟨Nat.le_of_ble_eq_true rfl, Nat.le_of_ble_eq_true rfl⟩) ⟨fun _ _ _ _ q => q, fun U hU hW => ⟨rfl, trivial⟩⟩ rfl rfl hl.1 rfl (lv_room (Nat.le_of_ble_eq_true rfl)) dX0_stretch_8 ⟨Nat.le_of_ble_eq_true rfl, Nat.le_of_ble_eq_true rfl⟩) (fun r8 h8 => ?_)
  subst h8
  refine lv_if_eq (tgt := 24) hx hb dX0_stretch_11 (by decide) (fun c11 => ?_) (fun c11 => ?_)
  · -- taken at 11
    have c11 := bI_eq0.mp c11
    exact vx_throwS (own := RX0) (cls := "java/lang/IllegalArgumentException") (names := ["java/lang/RuntimeException", "java/lang/Exception"]) hx hb hL hown (by decide +kernel) (by decide +kernel) (hts _ (List.mem_cons_of_mem _ wl_X0_27)) (hts _ (List.mem_cons_of_mem _ wi_IllegalArgument)) (hG.2.2.1 (108, "lengths are 1 to 1,000,000") (by decide +kernel)) (vx_hat (L := vx_atS RX0 31 "java/lang/IllegalArgumentException" ["java/lang/RuntimeException", "java/lang/Exception"]) (B := [.castable "java/lang/IllegalArgumentException" "java/lang/IllegalArgumentException", .declares ⟨"java/lang/RuntimeException", "<init>", "(Ljava/lang/String;)V"⟩, .declares ⟨"java/lang/Exception", "<init>", "(Ljava/lang/String;)V"⟩, .declares ⟨"java/lang/Throwable", "<init>", "(Ljava/lang/String;)V"⟩]) (fun w hw => hts w (List.mem_cons_of_mem _ (xa_IllegalArgument w hw))) (by decide +kernel) (vx_c (va_Nw.use rfl (hG.2.2.2.1 ("java/lang/IllegalArgumentException", "java/lang/IllegalArgumentException") (by decide +kernel))) (vx_c (va_Nw.use rfl (hG.2.2.2.2.2 ⟨"java/lang/RuntimeException", "<init>", "(Ljava/lang/String;)V"⟩ (by decide +kernel))) (vx_c (va_Nw.use rfl (hG.2.2.2.2.2 ⟨"java/lang/Exception", "<init>", "(Ljava/lang/String;)V"⟩ (by decide +kernel))) (vx_c (va_Nw.use rfl (hG.2.2.2.2.2 ⟨"java/lang/Throwable", "<init>", "(Ljava/lang/String;)V"⟩ (by decide +kernel))) (vx_n)))))) (by decide +kernel) hZU hZN hS (hl.1.trans hml.symm) dX0_stretch_24 dX0_stretch_27 dX0_stretch_28 dX0_stretch_30 dX0_stretch_33 (fun x hx => (htab x hx).elim) (Nat.le_of_ble_eq_true rfl) (Nat.le_of_ble_eq_true rfl) (Nat.le_of_ble_eq_true rfl) (Nat.le_of_ble_eq_true rfl) hlocks (fun t ha hsz hk => ⟨(), trivial, ⟨Or.inr (⟨rfl, kd_2 h1 (by unfold ok_len; omega)⟩), hP.kept (fun k q hq => hk q.1 (hP k q hq).lt), va_K.moved ha hK, hD⟩, Nat.le_trans hS.1 hsz, fun q h1 h2 => (hk q (Nat.lt_of_lt_of_le h1 hS.1)).trans (hS.2.1 q h1 h2)⟩) hS.2.2 (Nat.le_of_ble_eq_true rfl) (Nat.le_of_ble_eq_true rfl)
  · -- not taken at 11
    have c11 := bI_ne0.mp c11
    refine lv_iload_n hx hb dX0_stretch_14 rfl (lv_at hl 2 rfl) ?_
    refine lv_iconst (v := 1) hx hb dX0_stretch_15 (by decide) ?_
    refine lv_ldc (v := 1000000) hx hb hown k22 dX0_stretch_16 ?_
    refine vp_callSi (W.runS (As := [.int p2, .int 1, .int 1000000]) (rest := []) ⟨hx, hb, hml, hown, hts⟩ (c_X0_isWithin l p2 1 1000000 1 1000000 (by decide) (by decide)) (va_cwS 3 hts (gS wl_X0_23 ws_X0_isWithin wi_X0 wc_X0_isWithin) rfl rfl rfl (by decide +kernel) ⟨Nat.le_of_ble_eq_true rfl, Nat.le_of_ble_eq_true rfl⟩) ⟨fun _ _ _ _ q => q, fun U hU hW => ⟨rfl, trivial⟩⟩ rfl rfl hl.1 rfl (lv_room (Nat.le_of_ble_eq_true rfl)) dX0_stretch_18 ⟨Nat.le_of_ble_eq_true rfl, Nat.le_of_ble_eq_true rfl⟩) (fun r18 h18 => ?_)
    subst h18
    refine lv_if_ne (tgt := 34) hx hb dX0_stretch_21 (by decide) (fun c21 => ?_) (fun c21 => ?_)
    · -- taken at 21
      have c21 := bI_ne0.mp c21
      have hok : ok_len p1 p2 := by unfold ok_len; omega
      obtain ⟨s1, s2, s3⟩ := str_e hok
      refine lv_iload_n hx hb dX0_stretch_34 rfl (lv_at hl 2 rfl) ?_
      refine lv_iload_n hx hb dX0_stretch_35 rfl (lv_at hl 1 rfl) ?_
      refine lv_isub hx hb dX0_stretch_36 ?_
      refine lv_i2l hx hb dX0_stretch_37 rfl ?_
      refine lv_iload_n hx hb dX0_stretch_38 rfl (lv_at hl 1 rfl) ?_
      refine lv_i2l hx hb dX0_stretch_39 rfl ?_
      refine lv_iload_n hx hb dX0_stretch_40 rfl (lv_at hl 3 rfl) ?_
      refine vp_callSl (W.runS (As := [.long ((p2 - p1).toInt64), .long p1.toInt64, .int p3]) (rest := []) ⟨hx, hb, hml, hown, hts⟩ (c_X0_partInLowestTerms l ((p2 - p1).toInt64) p1.toInt64 p3 (by omega) (by omega) (by omega)) (va_cwS 3 hts (gS wl_X0_75 ws_X0_partInLowestTerms wi_X0 wc_X0_partInLowestTerms) rfl rfl rfl (by decide +kernel) ⟨Nat.le_of_ble_eq_true rfl, Nat.le_of_ble_eq_true rfl⟩) ⟨fun _ _ _ _ q => q, fun U hU hW => ⟨rfl, trivial⟩⟩ rfl rfl hl.1 rfl (lv_room (Nat.le_of_ble_eq_true rfl)) dX0_stretch_41 ⟨Nat.le_of_ble_eq_true rfl, Nat.le_of_ble_eq_true rfl⟩) (fun r41 h41 => ?_)
      refine vx_ret ?_
      refine W.widen (k := 2) (n := 12) (Nat.le_of_ble_eq_true rfl) (Nat.le_of_ble_eq_true rfl) ?_
      exact W.lret (v := r41) hx hb hr (fun t ht hW => ⟨⟨r41, (), rfl, ⟨kd_0 h1 hok trivial trivial, sl_r s1 s2 h41⟩, ⟨by rw [ht]; exact hP, va_K.moved hW.alike hK, hD⟩⟩, hS.F ht⟩) hS.2.2 dX0_stretch_44
    · -- not taken at 21
      have c21 := bI_eq0.mp c21
      exact vx_throwS (own := RX0) (cls := "java/lang/IllegalArgumentException") (names := ["java/lang/RuntimeException", "java/lang/Exception"]) hx hb hL hown (by decide +kernel) (by decide +kernel) (hts _ (List.mem_cons_of_mem _ wl_X0_27)) (hts _ (List.mem_cons_of_mem _ wi_IllegalArgument)) (hG.2.2.1 (108, "lengths are 1 to 1,000,000") (by decide +kernel)) (vx_hat (L := vx_atS RX0 31 "java/lang/IllegalArgumentException" ["java/lang/RuntimeException", "java/lang/Exception"]) (B := [.castable "java/lang/IllegalArgumentException" "java/lang/IllegalArgumentException", .declares ⟨"java/lang/RuntimeException", "<init>", "(Ljava/lang/String;)V"⟩, .declares ⟨"java/lang/Exception", "<init>", "(Ljava/lang/String;)V"⟩, .declares ⟨"java/lang/Throwable", "<init>", "(Ljava/lang/String;)V"⟩]) (fun w hw => hts w (List.mem_cons_of_mem _ (xa_IllegalArgument w hw))) (by decide +kernel) (vx_c (va_Nw.use rfl (hG.2.2.2.1 ("java/lang/IllegalArgumentException", "java/lang/IllegalArgumentException") (by decide +kernel))) (vx_c (va_Nw.use rfl (hG.2.2.2.2.2 ⟨"java/lang/RuntimeException", "<init>", "(Ljava/lang/String;)V"⟩ (by decide +kernel))) (vx_c (va_Nw.use rfl (hG.2.2.2.2.2 ⟨"java/lang/Exception", "<init>", "(Ljava/lang/String;)V"⟩ (by decide +kernel))) (vx_c (va_Nw.use rfl (hG.2.2.2.2.2 ⟨"java/lang/Throwable", "<init>", "(Ljava/lang/String;)V"⟩ (by decide +kernel))) (vx_n)))))) (by decide +kernel) hZU hZN hS (hl.1.trans hml.symm) dX0_stretch_24 dX0_stretch_27 dX0_stretch_28 dX0_stretch_30 dX0_stretch_33 (fun x hx => (htab x hx).elim) (Nat.le_of_ble_eq_true rfl) (Nat.le_of_ble_eq_true rfl) (Nat.le_of_ble_eq_true rfl) (Nat.le_of_ble_eq_true rfl) hlocks (fun t ha hsz hk => ⟨(), trivial, ⟨Or.inr (⟨rfl, kd_2 h1 (by unfold ok_len; omega)⟩), hP.kept (fun k q hq => hk q.1 (hP k q hq).lt), va_K.moved ha hK, hD⟩, Nat.le_trans hS.1 hsz, fun q h1 h2 => (hk q (Nat.lt_of_lt_of_le h1 hS.1)).trans (hS.2.1 q h1 h2)⟩) hS.2.2 (Nat.le_of_ble_eq_true rfl) (Nat.le_of_ble_eq_true rfl)
set_option maxHeartbeats 4000000 in
set_option maxRecDepth 100000 in
theorem c_X0_round (l : Launch) (hL : l.stackTraces = false) (dC : Nat → ClassId) (dI : Nat → Nat → Nat) (z0 : Nat) (sa : Nat → Nat) (sz : Nat) (hz : z0 ≤ sz) (x a1 a2 a3 a4 : Nat) (cI : ClassId) (S F X Y : Nat → Int32) (n : Nat) (ar sl : Int32) (mu ml : Int64) (ck : Int32) (ic : Nat) (ds js ps ss : Int64) (tc : Nat) (y1 y2 : Int64) (p5 : Int32) : vx_Met l yX0_round wsX0_round ({ frames := 7, cells := 2, slots := 12, locals := 111 }) (va_Pc [.ref x, .long y1, .long y2, .int p5] (fun U => U.heap.size = sz ∧ va_P (dC, dI) vwCl (wX x a1 a2 a3 a4 cI S F X Y n ar sl mu ml ck ic ds js ps ss tc) U.heap ∧ va_K (dC, dI) vwCl [(cI, .int)] U ∧ va_D (fun q => z0 ≤ q) (wX x a1 a2 a3 a4 cI S F X Y n ar sl mu ml ck ic ds js ps ss tc) ∧ gl_ok z0 sa U)) (va_Ql (fun r (_ : Unit) => kd4 (0 ≤ p5.toInt ∧ p5.toInt ≤ 2) (ok_rd y1 y2) True True = 0 ∧ r.toInt = rnd y1.toInt y2.toInt p5.toInt) (fun (_ : Unit) t => at_w dC dI cI (va_A (wX x a1 a2 a3 a4 cI S F X Y n ar sl mu ml ck ic ds js ps ss tc) sz) (wX x a1 a2 a3 a4 cI S F X Y n ar sl mu ml ck ic ds js ps ss tc) t) (va_A (wX x a1 a2 a3 a4 cI S F X Y n ar sl mu ml ck ic ds js ps ss tc) sz)) (vx_X (fun _ : Unit => True) (fun E _ t => ((E = "java/lang/IndexOutOfBoundsException" ∧ kd4 (0 ≤ p5.toInt ∧ p5.toInt ≤ 2) (ok_rd y1 y2) True True = 1) ∨ (E = "java/lang/IllegalArgumentException" ∧ kd4 (0 ≤ p5.toInt ∧ p5.toInt ≤ 2) (ok_rd y1 y2) True True = 2)) ∧ at_w dC dI cI (va_A (wX x a1 a2 a3 a4 cI S F X Y n ar sl mu ml ck ic ds js ps ss tc) sz) (wX x a1 a2 a3 a4 cI S F X Y n ar sl mu ml ck ic ds js ps ss tc) t) (va_A (wX x a1 a2 a3 a4 cI S F X Y n ar sl mu ml ck ic ds js ps ss tc) sz)) 2 12 (va_A (wX x a1 a2 a3 a4 cI S F X Y n ar sl mu ml ck ic ds js ps ss tc) sz) := by
  refine vx_ofW (cc := cX0_round) (maxL := 6) (ret := (some .long)) (by decide) rfl ?_
  intro p e s m args below meth c s₁ B hml htab hv
  obtain ⟨rfl, hsz, hP, hK, hD0, hG⟩ := hv
  have hx := B.exec
  have hb := B.bytes
  have hr := B.returns
  have hts := atoms_spec (ws := wsX0_round) B.pre
  have hown : s.vm.findClass RX0 = some m.cls := findClass_of_methodNamed B.named
  have hlocks := B.notSynchronized
  have hinX0 : ∀ w ∈ wsX00, w ∈ wsX0_round := fun w h => List.mem_cons_of_mem _ (inX0 w h)
  have k155 := hts _ (List.mem_cons_of_mem _ wl_X0_155)
  have k159 := hts _ (List.mem_cons_of_mem _ wl_X0_159)
  subst hsz
  have hD := hD0.self (sz := s.heap.size)
  have hAz := az_of hD0 hz
  generalize hAe : va_A (wX x a1 a2 a3 a4 cI S F X Y n ar sl mu ml ck ic ds js ps ss tc) s.heap.size = A at hD hAz ⊢
  have hA : ∀ q : Nat, s.heap.size ≤ q → A q := fun q h => by rw [← hAe]; exact Or.inr h
  have hS : va_S A s.heap s.heap [] := va_S.rf
  have hZU := hG.1.narrow hAz
  have hZN := hG.2.1.narrow hAz
  have hl := lv_entry ([.ref x, .long y1, .long y2, .int p5]) (n := 6) (Nat.le_of_ble_eq_true rfl)
  rw [lg_entry_eq]
  generalize (lg_sl ([.ref x, .long y1, .long y2, .int p5]) ++ List.replicate (6 - (lg_sl ([.ref x, .long y1, .long y2, .int p5])).length) Slot.unset).toArray = ls at hl ⊢
  have hl : lv_has ls 6 [(0, .ref x), (1, .long y1), (3, .long y2), (5, .int p5)] := hl
  refine lv_iload hx hb dX0_round_0 (lv_at hl 3 rfl) ?_
  have hFc := va_free (wc := []) hD hS hA [] rfl
  refine vx_callv (vx_runS (As := [.int p5]) (rest := []) ⟨hx, hb, hml, hown, hts⟩ (c_X0_refuseNoSuchRule l hL z0 sa s.heap.size (Nat.le_trans hz hS.1) p5) (va_cwS 1 hts (gS wl_X0_142 ws_X0_refuseNoSuchRule wi_X0 wc_X0_refuseNoSuchRule) rfl rfl rfl (by decide +kernel) ⟨Nat.le_of_ble_eq_true rfl, Nat.le_of_ble_eq_true rfl⟩) ⟨fun a U g mk q => ⟨q.1, q.2.1, gl_blind q.2.2⟩, fun U hU hW => ⟨rfl, by rw [hU], gl_moved hG hS hAz hU hW⟩⟩ rfl rfl hl.1 rfl (lv_room (Nat.le_of_ble_eq_true rfl)) dX0_round_2 ⟨Nat.le_of_ble_eq_true rfl, Nat.le_of_ble_eq_true rfl⟩) hS (fun q _ h => hFc q h) hFc (fun q _ h => hFc q h) (fun E ce q9 u t H1 locs ht hvm hpx hB hz1 hk1 hS hce hcv hcl => ?_) (fun u t H1 locs ht hvm h2 hB hz1 hk1 hS => ?_)
  · -- thrown there
    obtain ⟨⟨rfl, hB9⟩, -⟩ := hB
    obtain ⟨hP, hD⟩ := va_join (wr := (wX x a1 a2 a3 a4 cI S F X Y n ar sl mu ml ck ic ds js ps ss tc)) (w1 := []) hP hD [] [0, 1, 2, 3, 4] rfl rfl (by decide) (by decide) hk1 hFc nil_P nil_D
    have hP : va_P (dC, dI) vwCl (wX x a1 a2 a3 a4 cI S F X Y n ar sl mu ml ck ic ds js ps ss tc) H1 := hP
    have hD : va_D A (wX x a1 a2 a3 a4 cI S F X Y n ar sl mu ml ck ic ds js ps ss tc) := hD
    exact vx_out (fun x hx => (htab x hx).elim) hlocks hce hcv hcl (fun t ht ha => ⟨(), trivial, ⟨Or.inl ⟨rfl, kd_1 hB9⟩, by rw [ht]; exact hP, va_K.moved ha hK, hD⟩, hS.F ht⟩) hS.2.2 (Nat.le_of_ble_eq_true rfl) (Nat.le_of_ble_eq_true rfl)
  obtain ⟨hP, hD⟩ := va_join (wr := (wX x a1 a2 a3 a4 cI S F X Y n ar sl mu ml ck ic ds js ps ss tc)) (w1 := []) hP hD [] [0, 1, 2, 3, 4] rfl rfl (by decide) (by decide) hk1 hFc nil_P nil_D
  generalize H1 = H at hP hS ⊢
  have hP : va_P (dC, dI) vwCl (wX x a1 a2 a3 a4 cI S F X Y n ar sl mu ml ck ic ds js ps ss tc) H := hP
  have hD : va_D A (wX x a1 a2 a3 a4 cI S F X Y n ar sl mu ml ck ic ds js ps ss tc) := hD
  refine lv_lload_n hx hb dX0_round_5 rfl (lv_at hl 2 rfl) ?_
  refine lv_lconst (v := 1) hx hb dX0_round_6 (by decide) ?_
  refine W.lcmp hx hb dX0_round_7 ?_
  refine lv_if_lt (tgt := 19) hx hb dX0_round_8 (by decide) (fun c8 => ?_) (fun c8 => ?_)
  · -- taken at 8
    have c8 := (lg_cmp_lt _ _).mp c8
    have c8 : y2.toInt < 1 := (Int64.lt_iff_toInt_lt).mp c8
    exact vx_throwS (own := RX0) (cls := "java/lang/IllegalArgumentException") (names := ["java/lang/RuntimeException", "java/lang/Exception"]) hx hb hL hown (by decide +kernel) (by decide +kernel) (hts _ (List.mem_cons_of_mem _ wl_X0_27)) (hts _ (List.mem_cons_of_mem _ wi_IllegalArgument)) (hG.2.2.1 (157, "the lower number is 1 to 1,000,000,000,000") (by decide +kernel)) (vx_hat (L := vx_atS RX0 31 "java/lang/IllegalArgumentException" ["java/lang/RuntimeException", "java/lang/Exception"]) (B := [.castable "java/lang/IllegalArgumentException" "java/lang/IllegalArgumentException", .declares ⟨"java/lang/RuntimeException", "<init>", "(Ljava/lang/String;)V"⟩, .declares ⟨"java/lang/Exception", "<init>", "(Ljava/lang/String;)V"⟩, .declares ⟨"java/lang/Throwable", "<init>", "(Ljava/lang/String;)V"⟩]) (fun w hw => hts w (List.mem_cons_of_mem _ (xa_IllegalArgument w hw))) (by decide +kernel) (vx_c (va_Nw.use rfl (hG.2.2.2.1 ("java/lang/IllegalArgumentException", "java/lang/IllegalArgumentException") (by decide +kernel))) (vx_c (va_Nw.use rfl (hG.2.2.2.2.2 ⟨"java/lang/RuntimeException", "<init>", "(Ljava/lang/String;)V"⟩ (by decide +kernel))) (vx_c (va_Nw.use rfl (hG.2.2.2.2.2 ⟨"java/lang/Exception", "<init>", "(Ljava/lang/String;)V"⟩ (by decide +kernel))) (vx_c (va_Nw.use rfl (hG.2.2.2.2.2 ⟨"java/lang/Throwable", "<init>", "(Ljava/lang/String;)V"⟩ (by decide +kernel))) (vx_n)))))) (by decide +kernel) hZU hZN hS (hl.1.trans hml.symm) dX0_round_19 dX0_round_22 dX0_round_23 dX0_round_25 dX0_round_28 (fun x hx => (htab x hx).elim) (Nat.le_of_ble_eq_true rfl) (Nat.le_of_ble_eq_true rfl) (Nat.le_of_ble_eq_true rfl) (Nat.le_of_ble_eq_true rfl) hlocks (fun t ha hsz hk => ⟨(), trivial, ⟨Or.inr (⟨rfl, kd_2 h2 (by unfold ok_rd; omega)⟩), hP.kept (fun k q hq => hk q.1 (hP k q hq).lt), va_K.moved ha hK, hD⟩, Nat.le_trans hS.1 hsz, fun q h1 h2 => (hk q (Nat.lt_of_lt_of_le h1 hS.1)).trans (hS.2.1 q h1 h2)⟩) hS.2.2 (Nat.le_of_ble_eq_true rfl) (Nat.le_of_ble_eq_true rfl)
  · -- not taken at 8
    have c8 := fun q9 => c8 ((lg_cmp_lt _ _).mpr q9)
    have c8 : ¬ y2.toInt < 1 := fun q9 => c8 ((Int64.lt_iff_toInt_lt).mpr q9)
    refine lv_lload_n hx hb dX0_round_11 rfl (lv_at hl 2 rfl) ?_
    refine lv_ldc2 (v := 1000000000000) hx hb hown k155 dX0_round_12 ?_
    refine W.lcmp hx hb dX0_round_15 ?_
    refine lv_if_le (tgt := 29) hx hb dX0_round_16 (by decide) (fun c16 => ?_) (fun c16 => ?_)
    · -- taken at 16
      have c16 := (lg_cmp_le _ _).mp c16
      have c16 : y2.toInt ≤ 1000000000000 := (Int64.le_iff_toInt_le).mp c16
      refine lv_lload_n hx hb dX0_round_29 rfl (lv_at hl 1 rfl) ?_
      refine lv_ldc2 (v := (-1000000000000)) hx hb hown k159 dX0_round_30 ?_
      refine W.lcmp hx hb dX0_round_33 ?_
      refine lv_if_lt (tgt := 45) hx hb dX0_round_34 (by decide) (fun c34 => ?_) (fun c34 => ?_)
      · -- taken at 34
        have c34 := (lg_cmp_lt _ _).mp c34
        have c34 : y1.toInt < (-1000000000000) := (Int64.lt_iff_toInt_lt).mp c34
        exact vx_throwS (own := RX0) (cls := "java/lang/IllegalArgumentException") (names := ["java/lang/RuntimeException", "java/lang/Exception"]) hx hb hL hown (by decide +kernel) (by decide +kernel) (hts _ (List.mem_cons_of_mem _ wl_X0_27)) (hts _ (List.mem_cons_of_mem _ wi_IllegalArgument)) (hG.2.2.1 (161, "the upper number is at most 1,000,000,000,000 from 0") (by decide +kernel)) (vx_hat (L := vx_atS RX0 31 "java/lang/IllegalArgumentException" ["java/lang/RuntimeException", "java/lang/Exception"]) (B := [.castable "java/lang/IllegalArgumentException" "java/lang/IllegalArgumentException", .declares ⟨"java/lang/RuntimeException", "<init>", "(Ljava/lang/String;)V"⟩, .declares ⟨"java/lang/Exception", "<init>", "(Ljava/lang/String;)V"⟩, .declares ⟨"java/lang/Throwable", "<init>", "(Ljava/lang/String;)V"⟩]) (fun w hw => hts w (List.mem_cons_of_mem _ (xa_IllegalArgument w hw))) (by decide +kernel) (vx_c (va_Nw.use rfl (hG.2.2.2.1 ("java/lang/IllegalArgumentException", "java/lang/IllegalArgumentException") (by decide +kernel))) (vx_c (va_Nw.use rfl (hG.2.2.2.2.2 ⟨"java/lang/RuntimeException", "<init>", "(Ljava/lang/String;)V"⟩ (by decide +kernel))) (vx_c (va_Nw.use rfl (hG.2.2.2.2.2 ⟨"java/lang/Exception", "<init>", "(Ljava/lang/String;)V"⟩ (by decide +kernel))) (vx_c (va_Nw.use rfl (hG.2.2.2.2.2 ⟨"java/lang/Throwable", "<init>", "(Ljava/lang/String;)V"⟩ (by decide +kernel))) (vx_n)))))) (by decide +kernel) hZU hZN hS (hl.1.trans hml.symm) dX0_round_45 dX0_round_48 dX0_round_49 dX0_round_51 dX0_round_54 (fun x hx => (htab x hx).elim) (Nat.le_of_ble_eq_true rfl) (Nat.le_of_ble_eq_true rfl) (Nat.le_of_ble_eq_true rfl) (Nat.le_of_ble_eq_true rfl) hlocks (fun t ha hsz hk => ⟨(), trivial, ⟨Or.inr (⟨rfl, kd_2 h2 (by unfold ok_rd; omega)⟩), hP.kept (fun k q hq => hk q.1 (hP k q hq).lt), va_K.moved ha hK, hD⟩, Nat.le_trans hS.1 hsz, fun q h1 h2 => (hk q (Nat.lt_of_lt_of_le h1 hS.1)).trans (hS.2.1 q h1 h2)⟩) hS.2.2 (Nat.le_of_ble_eq_true rfl) (Nat.le_of_ble_eq_true rfl)
      · -- not taken at 34
        have c34 := fun q9 => c34 ((lg_cmp_lt _ _).mpr q9)
        have c34 : ¬ y1.toInt < (-1000000000000) := fun q9 => c34 ((Int64.lt_iff_toInt_lt).mpr q9)
        refine lv_lload_n hx hb dX0_round_37 rfl (lv_at hl 1 rfl) ?_
        refine lv_ldc2 (v := 1000000000000) hx hb hown k155 dX0_round_38 ?_
        refine W.lcmp hx hb dX0_round_41 ?_
        refine lv_if_le (tgt := 55) hx hb dX0_round_42 (by decide) (fun c42 => ?_) (fun c42 => ?_)
        · -- taken at 42
          have c42 := (lg_cmp_le _ _).mp c42
          have c42 : y1.toInt ≤ 1000000000000 := (Int64.le_iff_toInt_le).mp c42
          refine lv_lload_n hx hb dX0_round_55 rfl (lv_at hl 1 rfl) ?_
          refine lv_lload_n hx hb dX0_round_56 rfl (lv_at hl 2 rfl) ?_
          refine lv_iload hx hb dX0_round_57 (lv_at hl 3 rfl) ?_
          refine vp_callSl (W.runS (As := [.long y1, .long y2, .int p5]) (rest := []) ⟨hx, hb, hml, hown, hts⟩ (c_X0_roundedByRule l y1 y2 p5 (by omega) (by omega) (by omega) (by omega)) (va_cwS 3 hts (gS wl_X0_152 ws_X0_roundedByRule wi_X0 wc_X0_roundedByRule) rfl rfl rfl (by decide +kernel) ⟨Nat.le_of_ble_eq_true rfl, Nat.le_of_ble_eq_true rfl⟩) ⟨fun _ _ _ _ q => q, fun U hU hW => ⟨rfl, trivial⟩⟩ rfl rfl hl.1 rfl (lv_room (Nat.le_of_ble_eq_true rfl)) dX0_round_59 ⟨Nat.le_of_ble_eq_true rfl, Nat.le_of_ble_eq_true rfl⟩) (fun r59 h59 => ?_)
          refine vx_ret ?_
          refine W.widen (k := 2) (n := 12) (Nat.le_of_ble_eq_true rfl) (Nat.le_of_ble_eq_true rfl) ?_
          exact W.lret (v := r59) hx hb hr (fun t ht hW => ⟨⟨r59, (), rfl, ⟨kd_0 h2 (by unfold ok_rd; omega) trivial trivial, h59⟩, ⟨by rw [ht]; exact hP, va_K.moved hW.alike hK, hD⟩⟩, hS.F ht⟩) hS.2.2 dX0_round_62
        · -- not taken at 42
          have c42 := fun q9 => c42 ((lg_cmp_le _ _).mpr q9)
          have c42 : ¬ y1.toInt ≤ 1000000000000 := fun q9 => c42 ((Int64.le_iff_toInt_le).mpr q9)
          exact vx_throwS (own := RX0) (cls := "java/lang/IllegalArgumentException") (names := ["java/lang/RuntimeException", "java/lang/Exception"]) hx hb hL hown (by decide +kernel) (by decide +kernel) (hts _ (List.mem_cons_of_mem _ wl_X0_27)) (hts _ (List.mem_cons_of_mem _ wi_IllegalArgument)) (hG.2.2.1 (161, "the upper number is at most 1,000,000,000,000 from 0") (by decide +kernel)) (vx_hat (L := vx_atS RX0 31 "java/lang/IllegalArgumentException" ["java/lang/RuntimeException", "java/lang/Exception"]) (B := [.castable "java/lang/IllegalArgumentException" "java/lang/IllegalArgumentException", .declares ⟨"java/lang/RuntimeException", "<init>", "(Ljava/lang/String;)V"⟩, .declares ⟨"java/lang/Exception", "<init>", "(Ljava/lang/String;)V"⟩, .declares ⟨"java/lang/Throwable", "<init>", "(Ljava/lang/String;)V"⟩]) (fun w hw => hts w (List.mem_cons_of_mem _ (xa_IllegalArgument w hw))) (by decide +kernel) (vx_c (va_Nw.use rfl (hG.2.2.2.1 ("java/lang/IllegalArgumentException", "java/lang/IllegalArgumentException") (by decide +kernel))) (vx_c (va_Nw.use rfl (hG.2.2.2.2.2 ⟨"java/lang/RuntimeException", "<init>", "(Ljava/lang/String;)V"⟩ (by decide +kernel))) (vx_c (va_Nw.use rfl (hG.2.2.2.2.2 ⟨"java/lang/Exception", "<init>", "(Ljava/lang/String;)V"⟩ (by decide +kernel))) (vx_c (va_Nw.use rfl (hG.2.2.2.2.2 ⟨"java/lang/Throwable", "<init>", "(Ljava/lang/String;)V"⟩ (by decide +kernel))) (vx_n)))))) (by decide +kernel) hZU hZN hS (hl.1.trans hml.symm) dX0_round_45 dX0_round_48 dX0_round_49 dX0_round_51 dX0_round_54 (fun x hx => (htab x hx).elim) (Nat.le_of_ble_eq_true rfl) (Nat.le_of_ble_eq_true rfl) (Nat.le_of_ble_eq_true rfl) (Nat.le_of_ble_eq_true rfl) hlocks (fun t ha hsz hk => ⟨(), trivial, ⟨Or.inr (⟨rfl, kd_2 h2 (by unfold ok_rd; omega)⟩), hP.kept (fun k q hq => hk q.1 (hP k q hq).lt), va_K.moved ha hK, hD⟩, Nat.le_trans hS.1 hsz, fun q h1 h2 => (hk q (Nat.lt_of_lt_of_le h1 hS.1)).trans (hS.2.1 q h1 h2)⟩) hS.2.2 (Nat.le_of_ble_eq_true rfl) (Nat.le_of_ble_eq_true rfl)
    · -- not taken at 16
      have c16 := fun q9 => c16 ((lg_cmp_le _ _).mpr q9)
      have c16 : ¬ y2.toInt ≤ 1000000000000 := fun q9 => c16 ((Int64.le_iff_toInt_le).mpr q9)
      exact vx_throwS (own := RX0) (cls := "java/lang/IllegalArgumentException") (names := ["java/lang/RuntimeException", "java/lang/Exception"]) hx hb hL hown (by decide +kernel) (by decide +kernel) (hts _ (List.mem_cons_of_mem _ wl_X0_27)) (hts _ (List.mem_cons_of_mem _ wi_IllegalArgument)) (hG.2.2.1 (157, "the lower number is 1 to 1,000,000,000,000") (by decide +kernel)) (vx_hat (L := vx_atS RX0 31 "java/lang/IllegalArgumentException" ["java/lang/RuntimeException", "java/lang/Exception"]) (B := [.castable "java/lang/IllegalArgumentException" "java/lang/IllegalArgumentException", .declares ⟨"java/lang/RuntimeException", "<init>", "(Ljava/lang/String;)V"⟩, .declares ⟨"java/lang/Exception", "<init>", "(Ljava/lang/String;)V"⟩, .declares ⟨"java/lang/Throwable", "<init>", "(Ljava/lang/String;)V"⟩]) (fun w hw => hts w (List.mem_cons_of_mem _ (xa_IllegalArgument w hw))) (by decide +kernel) (vx_c (va_Nw.use rfl (hG.2.2.2.1 ("java/lang/IllegalArgumentException", "java/lang/IllegalArgumentException") (by decide +kernel))) (vx_c (va_Nw.use rfl (hG.2.2.2.2.2 ⟨"java/lang/RuntimeException", "<init>", "(Ljava/lang/String;)V"⟩ (by decide +kernel))) (vx_c (va_Nw.use rfl (hG.2.2.2.2.2 ⟨"java/lang/Exception", "<init>", "(Ljava/lang/String;)V"⟩ (by decide +kernel))) (vx_c (va_Nw.use rfl (hG.2.2.2.2.2 ⟨"java/lang/Throwable", "<init>", "(Ljava/lang/String;)V"⟩ (by decide +kernel))) (vx_n)))))) (by decide +kernel) hZU hZN hS (hl.1.trans hml.symm) dX0_round_19 dX0_round_22 dX0_round_23 dX0_round_25 dX0_round_28 (fun x hx => (htab x hx).elim) (Nat.le_of_ble_eq_true rfl) (Nat.le_of_ble_eq_true rfl) (Nat.le_of_ble_eq_true rfl) (Nat.le_of_ble_eq_true rfl) hlocks (fun t ha hsz hk => ⟨(), trivial, ⟨Or.inr (⟨rfl, kd_2 h2 (by unfold ok_rd; omega)⟩), hP.kept (fun k q hq => hk q.1 (hP k q hq).lt), va_K.moved ha hK, hD⟩, Nat.le_trans hS.1 hsz, fun q h1 h2 => (hk q (Nat.lt_of_lt_of_le h1 hS.1)).trans (hS.2.1 q h1 h2)⟩) hS.2.2 (Nat.le_of_ble_eq_true rfl) (Nat.le_of_ble_eq_true rfl)
set_option maxHeartbeats 4000000 in
set_option maxRecDepth 100000 in
theorem c_X0_fitted (l : Launch) (hL : l.stackTraces = false) (dC : Nat → ClassId) (dI : Nat → Nat → Nat) (z0 : Nat) (sa : Nat → Nat) (sz : Nat) (hz : z0 ≤ sz) (x a1 a2 a3 a4 : Nat) (cI : ClassId) (S F X Y : Nat → Int32) (n : Nat) (ar sl : Int32) (mu ml : Int64) (ck : Int32) (ic : Nat) (ds js ps ss : Int64) (tc : Nat) (p1 p2 : Int32) (hi8 : ic ≤ 8) (hds : -1600 ≤ ds.toInt ∧ ds.toInt ≤ 1600) (hjs : 0 ≤ js.toInt ∧ js.toInt ≤ 3200) (hps : -640000 ≤ ps.toInt ∧ ps.toInt ≤ 640000) (hss : 0 ≤ ss.toInt ∧ ss.toInt ≤ 320000) : vx_Met l yX0_fitted wsX0_fitted ({ frames := 7, cells := 2, slots := 12, locals := 111 }) (va_Pc [.ref x, .int p1, .int p2] (fun U => U.heap.size = sz ∧ va_P (dC, dI) vwCl (wX x a1 a2 a3 a4 cI S F X Y n ar sl mu ml ck ic ds js ps ss tc) U.heap ∧ va_K (dC, dI) vwCl [(cI, .int)] U ∧ va_D (fun q => z0 ≤ q) (wX x a1 a2 a3 a4 cI S F X Y n ar sl mu ml ck ic ds js ps ss tc) ∧ gl_ok z0 sa U)) (va_Ql (fun r (_ : Unit) => kd4 (0 ≤ p2.toInt ∧ p2.toInt ≤ 1) (0 < ((ic : Int) * ss.toInt - ds.toInt * ds.toInt)) (-200 ≤ p1.toInt ∧ p1.toInt ≤ 200) True = 0 ∧ r.toInt = fr (js.toInt * ((ic : Int) * ss.toInt - ds.toInt * ds.toInt) + ((ic : Int) * ps.toInt - ds.toInt * js.toInt) * ((ic : Int) * p1.toInt - ds.toInt)) ((ic : Int) * ((ic : Int) * ss.toInt - ds.toInt * ds.toInt)) p2.toInt) (fun (_ : Unit) t => at_w dC dI cI (va_A (wX x a1 a2 a3 a4 cI S F X Y n ar sl mu ml ck ic ds js ps ss tc) sz) (wX x a1 a2 a3 a4 cI S F X Y n ar sl mu ml ck ic ds js ps ss tc) t) (va_A (wX x a1 a2 a3 a4 cI S F X Y n ar sl mu ml ck ic ds js ps ss tc) sz)) (vx_X (fun _ : Unit => True) (fun E _ t => ((E = "java/lang/IndexOutOfBoundsException" ∧ kd4 (0 ≤ p2.toInt ∧ p2.toInt ≤ 1) (0 < ((ic : Int) * ss.toInt - ds.toInt * ds.toInt)) (-200 ≤ p1.toInt ∧ p1.toInt ≤ 200) True = 1) ∨ (E = "java/lang/IllegalStateException" ∧ kd4 (0 ≤ p2.toInt ∧ p2.toInt ≤ 1) (0 < ((ic : Int) * ss.toInt - ds.toInt * ds.toInt)) (-200 ≤ p1.toInt ∧ p1.toInt ≤ 200) True = 2) ∨ (E = "java/lang/IllegalArgumentException" ∧ kd4 (0 ≤ p2.toInt ∧ p2.toInt ≤ 1) (0 < ((ic : Int) * ss.toInt - ds.toInt * ds.toInt)) (-200 ≤ p1.toInt ∧ p1.toInt ≤ 200) True = 3)) ∧ at_w dC dI cI (va_A (wX x a1 a2 a3 a4 cI S F X Y n ar sl mu ml ck ic ds js ps ss tc) sz) (wX x a1 a2 a3 a4 cI S F X Y n ar sl mu ml ck ic ds js ps ss tc) t) (va_A (wX x a1 a2 a3 a4 cI S F X Y n ar sl mu ml ck ic ds js ps ss tc) sz)) 2 12 (va_A (wX x a1 a2 a3 a4 cI S F X Y n ar sl mu ml ck ic ds js ps ss tc) sz) := by
  refine vx_ofW (cc := cX0_fitted) (maxL := 9) (ret := (some .long)) (by decide) rfl ?_
  intro p e s m args below meth c s₁ B hml htab hv
  obtain ⟨rfl, hsz, hP, hK, hD0, hG⟩ := hv
  have hx := B.exec
  have hb := B.bytes
  have hr := B.returns
  have hts := atoms_spec (ws := wsX0_fitted) B.pre
  have hown : s.vm.findClass RX0 = some m.cls := findClass_of_methodNamed B.named
  have hlocks := B.notSynchronized
  have hinX0 : ∀ w ∈ wsX00, w ∈ wsX0_fitted := fun w h => List.mem_cons_of_mem _ (inX0 w h)
  have f112 := hts _ (List.mem_cons_of_mem _ wl_X0_112)
  have f126 := hts _ (List.mem_cons_of_mem _ wl_X0_126)
  have f117 := hts _ (List.mem_cons_of_mem _ wl_X0_117)
  have f123 := hts _ (List.mem_cons_of_mem _ wl_X0_123)
  have f120 := hts _ (List.mem_cons_of_mem _ wl_X0_120)
  subst hsz
  have hD := hD0.self (sz := s.heap.size)
  have hAz := az_of hD0 hz
  generalize hAe : va_A (wX x a1 a2 a3 a4 cI S F X Y n ar sl mu ml ck ic ds js ps ss tc) s.heap.size = A at hD hAz ⊢
  have hA : ∀ q : Nat, s.heap.size ≤ q → A q := fun q h => by rw [← hAe]; exact Or.inr h
  have hS : va_S A s.heap s.heap [] := va_S.rf
  have hZU := hG.1.narrow hAz
  have hZN := hG.2.1.narrow hAz
  have hl := lv_entry ([.ref x, .int p1, .int p2]) (n := 9) (Nat.le_of_ble_eq_true rfl)
  rw [lg_entry_eq]
  generalize (lg_sl ([.ref x, .int p1, .int p2]) ++ List.replicate (9 - (lg_sl ([.ref x, .int p1, .int p2])).length) Slot.unset).toArray = ls at hl ⊢
  have hl : lv_has ls 9 [(0, .ref x), (1, .int p1), (2, .int p2)] := hl
  refine lv_iload_n hx hb dX0_fitted_0 rfl (lv_at hl 2 rfl) ?_
  have hFc := va_free (wc := []) hD hS hA [] rfl
  refine vx_callv (vx_runS (As := [.int p2]) (rest := []) ⟨hx, hb, hml, hown, hts⟩ (c_X0_refuseNoSuchPart l hL z0 sa s.heap.size (Nat.le_trans hz hS.1) p2) (va_cwS 1 hts (gS wl_X0_53 ws_X0_refuseNoSuchPart wi_X0 wc_X0_refuseNoSuchPart) rfl rfl rfl (by decide +kernel) ⟨Nat.le_of_ble_eq_true rfl, Nat.le_of_ble_eq_true rfl⟩) ⟨fun a U g mk q => ⟨q.1, q.2.1, gl_blind q.2.2⟩, fun U hU hW => ⟨rfl, by rw [hU], gl_moved hG hS hAz hU hW⟩⟩ rfl rfl hl.1 rfl (lv_room (Nat.le_of_ble_eq_true rfl)) dX0_fitted_1 ⟨Nat.le_of_ble_eq_true rfl, Nat.le_of_ble_eq_true rfl⟩) hS (fun q _ h => hFc q h) hFc (fun q _ h => hFc q h) (fun E ce q9 u t H1 locs ht hvm hpx hB hz1 hk1 hS hce hcv hcl => ?_) (fun u t H1 locs ht hvm h1 hB hz1 hk1 hS => ?_)
  · -- thrown there
    obtain ⟨⟨rfl, hB9⟩, -⟩ := hB
    obtain ⟨hP, hD⟩ := va_join (wr := (wX x a1 a2 a3 a4 cI S F X Y n ar sl mu ml ck ic ds js ps ss tc)) (w1 := []) hP hD [] [0, 1, 2, 3, 4] rfl rfl (by decide) (by decide) hk1 hFc nil_P nil_D
    have hP : va_P (dC, dI) vwCl (wX x a1 a2 a3 a4 cI S F X Y n ar sl mu ml ck ic ds js ps ss tc) H1 := hP
    have hD : va_D A (wX x a1 a2 a3 a4 cI S F X Y n ar sl mu ml ck ic ds js ps ss tc) := hD
    exact vx_out (fun x hx => (htab x hx).elim) hlocks hce hcv hcl (fun t ht ha => ⟨(), trivial, ⟨Or.inl ⟨rfl, kd_1 hB9⟩, by rw [ht]; exact hP, va_K.moved ha hK, hD⟩, hS.F ht⟩) hS.2.2 (Nat.le_of_ble_eq_true rfl) (Nat.le_of_ble_eq_true rfl)
  obtain ⟨hP, hD⟩ := va_join (wr := (wX x a1 a2 a3 a4 cI S F X Y n ar sl mu ml ck ic ds js ps ss tc)) (w1 := []) hP hD [] [0, 1, 2, 3, 4] rfl rfl (by decide) (by decide) hk1 hFc nil_P nil_D
  generalize H1 = H at hP hS ⊢
  have hP : va_P (dC, dI) vwCl (wX x a1 a2 a3 a4 cI S F X Y n ar sl mu ml ck ic ds js ps ss tc) H := hP
  have hD : va_D A (wX x a1 a2 a3 a4 cI S F X Y n ar sl mu ml ck ic ds js ps ss tc) := hD
  obtain ⟨g1, g2⟩ := fitx_b hi8 hds hss
  refine lv_aload_n hx hb dX0_fitted_4 rfl (lv_at hl 0 rfl) ?_
  refine va_get (D := (dC, dI)) (ci := 0) (v := .int (nI ic)) (C := RX0) (T := TX0) (N := 16) hx hb hts hinX0 hown hK hP 0 rfl rfl 8 (by decide) f112 (fun _ h9 => h9) rfl dX0_fitted_5 ?_
  refine lv_i2l hx hb dX0_fitted_8 rfl ?_
  refine lv_aload_n hx hb dX0_fitted_9 rfl (lv_at hl 0 rfl) ?_
  refine va_get (D := (dC, dI)) (ci := 0) (v := .long ss) (C := RX0) (T := TX0) (N := 16) hx hb hts hinX0 hown hK hP 0 rfl rfl 12 (by decide) f126 (fun _ h9 => h9) rfl dX0_fitted_10 ?_
  refine lv_lmul hx hb dX0_fitted_13 ?_
  refine lv_aload_n hx hb dX0_fitted_14 rfl (lv_at hl 0 rfl) ?_
  refine va_get (D := (dC, dI)) (ci := 0) (v := .long ds) (C := RX0) (T := TX0) (N := 16) hx hb hts hinX0 hown hK hP 0 rfl rfl 9 (by decide) f117 (fun _ h9 => h9) rfl dX0_fitted_15 ?_
  refine lv_aload_n hx hb dX0_fitted_18 rfl (lv_at hl 0 rfl) ?_
  refine va_get (D := (dC, dI)) (ci := 0) (v := .long ds) (C := RX0) (T := TX0) (N := 16) hx hb hts hinX0 hown hK hP 0 rfl rfl 9 (by decide) f117 (fun _ h9 => h9) rfl dX0_fitted_19 ?_
  refine lv_lmul hx hb dX0_fitted_22 ?_
  refine lv_lsub hx hb dX0_fitted_23 ?_
  refine lv_lstore_n (lv' := [(3, .long ((((nI ic).toInt64) * ss) - (ds * ds))), (0, .ref x), (1, .int p1), (2, .int p2)]) hx hb dX0_fitted_24 rfl hl (by decide) rfl (fun ls hl => ?_)
  refine lv_lload_n hx hb dX0_fitted_25 rfl (lv_at hl 0 rfl) ?_
  refine lv_lconst (v := 0) hx hb dX0_fitted_26 (by decide) ?_
  refine W.lcmp hx hb dX0_fitted_27 ?_
  refine lv_if_gt (tgt := 41) hx hb dX0_fitted_28 (by decide) (fun c28 => ?_) (fun c28 => ?_)
  · -- taken at 28
    have c28 := (lg_cmp_gt _ _).mp c28
    have c28 : 0 < ((((nI ic).toInt64) * ss) - (ds * ds)).toInt := (Int64.lt_iff_toInt_lt).mp c28
    refine lv_iload_n hx hb dX0_fitted_41 rfl (lv_at hl 2 rfl) ?_
    refine lv_sipush (v := (-200)) hx hb dX0_fitted_42 (by decide) ?_
    refine lv_sipush (v := 200) hx hb dX0_fitted_45 (by decide) ?_
    refine vp_callSi (W.runS (As := [.int p1, .int (-200), .int 200]) (rest := []) ⟨hx, hb, hml, hown, hts⟩ (c_X0_isWithin l p1 (-200) 200 (-200) 200 (by decide) (by decide)) (va_cwS 3 hts (gS wl_X0_23 ws_X0_isWithin wi_X0 wc_X0_isWithin) rfl rfl rfl (by decide +kernel) ⟨Nat.le_of_ble_eq_true rfl, Nat.le_of_ble_eq_true rfl⟩) ⟨fun _ _ _ _ q => q, fun U hU hW => ⟨rfl, trivial⟩⟩ rfl rfl hl.1 rfl (lv_room (Nat.le_of_ble_eq_true rfl)) dX0_fitted_48 ⟨Nat.le_of_ble_eq_true rfl, Nat.le_of_ble_eq_true rfl⟩) (fun r48 h48 => ?_)
    subst h48
    refine lv_if_ne (tgt := 64) hx hb dX0_fitted_51 (by decide) (fun c51 => ?_) (fun c51 => ?_)
    · -- taken at 51
      have c51 := bI_ne0.mp c51
      obtain ⟨k1, k2, k3, k4, k5⟩ := fitx_u hi8 hds hjs hps hss (show 0 < _ from by omega) c51
      refine lv_aload_n hx hb dX0_fitted_64 rfl (lv_at hl 1 rfl) ?_
      refine va_get (D := (dC, dI)) (ci := 0) (v := .int (nI ic)) (C := RX0) (T := TX0) (N := 16) hx hb hts hinX0 hown hK hP 0 rfl rfl 8 (by decide) f112 (fun _ h9 => h9) rfl dX0_fitted_65 ?_
      refine lv_i2l hx hb dX0_fitted_68 rfl ?_
      refine lv_aload_n hx hb dX0_fitted_69 rfl (lv_at hl 1 rfl) ?_
      refine va_get (D := (dC, dI)) (ci := 0) (v := .long ps) (C := RX0) (T := TX0) (N := 16) hx hb hts hinX0 hown hK hP 0 rfl rfl 11 (by decide) f123 (fun _ h9 => h9) rfl dX0_fitted_70 ?_
      refine lv_lmul hx hb dX0_fitted_73 ?_
      refine lv_aload_n hx hb dX0_fitted_74 rfl (lv_at hl 1 rfl) ?_
      refine va_get (D := (dC, dI)) (ci := 0) (v := .long ds) (C := RX0) (T := TX0) (N := 16) hx hb hts hinX0 hown hK hP 0 rfl rfl 9 (by decide) f117 (fun _ h9 => h9) rfl dX0_fitted_75 ?_
      refine lv_aload_n hx hb dX0_fitted_78 rfl (lv_at hl 1 rfl) ?_
      refine va_get (D := (dC, dI)) (ci := 0) (v := .long js) (C := RX0) (T := TX0) (N := 16) hx hb hts hinX0 hown hK hP 0 rfl rfl 10 (by decide) f120 (fun _ h9 => h9) rfl dX0_fitted_79 ?_
      refine lv_lmul hx hb dX0_fitted_82 ?_
      refine lv_lsub hx hb dX0_fitted_83 ?_
      refine lv_lstore (lv' := [(5, .long ((((nI ic).toInt64) * ps) - (ds * js))), (3, .long ((((nI ic).toInt64) * ss) - (ds * ds))), (0, .ref x), (1, .int p1), (2, .int p2)]) hx hb dX0_fitted_84 hl (by decide) rfl (fun ls hl => ?_)
      refine lv_aload_n hx hb dX0_fitted_86 rfl (lv_at hl 2 rfl) ?_
      refine va_get (D := (dC, dI)) (ci := 0) (v := .long js) (C := RX0) (T := TX0) (N := 16) hx hb hts hinX0 hown hK hP 0 rfl rfl 10 (by decide) f120 (fun _ h9 => h9) rfl dX0_fitted_87 ?_
      refine lv_lload_n hx hb dX0_fitted_90 rfl (lv_at hl 1 rfl) ?_
      refine lv_lmul hx hb dX0_fitted_91 ?_
      refine lv_lload hx hb dX0_fitted_92 (lv_at hl 0 rfl) ?_
      refine lv_aload_n hx hb dX0_fitted_94 rfl (lv_at hl 2 rfl) ?_
      refine va_get (D := (dC, dI)) (ci := 0) (v := .int (nI ic)) (C := RX0) (T := TX0) (N := 16) hx hb hts hinX0 hown hK hP 0 rfl rfl 8 (by decide) f112 (fun _ h9 => h9) rfl dX0_fitted_95 ?_
      refine lv_iload_n hx hb dX0_fitted_98 rfl (lv_at hl 3 rfl) ?_
      refine lv_imul hx hb dX0_fitted_99 ?_
      refine lv_i2l hx hb dX0_fitted_100 rfl ?_
      refine lv_aload_n hx hb dX0_fitted_101 rfl (lv_at hl 2 rfl) ?_
      refine va_get (D := (dC, dI)) (ci := 0) (v := .long ds) (C := RX0) (T := TX0) (N := 16) hx hb hts hinX0 hown hK hP 0 rfl rfl 9 (by decide) f117 (fun _ h9 => h9) rfl dX0_fitted_102 ?_
      refine lv_lsub hx hb dX0_fitted_105 ?_
      refine lv_lmul hx hb dX0_fitted_106 ?_
      refine lv_ladd hx hb dX0_fitted_107 ?_
      refine lv_lstore (lv' := [(7, .long ((js * ((((nI ic).toInt64) * ss) - (ds * ds))) + (((((nI ic).toInt64) * ps) - (ds * js)) * ((((nI ic) * p1).toInt64) - ds)))), (5, .long ((((nI ic).toInt64) * ps) - (ds * js))), (3, .long ((((nI ic).toInt64) * ss) - (ds * ds))), (0, .ref x), (1, .int p1), (2, .int p2)]) hx hb dX0_fitted_108 hl (by decide) rfl (fun ls hl => ?_)
      refine lv_lload hx hb dX0_fitted_110 (lv_at hl 0 rfl) ?_
      refine lv_aload_n hx hb dX0_fitted_112 rfl (lv_at hl 3 rfl) ?_
      refine va_get (D := (dC, dI)) (ci := 0) (v := .int (nI ic)) (C := RX0) (T := TX0) (N := 16) hx hb hts hinX0 hown hK hP 0 rfl rfl 8 (by decide) f112 (fun _ h9 => h9) rfl dX0_fitted_113 ?_
      refine lv_i2l hx hb dX0_fitted_116 rfl ?_
      refine lv_lload_n hx hb dX0_fitted_117 rfl (lv_at hl 2 rfl) ?_
      refine lv_lmul hx hb dX0_fitted_118 ?_
      refine lv_iload_n hx hb dX0_fitted_119 rfl (lv_at hl 5 rfl) ?_
      refine vp_callSl (W.runS (As := [.long ((js * ((((nI ic).toInt64) * ss) - (ds * ds))) + (((((nI ic).toInt64) * ps) - (ds * js)) * ((((nI ic) * p1).toInt64) - ds))), .long (((nI ic).toInt64) * ((((nI ic).toInt64) * ss) - (ds * ds))), .int p2]) (rest := []) ⟨hx, hb, hml, hown, hts⟩ (c_X0_partInLowestTerms l ((js * ((((nI ic).toInt64) * ss) - (ds * ds))) + (((((nI ic).toInt64) * ps) - (ds * js)) * ((((nI ic) * p1).toInt64) - ds))) (((nI ic).toInt64) * ((((nI ic).toInt64) * ss) - (ds * ds))) p2 k3 k4 k5) (va_cwS 3 hts (gS wl_X0_75 ws_X0_partInLowestTerms wi_X0 wc_X0_partInLowestTerms) rfl rfl rfl (by decide +kernel) ⟨Nat.le_of_ble_eq_true rfl, Nat.le_of_ble_eq_true rfl⟩) ⟨fun _ _ _ _ q => q, fun U hU hW => ⟨rfl, trivial⟩⟩ rfl rfl hl.1 rfl (lv_room (Nat.le_of_ble_eq_true rfl)) dX0_fitted_120 ⟨Nat.le_of_ble_eq_true rfl, Nat.le_of_ble_eq_true rfl⟩) (fun r120 h120 => ?_)
      refine vx_ret ?_
      refine W.widen (k := 2) (n := 12) (Nat.le_of_ble_eq_true rfl) (Nat.le_of_ble_eq_true rfl) ?_
      exact W.lret (v := r120) hx hb hr (fun t ht hW => ⟨⟨r120, (), rfl, ⟨kd_0 h1 (by omega) c51 trivial, sl_r k1 k2 h120⟩, ⟨by rw [ht]; exact hP, va_K.moved hW.alike hK, hD⟩⟩, hS.F ht⟩) hS.2.2 dX0_fitted_123
    · -- not taken at 51
      have c51 := bI_eq0.mp c51
      exact vx_throwS (own := RX0) (cls := "java/lang/IllegalArgumentException") (names := ["java/lang/RuntimeException", "java/lang/Exception"]) hx hb hL hown (by decide +kernel) (by decide +kernel) (hts _ (List.mem_cons_of_mem _ wl_X0_27)) (hts _ (List.mem_cons_of_mem _ wi_IllegalArgument)) (hG.2.2.1 (131, "degrees are -200 to 200") (by decide +kernel)) (vx_hat (L := vx_atS RX0 31 "java/lang/IllegalArgumentException" ["java/lang/RuntimeException", "java/lang/Exception"]) (B := [.castable "java/lang/IllegalArgumentException" "java/lang/IllegalArgumentException", .declares ⟨"java/lang/RuntimeException", "<init>", "(Ljava/lang/String;)V"⟩, .declares ⟨"java/lang/Exception", "<init>", "(Ljava/lang/String;)V"⟩, .declares ⟨"java/lang/Throwable", "<init>", "(Ljava/lang/String;)V"⟩]) (fun w hw => hts w (List.mem_cons_of_mem _ (xa_IllegalArgument w hw))) (by decide +kernel) (vx_c (va_Nw.use rfl (hG.2.2.2.1 ("java/lang/IllegalArgumentException", "java/lang/IllegalArgumentException") (by decide +kernel))) (vx_c (va_Nw.use rfl (hG.2.2.2.2.2 ⟨"java/lang/RuntimeException", "<init>", "(Ljava/lang/String;)V"⟩ (by decide +kernel))) (vx_c (va_Nw.use rfl (hG.2.2.2.2.2 ⟨"java/lang/Exception", "<init>", "(Ljava/lang/String;)V"⟩ (by decide +kernel))) (vx_c (va_Nw.use rfl (hG.2.2.2.2.2 ⟨"java/lang/Throwable", "<init>", "(Ljava/lang/String;)V"⟩ (by decide +kernel))) (vx_n)))))) (by decide +kernel) hZU hZN hS (hl.1.trans hml.symm) dX0_fitted_54 dX0_fitted_57 dX0_fitted_58 dX0_fitted_60 dX0_fitted_63 (fun x hx => (htab x hx).elim) (Nat.le_of_ble_eq_true rfl) (Nat.le_of_ble_eq_true rfl) (Nat.le_of_ble_eq_true rfl) (Nat.le_of_ble_eq_true rfl) hlocks (fun t ha hsz hk => ⟨(), trivial, ⟨Or.inr (Or.inr (⟨rfl, kd_3 h1 (by omega) c51⟩)), hP.kept (fun k q hq => hk q.1 (hP k q hq).lt), va_K.moved ha hK, hD⟩, Nat.le_trans hS.1 hsz, fun q h1 h2 => (hk q (Nat.lt_of_lt_of_le h1 hS.1)).trans (hS.2.1 q h1 h2)⟩) hS.2.2 (Nat.le_of_ble_eq_true rfl) (Nat.le_of_ble_eq_true rfl)
  · -- not taken at 28
    have c28 := fun q9 => c28 ((lg_cmp_gt _ _).mpr q9)
    have c28 : ¬ 0 < ((((nI ic).toInt64) * ss) - (ds * ds)).toInt := fun q9 => c28 ((Int64.lt_iff_toInt_lt).mpr q9)
    exact vx_throwS (own := RX0) (cls := "java/lang/IllegalStateException") (names := ["java/lang/RuntimeException", "java/lang/Exception"]) hx hb hL hown (by decide +kernel) (by decide +kernel) (hts _ (List.mem_cons_of_mem _ wl_X0_79)) (hts _ (List.mem_cons_of_mem _ wi_IllegalState)) (hG.2.2.1 (129, "there is no fit") (by decide +kernel)) (vx_hat (L := vx_atS RX0 83 "java/lang/IllegalStateException" ["java/lang/RuntimeException", "java/lang/Exception"]) (B := [.castable "java/lang/IllegalStateException" "java/lang/IllegalStateException", .declares ⟨"java/lang/RuntimeException", "<init>", "(Ljava/lang/String;)V"⟩, .declares ⟨"java/lang/Exception", "<init>", "(Ljava/lang/String;)V"⟩, .declares ⟨"java/lang/Throwable", "<init>", "(Ljava/lang/String;)V"⟩]) (fun w hw => hts w (List.mem_cons_of_mem _ (xa_IllegalState w hw))) (by decide +kernel) (vx_c (va_Nw.use rfl (hG.2.2.2.1 ("java/lang/IllegalStateException", "java/lang/IllegalStateException") (by decide +kernel))) (vx_c (va_Nw.use rfl (hG.2.2.2.2.2 ⟨"java/lang/RuntimeException", "<init>", "(Ljava/lang/String;)V"⟩ (by decide +kernel))) (vx_c (va_Nw.use rfl (hG.2.2.2.2.2 ⟨"java/lang/Exception", "<init>", "(Ljava/lang/String;)V"⟩ (by decide +kernel))) (vx_c (va_Nw.use rfl (hG.2.2.2.2.2 ⟨"java/lang/Throwable", "<init>", "(Ljava/lang/String;)V"⟩ (by decide +kernel))) (vx_n)))))) (by decide +kernel) hZU hZN hS (hl.1.trans hml.symm) dX0_fitted_31 dX0_fitted_34 dX0_fitted_35 dX0_fitted_37 dX0_fitted_40 (fun x hx => (htab x hx).elim) (Nat.le_of_ble_eq_true rfl) (Nat.le_of_ble_eq_true rfl) (Nat.le_of_ble_eq_true rfl) (Nat.le_of_ble_eq_true rfl) hlocks (fun t ha hsz hk => ⟨(), trivial, ⟨Or.inr (Or.inl ⟨rfl, kd_2 h1 (by omega)⟩), hP.kept (fun k q hq => hk q.1 (hP k q hq).lt), va_K.moved ha hK, hD⟩, Nat.le_trans hS.1 hsz, fun q h1 h2 => (hk q (Nat.lt_of_lt_of_le h1 hS.1)).trans (hS.2.1 q h1 h2)⟩) hS.2.2 (Nat.le_of_ble_eq_true rfl) (Nat.le_of_ble_eq_true rfl)
set_option maxHeartbeats 4000000 in
set_option maxRecDepth 100000 in
theorem c_X0_convert (l : Launch) (hL : l.stackTraces = false) (dC : Nat → ClassId) (dI : Nat → Nat → Nat) (z0 : Nat) (sa : Nat → Nat) (sz : Nat) (hz : z0 ≤ sz) (x a1 a2 a3 a4 : Nat) (cI : ClassId) (S F X Y : Nat → Int32) (n : Nat) (ar sl : Int32) (mu ml : Int64) (ck : Int32) (ic : Nat) (ds js ps ss : Int64) (tc : Nat) (p1 p2 : Int32) (htc : tc ≤ 8) (hrt : ris X tc) (hXb : ∀ j, j < tc → 0 ≤ (X j).toInt ∧ (X j).toInt ≤ 2000) (hYb : ∀ j, j < tc → 0 ≤ (Y j).toInt ∧ (Y j).toInt ≤ 2000) : vx_Met l yX0_convert wsX0_convert ({ frames := 7, cells := 2, slots := 12, locals := 111 }) (va_Pc [.ref x, .int p1, .int p2] (fun U => U.heap.size = sz ∧ va_P (dC, dI) vwCl (wX x a1 a2 a3 a4 cI S F X Y n ar sl mu ml ck ic ds js ps ss tc) U.heap ∧ va_K (dC, dI) vwCl [(cI, .int)] U ∧ va_D (fun q => z0 ≤ q) (wX x a1 a2 a3 a4 cI S F X Y n ar sl mu ml ck ic ds js ps ss tc) ∧ gl_ok z0 sa U)) (va_Qi (fun r (_ : Unit) => kd4 (0 ≤ p2.toInt ∧ p2.toInt ≤ 2) (0 < tc) (0 ≤ p1.toInt ∧ p1.toInt ≤ 2000) (ok_cv tc X p1) = 0 ∧ cvs X Y tc p1.toInt p2.toInt r) (fun (_ : Unit) t => at_w dC dI cI (va_A (wX x a1 a2 a3 a4 cI S F X Y n ar sl mu ml ck ic ds js ps ss tc) sz) (wX x a1 a2 a3 a4 cI S F X Y n ar sl mu ml ck ic ds js ps ss tc) t) (va_A (wX x a1 a2 a3 a4 cI S F X Y n ar sl mu ml ck ic ds js ps ss tc) sz)) (vx_X (fun _ : Unit => True) (fun E _ t => ((E = "java/lang/IndexOutOfBoundsException" ∧ kd4 (0 ≤ p2.toInt ∧ p2.toInt ≤ 2) (0 < tc) (0 ≤ p1.toInt ∧ p1.toInt ≤ 2000) (ok_cv tc X p1) = 1) ∨ (E = "java/lang/IllegalStateException" ∧ kd4 (0 ≤ p2.toInt ∧ p2.toInt ≤ 2) (0 < tc) (0 ≤ p1.toInt ∧ p1.toInt ≤ 2000) (ok_cv tc X p1) = 2) ∨ (E = "java/lang/IllegalArgumentException" ∧ kd4 (0 ≤ p2.toInt ∧ p2.toInt ≤ 2) (0 < tc) (0 ≤ p1.toInt ∧ p1.toInt ≤ 2000) (ok_cv tc X p1) = 3) ∨ (E = "java/lang/UnsupportedOperationException" ∧ kd4 (0 ≤ p2.toInt ∧ p2.toInt ≤ 2) (0 < tc) (0 ≤ p1.toInt ∧ p1.toInt ≤ 2000) (ok_cv tc X p1) = 4)) ∧ at_w dC dI cI (va_A (wX x a1 a2 a3 a4 cI S F X Y n ar sl mu ml ck ic ds js ps ss tc) sz) (wX x a1 a2 a3 a4 cI S F X Y n ar sl mu ml ck ic ds js ps ss tc) t) (va_A (wX x a1 a2 a3 a4 cI S F X Y n ar sl mu ml ck ic ds js ps ss tc) sz)) 2 12 (va_A (wX x a1 a2 a3 a4 cI S F X Y n ar sl mu ml ck ic ds js ps ss tc) sz) := by
  refine vx_ofW (cc := cX0_convert) (maxL := 8) (ret := (some .int)) (by decide) rfl ?_
  intro p e s m args below meth c s₁ B hml htab hv
  obtain ⟨rfl, hsz, hP, hK, hD0, hG⟩ := hv
  have hx := B.exec
  have hb := B.bytes
  have hr := B.returns
  have hts := atoms_spec (ws := wsX0_convert) B.pre
  have hown : s.vm.findClass RX0 = some m.cls := findClass_of_methodNamed B.named
  have hlocks := B.notSynchronized
  have hinX0 : ∀ w ∈ wsX00, w ∈ wsX0_convert := fun w h => List.mem_cons_of_mem _ (inX0 w h)
  have f135 := hts _ (List.mem_cons_of_mem _ wl_X0_135)
  have f16 := hts _ (List.mem_cons_of_mem _ wl_X0_16)
  have f19 := hts _ (List.mem_cons_of_mem _ wl_X0_19)
  subst hsz
  have hD := hD0.self (sz := s.heap.size)
  have hAz := az_of hD0 hz
  generalize hAe : va_A (wX x a1 a2 a3 a4 cI S F X Y n ar sl mu ml ck ic ds js ps ss tc) s.heap.size = A at hD hAz ⊢
  have hA : ∀ q : Nat, s.heap.size ≤ q → A q := fun q h => by rw [← hAe]; exact Or.inr h
  have hS : va_S A s.heap s.heap [] := va_S.rf
  have hZU := hG.1.narrow hAz
  have hZN := hG.2.1.narrow hAz
  have hl := lv_entry ([.ref x, .int p1, .int p2]) (n := 8) (Nat.le_of_ble_eq_true rfl)
  rw [lg_entry_eq]
  generalize (lg_sl ([.ref x, .int p1, .int p2]) ++ List.replicate (8 - (lg_sl ([.ref x, .int p1, .int p2])).length) Slot.unset).toArray = ls at hl ⊢
  have hl : lv_has ls 8 [(0, .ref x), (1, .int p1), (2, .int p2)] := hl
  refine lv_iload_n hx hb dX0_convert_0 rfl (lv_at hl 2 rfl) ?_
  have hFc := va_free (wc := []) hD hS hA [] rfl
  refine vx_callv (vx_runS (As := [.int p2]) (rest := []) ⟨hx, hb, hml, hown, hts⟩ (c_X0_refuseNoSuchRule l hL z0 sa s.heap.size (Nat.le_trans hz hS.1) p2) (va_cwS 1 hts (gS wl_X0_142 ws_X0_refuseNoSuchRule wi_X0 wc_X0_refuseNoSuchRule) rfl rfl rfl (by decide +kernel) ⟨Nat.le_of_ble_eq_true rfl, Nat.le_of_ble_eq_true rfl⟩) ⟨fun a U g mk q => ⟨q.1, q.2.1, gl_blind q.2.2⟩, fun U hU hW => ⟨rfl, by rw [hU], gl_moved hG hS hAz hU hW⟩⟩ rfl rfl hl.1 rfl (lv_room (Nat.le_of_ble_eq_true rfl)) dX0_convert_1 ⟨Nat.le_of_ble_eq_true rfl, Nat.le_of_ble_eq_true rfl⟩) hS (fun q _ h => hFc q h) hFc (fun q _ h => hFc q h) (fun E ce q9 u t H1 locs ht hvm hpx hB hz1 hk1 hS hce hcv hcl => ?_) (fun u t H1 locs ht hvm h1 hB hz1 hk1 hS => ?_)
  · -- thrown there
    obtain ⟨⟨rfl, hB9⟩, -⟩ := hB
    obtain ⟨hP, hD⟩ := va_join (wr := (wX x a1 a2 a3 a4 cI S F X Y n ar sl mu ml ck ic ds js ps ss tc)) (w1 := []) hP hD [] [0, 1, 2, 3, 4] rfl rfl (by decide) (by decide) hk1 hFc nil_P nil_D
    have hP : va_P (dC, dI) vwCl (wX x a1 a2 a3 a4 cI S F X Y n ar sl mu ml ck ic ds js ps ss tc) H1 := hP
    have hD : va_D A (wX x a1 a2 a3 a4 cI S F X Y n ar sl mu ml ck ic ds js ps ss tc) := hD
    exact vx_out (fun x hx => (htab x hx).elim) hlocks hce hcv hcl (fun t ht ha => ⟨(), trivial, ⟨Or.inl ⟨rfl, kd_1 hB9⟩, by rw [ht]; exact hP, va_K.moved ha hK, hD⟩, hS.F ht⟩) hS.2.2 (Nat.le_of_ble_eq_true rfl) (Nat.le_of_ble_eq_true rfl)
  obtain ⟨hP, hD⟩ := va_join (wr := (wX x a1 a2 a3 a4 cI S F X Y n ar sl mu ml ck ic ds js ps ss tc)) (w1 := []) hP hD [] [0, 1, 2, 3, 4] rfl rfl (by decide) (by decide) hk1 hFc nil_P nil_D
  generalize H1 = H at hP hS ⊢
  have hP : va_P (dC, dI) vwCl (wX x a1 a2 a3 a4 cI S F X Y n ar sl mu ml ck ic ds js ps ss tc) H := hP
  have hD : va_D A (wX x a1 a2 a3 a4 cI S F X Y n ar sl mu ml ck ic ds js ps ss tc) := hD
  refine lv_aload_n hx hb dX0_convert_4 rfl (lv_at hl 0 rfl) ?_
  refine va_get (D := (dC, dI)) (ci := 0) (v := .int (nI tc)) (C := RX0) (T := TX0) (N := 16) hx hb hts hinX0 hown hK hP 0 rfl rfl 15 (by decide) f135 (fun _ h9 => h9) rfl dX0_convert_5 ?_
  refine lv_if_ne (tgt := 21) hx hb dX0_convert_8 (by decide) (fun c8 => ?_) (fun c8 => ?_)
  · -- taken at 8
    have c8 : ¬ tc = 0 := fun q9 => c8 ((nI_eq (a := tc) (b := 0) (by omega) (by omega)).mpr q9)
    refine lv_iload_n hx hb dX0_convert_21 rfl (lv_at hl 1 rfl) ?_
    refine lv_iconst (v := 0) hx hb dX0_convert_22 (by decide) ?_
    refine lv_sipush (v := 2000) hx hb dX0_convert_23 (by decide) ?_
    refine vp_callSi (W.runS (As := [.int p1, .int 0, .int 2000]) (rest := []) ⟨hx, hb, hml, hown, hts⟩ (c_X0_isWithin l p1 0 2000 0 2000 (by decide) (by decide)) (va_cwS 3 hts (gS wl_X0_23 ws_X0_isWithin wi_X0 wc_X0_isWithin) rfl rfl rfl (by decide +kernel) ⟨Nat.le_of_ble_eq_true rfl, Nat.le_of_ble_eq_true rfl⟩) ⟨fun _ _ _ _ q => q, fun U hU hW => ⟨rfl, trivial⟩⟩ rfl rfl hl.1 rfl (lv_room (Nat.le_of_ble_eq_true rfl)) dX0_convert_26 ⟨Nat.le_of_ble_eq_true rfl, Nat.le_of_ble_eq_true rfl⟩) (fun r26 h26 => ?_)
    subst h26
    refine lv_if_ne (tgt := 42) hx hb dX0_convert_29 (by decide) (fun c29 => ?_) (fun c29 => ?_)
    · -- taken at 29
      have c29 := bI_ne0.mp c29
      refine lv_iload_n hx hb dX0_convert_42 rfl (lv_at hl 1 rfl) ?_
      refine lv_aload_n hx hb dX0_convert_43 rfl (lv_at hl 0 rfl) ?_
      refine va_get (D := (dC, dI)) (ci := 0) (v := .ref a3) (C := RX0) (T := TX0) (N := 16) hx hb hts hinX0 hown hK hP 0 rfl rfl 13 (by decide) f16 (fun _ h9 => h9) rfl dX0_convert_44 ?_
      refine lv_iconst (v := 0) hx hb dX0_convert_47 (by decide) ?_
      refine va_iald (D := (dC, dI)) hx hb hK hP 3 0 rfl rfl (vp_in_nI (show 0 < 8 by omega) (by decide)) dX0_convert_48 ?_
      refine W.eq (congrArg (fun z => F0 m 49 ls (.int z :: [.int p1])) (congrArg X (nI_clamp (show 0 < 2 ^ 31 by omega)))) ?_
      refine lv_icmp_lt (tgt := 67) hx hb dX0_convert_49 (by decide) (fun c49 => ?_) (fun c49 => ?_)
      · -- taken at 49
        have c49 : p1.toInt < (X 0).toInt := (Int32.lt_iff_toInt_lt).mp c49
        exact vx_throwS (own := RX0) (cls := "java/lang/UnsupportedOperationException") (names := ["java/lang/RuntimeException", "java/lang/Exception"]) hx hb hL hown (by decide +kernel) (by decide +kernel) (hts _ (List.mem_cons_of_mem _ wl_X0_40)) (hts _ (List.mem_cons_of_mem _ wi_UnsupportedOperation)) (hG.2.2.1 (147, "the value lies beyond the table") (by decide +kernel)) (vx_hat (L := vx_atS RX0 44 "java/lang/UnsupportedOperationException" ["java/lang/RuntimeException", "java/lang/Exception"]) (B := [.castable "java/lang/UnsupportedOperationException" "java/lang/UnsupportedOperationException", .declares ⟨"java/lang/RuntimeException", "<init>", "(Ljava/lang/String;)V"⟩, .declares ⟨"java/lang/Exception", "<init>", "(Ljava/lang/String;)V"⟩, .declares ⟨"java/lang/Throwable", "<init>", "(Ljava/lang/String;)V"⟩]) (fun w hw => hts w (List.mem_cons_of_mem _ (xa_UnsupportedOperation w hw))) (by decide +kernel) (vx_c (va_Nw.use rfl (hG.2.2.2.1 ("java/lang/UnsupportedOperationException", "java/lang/UnsupportedOperationException") (by decide +kernel))) (vx_c (va_Nw.use rfl (hG.2.2.2.2.2 ⟨"java/lang/RuntimeException", "<init>", "(Ljava/lang/String;)V"⟩ (by decide +kernel))) (vx_c (va_Nw.use rfl (hG.2.2.2.2.2 ⟨"java/lang/Exception", "<init>", "(Ljava/lang/String;)V"⟩ (by decide +kernel))) (vx_c (va_Nw.use rfl (hG.2.2.2.2.2 ⟨"java/lang/Throwable", "<init>", "(Ljava/lang/String;)V"⟩ (by decide +kernel))) (vx_n)))))) (by decide +kernel) hZU hZN hS (hl.1.trans hml.symm) dX0_convert_67 dX0_convert_70 dX0_convert_71 dX0_convert_73 dX0_convert_76 (fun x hx => (htab x hx).elim) (Nat.le_of_ble_eq_true rfl) (Nat.le_of_ble_eq_true rfl) (Nat.le_of_ble_eq_true rfl) (Nat.le_of_ble_eq_true rfl) hlocks (fun t ha hsz hk => ⟨(), trivial, ⟨Or.inr (Or.inr (Or.inr (⟨rfl, kd_4 h1 (by omega) c29 (by unfold ok_cv; omega)⟩))), hP.kept (fun k q hq => hk q.1 (hP k q hq).lt), va_K.moved ha hK, hD⟩, Nat.le_trans hS.1 hsz, fun q h1 h2 => (hk q (Nat.lt_of_lt_of_le h1 hS.1)).trans (hS.2.1 q h1 h2)⟩) hS.2.2 (Nat.le_of_ble_eq_true rfl) (Nat.le_of_ble_eq_true rfl)
      · -- not taken at 49
        have c49 : ¬ p1.toInt < (X 0).toInt := fun q9 => c49 ((Int32.lt_iff_toInt_lt).mpr q9)
        refine lv_iload_n hx hb dX0_convert_52 rfl (lv_at hl 1 rfl) ?_
        refine lv_aload_n hx hb dX0_convert_53 rfl (lv_at hl 0 rfl) ?_
        refine va_get (D := (dC, dI)) (ci := 0) (v := .ref a3) (C := RX0) (T := TX0) (N := 16) hx hb hts hinX0 hown hK hP 0 rfl rfl 13 (by decide) f16 (fun _ h9 => h9) rfl dX0_convert_54 ?_
        refine lv_aload_n hx hb dX0_convert_57 rfl (lv_at hl 0 rfl) ?_
        refine va_get (D := (dC, dI)) (ci := 0) (v := .int (nI tc)) (C := RX0) (T := TX0) (N := 16) hx hb hts hinX0 hown hK hP 0 rfl rfl 15 (by decide) f135 (fun _ h9 => h9) rfl dX0_convert_58 ?_
        refine lv_iconst (v := 1) hx hb dX0_convert_61 (by decide) ?_
        refine lv_isub hx hb dX0_convert_62 ?_
        refine W.eq (congrArg (fun z => F0 m 63 ls (.int z :: [.ref a3, .int p1])) (nI_p1 (by omega))) ?_
        refine va_iald (D := (dC, dI)) hx hb hK hP 3 0 rfl rfl (vp_in_nI (show tc - 1 < 8 by omega) (by decide)) dX0_convert_63 ?_
        refine W.eq (congrArg (fun z => F0 m 64 ls (.int z :: [.int p1])) (congrArg X (nI_clamp (show tc - 1 < 2 ^ 31 by omega)))) ?_
        refine lv_icmp_le (tgt := 77) hx hb dX0_convert_64 (by decide) (fun c64 => ?_) (fun c64 => ?_)
        · -- taken at 64
          have c64 : p1.toInt ≤ (X (tc - 1)).toInt := (Int32.le_iff_toInt_le).mp c64
          refine lv_aload_n hx hb dX0_convert_77 rfl (lv_at hl 0 rfl) ?_
          refine lv_iload_n hx hb dX0_convert_78 rfl (lv_at hl 1 rfl) ?_
          refine vp_callSi (W.runV (As := [.int p1]) (rest := []) ⟨hx, hb, hml, hown, hts⟩ (c_X0_firstTableRowFrom l dC dI x a1 a2 a3 a4 cI S F X Y n ar sl mu ml ck ic ds js ps ss tc p1 htc) (cwV 1 hts (gV wl_X0_149 wi_X0_firstTableRowFrom wv_X0_firstTableRowFrom wi_X0 wc_X0_firstTableRowFrom) rfl rfl rfl (by decide +kernel) ⟨Nat.le_of_ble_eq_true rfl, Nat.le_of_ble_eq_true rfl⟩) ⟨fun a U g mk q => ⟨q.1, q.2.1, va_K.moved (u := U) (U := U.calling g mk a) (Vm.Alike.refl U.vm) q.2.2⟩, va_recv hK hP (ci := 0) (q0 := 0) rfl rfl, fun U hU hW => ⟨rfl, by rw [hU]; exact hP, va_K.moved hW.alike hK⟩⟩ rfl rfl hl.1 rfl (lv_room (Nat.le_of_ble_eq_true rfl)) dX0_convert_79 ⟨Nat.le_of_ble_eq_true rfl, Nat.le_of_ble_eq_true rfl⟩) (fun r79 h79 => ?_)
          rcases h79 with ⟨k, hk, rfl, ha, hb9⟩ | ⟨rfl, ha⟩
          · -- a case
            refine lv_istore_n (lv' := [(3, .int (nI k)), (0, .ref x), (1, .int p1), (2, .int p2)]) hx hb dX0_convert_82 rfl hl (by decide) rfl (fun ls hl => ?_)
            refine lv_iload_n hx hb dX0_convert_83 rfl (lv_at hl 0 rfl) ?_
            refine lv_iconst (v := 1) hx hb dX0_convert_84 (by decide) ?_
            refine lv_icmp_ge (tgt := 95) hx hb dX0_convert_85 (by decide) (fun c85 => ?_) (fun c85 => ?_)
            · -- taken at 85
              have c85 : 1 ≤ k := (nI_leI (a := 1) (b := k) (by omega) (by omega)).mp c85
              obtain ⟨g1, g2, g3, g4⟩ := cv_c (hrt (k - 1) k (by omega) (by omega)) (hXb k (by omega)) (hXb (k - 1) (by omega)) (hYb k (by omega)) (hYb (k - 1) (by omega)) (ha (k - 1) (by omega)) hb9
              refine lv_aload_n hx hb dX0_convert_95 rfl (lv_at hl 1 rfl) ?_
              refine va_get (D := (dC, dI)) (ci := 0) (v := .ref a3) (C := RX0) (T := TX0) (N := 16) hx hb hts hinX0 hown hK hP 0 rfl rfl 13 (by decide) f16 (fun _ h9 => h9) rfl dX0_convert_96 ?_
              refine lv_iload_n hx hb dX0_convert_99 rfl (lv_at hl 0 rfl) ?_
              refine va_iald (D := (dC, dI)) hx hb hK hP 3 0 rfl rfl (vp_in_nI (show k < 8 by omega) (by decide)) dX0_convert_100 ?_
              refine W.eq (congrArg (fun z => F0 m 101 ls (.int z :: [])) (congrArg X (nI_clamp (show k < 2 ^ 31 by omega)))) ?_
              refine lv_aload_n hx hb dX0_convert_101 rfl (lv_at hl 1 rfl) ?_
              refine va_get (D := (dC, dI)) (ci := 0) (v := .ref a3) (C := RX0) (T := TX0) (N := 16) hx hb hts hinX0 hown hK hP 0 rfl rfl 13 (by decide) f16 (fun _ h9 => h9) rfl dX0_convert_102 ?_
              refine lv_iload_n hx hb dX0_convert_105 rfl (lv_at hl 0 rfl) ?_
              refine lv_iconst (v := 1) hx hb dX0_convert_106 (by decide) ?_
              refine lv_isub hx hb dX0_convert_107 ?_
              refine va_iald (D := (dC, dI)) hx hb hK hP 3 0 rfl rfl (by rw [nI_p1 (show 1 ≤ k by omega)]; exact vp_in_nI (show k - 1 < 8 by omega) (by decide)) dX0_convert_108 ?_
              refine W.eq (congrArg (fun z => F0 m 109 ls (.int z :: [.int (X k)])) (congrArg X (show ((nI k) - 1).toNatClampNeg = k - 1 from by rw [nI_p1 (show 1 ≤ k by omega)]; exact nI_clamp (show k - 1 < 2 ^ 31 by omega)))) ?_
              refine lv_isub hx hb dX0_convert_109 ?_
              refine lv_i2l hx hb dX0_convert_110 rfl ?_
              refine lv_lstore (lv' := [(4, .long (((X k) - (X (k - 1))).toInt64)), (3, .int (nI k)), (0, .ref x), (1, .int p1), (2, .int p2)]) hx hb dX0_convert_111 hl (by decide) rfl (fun ls hl => ?_)
              refine lv_aload_n hx hb dX0_convert_113 rfl (lv_at hl 2 rfl) ?_
              refine va_get (D := (dC, dI)) (ci := 0) (v := .ref a4) (C := RX0) (T := TX0) (N := 16) hx hb hts hinX0 hown hK hP 0 rfl rfl 14 (by decide) f19 (fun _ h9 => h9) rfl dX0_convert_114 ?_
              refine lv_iload_n hx hb dX0_convert_117 rfl (lv_at hl 1 rfl) ?_
              refine lv_iconst (v := 1) hx hb dX0_convert_118 (by decide) ?_
              refine lv_isub hx hb dX0_convert_119 ?_
              refine va_iald (D := (dC, dI)) hx hb hK hP 4 0 rfl rfl (by rw [nI_p1 (show 1 ≤ k by omega)]; exact vp_in_nI (show k - 1 < 8 by omega) (by decide)) dX0_convert_120 ?_
              refine W.eq (congrArg (fun z => F0 m 121 ls (.int z :: [])) (congrArg Y (show ((nI k) - 1).toNatClampNeg = k - 1 from by rw [nI_p1 (show 1 ≤ k by omega)]; exact nI_clamp (show k - 1 < 2 ^ 31 by omega)))) ?_
              refine lv_i2l hx hb dX0_convert_121 rfl ?_
              refine lv_lload hx hb dX0_convert_122 (lv_at hl 0 rfl) ?_
              refine lv_lmul hx hb dX0_convert_124 ?_
              refine lv_aload_n hx hb dX0_convert_125 rfl (lv_at hl 2 rfl) ?_
              refine va_get (D := (dC, dI)) (ci := 0) (v := .ref a4) (C := RX0) (T := TX0) (N := 16) hx hb hts hinX0 hown hK hP 0 rfl rfl 14 (by decide) f19 (fun _ h9 => h9) rfl dX0_convert_126 ?_
              refine lv_iload_n hx hb dX0_convert_129 rfl (lv_at hl 1 rfl) ?_
              refine va_iald (D := (dC, dI)) hx hb hK hP 4 0 rfl rfl (vp_in_nI (show k < 8 by omega) (by decide)) dX0_convert_130 ?_
              refine W.eq (congrArg (fun z => F0 m 131 ls (.int z :: [.long (((Y (k - 1)).toInt64) * (((X k) - (X (k - 1))).toInt64))])) (congrArg Y (nI_clamp (show k < 2 ^ 31 by omega)))) ?_
              refine lv_aload_n hx hb dX0_convert_131 rfl (lv_at hl 2 rfl) ?_
              refine va_get (D := (dC, dI)) (ci := 0) (v := .ref a4) (C := RX0) (T := TX0) (N := 16) hx hb hts hinX0 hown hK hP 0 rfl rfl 14 (by decide) f19 (fun _ h9 => h9) rfl dX0_convert_132 ?_
              refine lv_iload_n hx hb dX0_convert_135 rfl (lv_at hl 1 rfl) ?_
              refine lv_iconst (v := 1) hx hb dX0_convert_136 (by decide) ?_
              refine lv_isub hx hb dX0_convert_137 ?_
              refine va_iald (D := (dC, dI)) hx hb hK hP 4 0 rfl rfl (by rw [nI_p1 (show 1 ≤ k by omega)]; exact vp_in_nI (show k - 1 < 8 by omega) (by decide)) dX0_convert_138 ?_
              refine W.eq (congrArg (fun z => F0 m 139 ls (.int z :: [.int (Y k), .long (((Y (k - 1)).toInt64) * (((X k) - (X (k - 1))).toInt64))])) (congrArg Y (show ((nI k) - 1).toNatClampNeg = k - 1 from by rw [nI_p1 (show 1 ≤ k by omega)]; exact nI_clamp (show k - 1 < 2 ^ 31 by omega)))) ?_
              refine lv_isub hx hb dX0_convert_139 ?_
              refine lv_i2l hx hb dX0_convert_140 rfl ?_
              refine lv_iload_n hx hb dX0_convert_141 rfl (lv_at hl 3 rfl) ?_
              refine lv_aload_n hx hb dX0_convert_142 rfl (lv_at hl 2 rfl) ?_
              refine va_get (D := (dC, dI)) (ci := 0) (v := .ref a3) (C := RX0) (T := TX0) (N := 16) hx hb hts hinX0 hown hK hP 0 rfl rfl 13 (by decide) f16 (fun _ h9 => h9) rfl dX0_convert_143 ?_
              refine lv_iload_n hx hb dX0_convert_146 rfl (lv_at hl 1 rfl) ?_
              refine lv_iconst (v := 1) hx hb dX0_convert_147 (by decide) ?_
              refine lv_isub hx hb dX0_convert_148 ?_
              refine va_iald (D := (dC, dI)) hx hb hK hP 3 0 rfl rfl (by rw [nI_p1 (show 1 ≤ k by omega)]; exact vp_in_nI (show k - 1 < 8 by omega) (by decide)) dX0_convert_149 ?_
              refine W.eq (congrArg (fun z => F0 m 150 ls (.int z :: [.int p1, .long (((Y k) - (Y (k - 1))).toInt64), .long (((Y (k - 1)).toInt64) * (((X k) - (X (k - 1))).toInt64))])) (congrArg X (show ((nI k) - 1).toNatClampNeg = k - 1 from by rw [nI_p1 (show 1 ≤ k by omega)]; exact nI_clamp (show k - 1 < 2 ^ 31 by omega)))) ?_
              refine lv_isub hx hb dX0_convert_150 ?_
              refine lv_i2l hx hb dX0_convert_151 rfl ?_
              refine lv_lmul hx hb dX0_convert_152 ?_
              refine lv_ladd hx hb dX0_convert_153 ?_
              refine lv_lstore (lv' := [(6, .long ((((Y (k - 1)).toInt64) * (((X k) - (X (k - 1))).toInt64)) + ((((Y k) - (Y (k - 1))).toInt64) * ((p1 - (X (k - 1))).toInt64)))), (4, .long (((X k) - (X (k - 1))).toInt64)), (3, .int (nI k)), (0, .ref x), (1, .int p1), (2, .int p2)]) hx hb dX0_convert_154 hl (by decide) rfl (fun ls hl => ?_)
              refine lv_lload hx hb dX0_convert_156 (lv_at hl 0 rfl) ?_
              refine lv_lload hx hb dX0_convert_158 (lv_at hl 1 rfl) ?_
              refine lv_iload_n hx hb dX0_convert_160 rfl (lv_at hl 5 rfl) ?_
              refine vp_callSl (W.runS (As := [.long ((((Y (k - 1)).toInt64) * (((X k) - (X (k - 1))).toInt64)) + ((((Y k) - (Y (k - 1))).toInt64) * ((p1 - (X (k - 1))).toInt64))), .long (((X k) - (X (k - 1))).toInt64), .int p2]) (rest := []) ⟨hx, hb, hml, hown, hts⟩ (c_X0_roundedByRule l ((((Y (k - 1)).toInt64) * (((X k) - (X (k - 1))).toInt64)) + ((((Y k) - (Y (k - 1))).toInt64) * ((p1 - (X (k - 1))).toInt64))) (((X k) - (X (k - 1))).toInt64) p2 (by omega) (by omega) (by omega) (by omega)) (va_cwS 3 hts (gS wl_X0_152 ws_X0_roundedByRule wi_X0 wc_X0_roundedByRule) rfl rfl rfl (by decide +kernel) ⟨Nat.le_of_ble_eq_true rfl, Nat.le_of_ble_eq_true rfl⟩) ⟨fun _ _ _ _ q => q, fun U hU hW => ⟨rfl, trivial⟩⟩ rfl rfl hl.1 rfl (lv_room (Nat.le_of_ble_eq_true rfl)) dX0_convert_161 ⟨Nat.le_of_ble_eq_true rfl, Nat.le_of_ble_eq_true rfl⟩) (fun r161 h161 => ?_)
              refine lv_l2i hx hb dX0_convert_164 rfl ?_
              refine vx_ret ?_
              refine W.widen (k := 2) (n := 12) (Nat.le_of_ble_eq_true rfl) (Nat.le_of_ble_eq_true rfl) ?_
              exact W.iret (v := r161.toInt32) hx hb hr (fun t ht hW => ⟨⟨r161.toInt32, (), rfl, ⟨kd_0 h1 (by omega) c29 (by unfold ok_cv; omega), cv_k hk ha hb9 (show 1 ≤ k by omega) g1 g2 g3 h161⟩, ⟨by rw [ht]; exact hP, va_K.moved hW.alike hK, hD⟩⟩, hS.F ht⟩) hS.2.2 dX0_convert_165
            · -- not taken at 85
              have c85 : ¬ 1 ≤ k := fun q9 => c85 ((nI_leI (a := 1) (b := k) (by omega) (by omega)).mpr q9)
              refine lv_aload_n hx hb dX0_convert_88 rfl (lv_at hl 1 rfl) ?_
              refine va_get (D := (dC, dI)) (ci := 0) (v := .ref a4) (C := RX0) (T := TX0) (N := 16) hx hb hts hinX0 hown hK hP 0 rfl rfl 14 (by decide) f19 (fun _ h9 => h9) rfl dX0_convert_89 ?_
              refine lv_iconst (v := 0) hx hb dX0_convert_92 (by decide) ?_
              refine va_iald (D := (dC, dI)) hx hb hK hP 4 0 rfl rfl (vp_in_nI (show 0 < 8 by omega) (by decide)) dX0_convert_93 ?_
              refine W.eq (congrArg (fun z => F0 m 94 ls (.int z :: [])) (congrArg Y (nI_clamp (show 0 < 2 ^ 31 by omega)))) ?_
              refine vx_ret ?_
              refine W.widen (k := 2) (n := 12) (Nat.le_of_ble_eq_true rfl) (Nat.le_of_ble_eq_true rfl) ?_
              exact W.iret (v := Y 0) hx hb hr (fun t ht hW => ⟨⟨Y 0, (), rfl, ⟨kd_0 h1 (by omega) c29 (by unfold ok_cv; omega), cv_0 hk ha hb9 (show k = 0 by omega) (by omega)⟩, ⟨by rw [ht]; exact hP, va_K.moved hW.alike hK, hD⟩⟩, hS.F ht⟩) hS.2.2 dX0_convert_94
          · -- a case
            exact absurd (ha (tc - 1) (by omega)) (by omega)
        · -- not taken at 64
          have c64 : ¬ p1.toInt ≤ (X (tc - 1)).toInt := fun q9 => c64 ((Int32.le_iff_toInt_le).mpr q9)
          exact vx_throwS (own := RX0) (cls := "java/lang/UnsupportedOperationException") (names := ["java/lang/RuntimeException", "java/lang/Exception"]) hx hb hL hown (by decide +kernel) (by decide +kernel) (hts _ (List.mem_cons_of_mem _ wl_X0_40)) (hts _ (List.mem_cons_of_mem _ wi_UnsupportedOperation)) (hG.2.2.1 (147, "the value lies beyond the table") (by decide +kernel)) (vx_hat (L := vx_atS RX0 44 "java/lang/UnsupportedOperationException" ["java/lang/RuntimeException", "java/lang/Exception"]) (B := [.castable "java/lang/UnsupportedOperationException" "java/lang/UnsupportedOperationException", .declares ⟨"java/lang/RuntimeException", "<init>", "(Ljava/lang/String;)V"⟩, .declares ⟨"java/lang/Exception", "<init>", "(Ljava/lang/String;)V"⟩, .declares ⟨"java/lang/Throwable", "<init>", "(Ljava/lang/String;)V"⟩]) (fun w hw => hts w (List.mem_cons_of_mem _ (xa_UnsupportedOperation w hw))) (by decide +kernel) (vx_c (va_Nw.use rfl (hG.2.2.2.1 ("java/lang/UnsupportedOperationException", "java/lang/UnsupportedOperationException") (by decide +kernel))) (vx_c (va_Nw.use rfl (hG.2.2.2.2.2 ⟨"java/lang/RuntimeException", "<init>", "(Ljava/lang/String;)V"⟩ (by decide +kernel))) (vx_c (va_Nw.use rfl (hG.2.2.2.2.2 ⟨"java/lang/Exception", "<init>", "(Ljava/lang/String;)V"⟩ (by decide +kernel))) (vx_c (va_Nw.use rfl (hG.2.2.2.2.2 ⟨"java/lang/Throwable", "<init>", "(Ljava/lang/String;)V"⟩ (by decide +kernel))) (vx_n)))))) (by decide +kernel) hZU hZN hS (hl.1.trans hml.symm) dX0_convert_67 dX0_convert_70 dX0_convert_71 dX0_convert_73 dX0_convert_76 (fun x hx => (htab x hx).elim) (Nat.le_of_ble_eq_true rfl) (Nat.le_of_ble_eq_true rfl) (Nat.le_of_ble_eq_true rfl) (Nat.le_of_ble_eq_true rfl) hlocks (fun t ha hsz hk => ⟨(), trivial, ⟨Or.inr (Or.inr (Or.inr (⟨rfl, kd_4 h1 (by omega) c29 (by unfold ok_cv; omega)⟩))), hP.kept (fun k q hq => hk q.1 (hP k q hq).lt), va_K.moved ha hK, hD⟩, Nat.le_trans hS.1 hsz, fun q h1 h2 => (hk q (Nat.lt_of_lt_of_le h1 hS.1)).trans (hS.2.1 q h1 h2)⟩) hS.2.2 (Nat.le_of_ble_eq_true rfl) (Nat.le_of_ble_eq_true rfl)
    · -- not taken at 29
      have c29 := bI_eq0.mp c29
      exact vx_throwS (own := RX0) (cls := "java/lang/IllegalArgumentException") (names := ["java/lang/RuntimeException", "java/lang/Exception"]) hx hb hL hown (by decide +kernel) (by decide +kernel) (hts _ (List.mem_cons_of_mem _ wl_X0_27)) (hts _ (List.mem_cons_of_mem _ wi_IllegalArgument)) (hG.2.2.1 (133, "a table's values are 0 to 2,000") (by decide +kernel)) (vx_hat (L := vx_atS RX0 31 "java/lang/IllegalArgumentException" ["java/lang/RuntimeException", "java/lang/Exception"]) (B := [.castable "java/lang/IllegalArgumentException" "java/lang/IllegalArgumentException", .declares ⟨"java/lang/RuntimeException", "<init>", "(Ljava/lang/String;)V"⟩, .declares ⟨"java/lang/Exception", "<init>", "(Ljava/lang/String;)V"⟩, .declares ⟨"java/lang/Throwable", "<init>", "(Ljava/lang/String;)V"⟩]) (fun w hw => hts w (List.mem_cons_of_mem _ (xa_IllegalArgument w hw))) (by decide +kernel) (vx_c (va_Nw.use rfl (hG.2.2.2.1 ("java/lang/IllegalArgumentException", "java/lang/IllegalArgumentException") (by decide +kernel))) (vx_c (va_Nw.use rfl (hG.2.2.2.2.2 ⟨"java/lang/RuntimeException", "<init>", "(Ljava/lang/String;)V"⟩ (by decide +kernel))) (vx_c (va_Nw.use rfl (hG.2.2.2.2.2 ⟨"java/lang/Exception", "<init>", "(Ljava/lang/String;)V"⟩ (by decide +kernel))) (vx_c (va_Nw.use rfl (hG.2.2.2.2.2 ⟨"java/lang/Throwable", "<init>", "(Ljava/lang/String;)V"⟩ (by decide +kernel))) (vx_n)))))) (by decide +kernel) hZU hZN hS (hl.1.trans hml.symm) dX0_convert_32 dX0_convert_35 dX0_convert_36 dX0_convert_38 dX0_convert_41 (fun x hx => (htab x hx).elim) (Nat.le_of_ble_eq_true rfl) (Nat.le_of_ble_eq_true rfl) (Nat.le_of_ble_eq_true rfl) (Nat.le_of_ble_eq_true rfl) hlocks (fun t ha hsz hk => ⟨(), trivial, ⟨Or.inr (Or.inr (Or.inl ⟨rfl, kd_3 h1 (by omega) c29⟩)), hP.kept (fun k q hq => hk q.1 (hP k q hq).lt), va_K.moved ha hK, hD⟩, Nat.le_trans hS.1 hsz, fun q h1 h2 => (hk q (Nat.lt_of_lt_of_le h1 hS.1)).trans (hS.2.1 q h1 h2)⟩) hS.2.2 (Nat.le_of_ble_eq_true rfl) (Nat.le_of_ble_eq_true rfl)
  · -- not taken at 8
    have c8 : tc = 0 := (nI_eq (a := tc) (b := 0) (by omega) (by omega)).mp c8
    exact vx_throwS (own := RX0) (cls := "java/lang/IllegalStateException") (names := ["java/lang/RuntimeException", "java/lang/Exception"]) hx hb hL hown (by decide +kernel) (by decide +kernel) (hts _ (List.mem_cons_of_mem _ wl_X0_79)) (hts _ (List.mem_cons_of_mem _ wi_IllegalState)) (hG.2.2.1 (145, "there are no table rows") (by decide +kernel)) (vx_hat (L := vx_atS RX0 83 "java/lang/IllegalStateException" ["java/lang/RuntimeException", "java/lang/Exception"]) (B := [.castable "java/lang/IllegalStateException" "java/lang/IllegalStateException", .declares ⟨"java/lang/RuntimeException", "<init>", "(Ljava/lang/String;)V"⟩, .declares ⟨"java/lang/Exception", "<init>", "(Ljava/lang/String;)V"⟩, .declares ⟨"java/lang/Throwable", "<init>", "(Ljava/lang/String;)V"⟩]) (fun w hw => hts w (List.mem_cons_of_mem _ (xa_IllegalState w hw))) (by decide +kernel) (vx_c (va_Nw.use rfl (hG.2.2.2.1 ("java/lang/IllegalStateException", "java/lang/IllegalStateException") (by decide +kernel))) (vx_c (va_Nw.use rfl (hG.2.2.2.2.2 ⟨"java/lang/RuntimeException", "<init>", "(Ljava/lang/String;)V"⟩ (by decide +kernel))) (vx_c (va_Nw.use rfl (hG.2.2.2.2.2 ⟨"java/lang/Exception", "<init>", "(Ljava/lang/String;)V"⟩ (by decide +kernel))) (vx_c (va_Nw.use rfl (hG.2.2.2.2.2 ⟨"java/lang/Throwable", "<init>", "(Ljava/lang/String;)V"⟩ (by decide +kernel))) (vx_n)))))) (by decide +kernel) hZU hZN hS (hl.1.trans hml.symm) dX0_convert_11 dX0_convert_14 dX0_convert_15 dX0_convert_17 dX0_convert_20 (fun x hx => (htab x hx).elim) (Nat.le_of_ble_eq_true rfl) (Nat.le_of_ble_eq_true rfl) (Nat.le_of_ble_eq_true rfl) (Nat.le_of_ble_eq_true rfl) hlocks (fun t ha hsz hk => ⟨(), trivial, ⟨Or.inr (Or.inl ⟨rfl, kd_2 h1 (by omega)⟩), hP.kept (fun k q hq => hk q.1 (hP k q hq).lt), va_K.moved ha hK, hD⟩, Nat.le_trans hS.1 hsz, fun q h1 h2 => (hk q (Nat.lt_of_lt_of_le h1 hS.1)).trans (hS.2.1 q h1 h2)⟩) hS.2.2 (Nat.le_of_ble_eq_true rfl) (Nat.le_of_ble_eq_true rfl)
