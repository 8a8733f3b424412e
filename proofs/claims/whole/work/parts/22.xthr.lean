set_option maxHeartbeats 4000000 in
set_option maxRecDepth 100000 in
theorem c_X0_slope (l : Launch) (hL : l.stackTraces = false) (dC : Nat → ClassId) (dI : Nat → Nat → Nat) (z0 : Nat) (sa : Nat → Nat) (sz : Nat) (hz : z0 ≤ sz) (x a1 a2 a3 a4 : Nat) (cI : ClassId) (S F X Y : Nat → Int32) (n : Nat) (ar sl : Int32) (mu ml : Int64) (ck : Int32) (ic : Nat) (ds js ps ss : Int64) (tc : Nat) (p1 p2 p3 : Int32) (hn : n ≤ 40) (hrs : ris S n) (hSb : ∀ j, j < n → 0 ≤ (S j).toInt ∧ (S j).toInt ≤ 1000000) (hFb : ∀ j, j < n → 0 ≤ (F j).toInt ∧ (F j).toInt ≤ 1000000) : vx_Met l yX0_slope wsX0_slope ({ frames := 7, cells := 2, slots := 12, locals := 111 }) (va_Pc [.ref x, .int p1, .int p2, .int p3] (fun U => U.heap.size = sz ∧ va_P (dC, dI) vwCl (wX x a1 a2 a3 a4 cI S F X Y n ar sl mu ml ck ic ds js ps ss tc) U.heap ∧ va_K (dC, dI) vwCl [(cI, .int)] U ∧ va_D (fun q => z0 ≤ q) (wX x a1 a2 a3 a4 cI S F X Y n ar sl mu ml ck ic ds js ps ss tc) ∧ gl_ok z0 sa U)) (va_Ql (fun r (u : Int64 × Int64) => kd4 (0 ≤ p3.toInt ∧ p3.toInt ≤ 1) (ok_span p1 p2) (cl S p1.toInt n + 1 < cl S (p2.toInt + 1) n) True = 0 ∧ r.toInt = fr ((F (cl S (p2.toInt + 1) n - 1)).toInt - (F (cl S p1.toInt n)).toInt) ((S (cl S (p2.toInt + 1) n - 1)).toInt - (S (cl S p1.toInt n)).toInt) p3.toInt ∧ ((0 < ((F (cl S (p2.toInt + 1) n - 1)).toInt - (F (cl S p1.toInt n)).toInt) ∧ u.1.toInt = ((F (cl S (p2.toInt + 1) n - 1)).toInt - (F (cl S p1.toInt n)).toInt) ∧ u.2.toInt = ((S (cl S (p2.toInt + 1) n - 1)).toInt - (S (cl S p1.toInt n)).toInt)) ∨ (¬ 0 < ((F (cl S (p2.toInt + 1) n - 1)).toInt - (F (cl S p1.toInt n)).toInt) ∧ u.1 = mu ∧ u.2 = ml))) (fun (u : Int64 × Int64) t => at_w dC dI cI (va_A (wX x a1 a2 a3 a4 cI S F X Y n ar sl mu ml ck ic ds js ps ss tc) sz) (wX x a1 a2 a3 a4 cI S F X Y n ar sl u.1 u.2 ck ic ds js ps ss tc) t) (va_A (wX x a1 a2 a3 a4 cI S F X Y n ar sl mu ml ck ic ds js ps ss tc) sz)) (vx_X (fun _ : Unit => True) (fun E _ t => ((E = "java/lang/IndexOutOfBoundsException" ∧ kd4 (0 ≤ p3.toInt ∧ p3.toInt ≤ 1) (ok_span p1 p2) (cl S p1.toInt n + 1 < cl S (p2.toInt + 1) n) True = 1) ∨ (E = "java/lang/IllegalArgumentException" ∧ kd4 (0 ≤ p3.toInt ∧ p3.toInt ≤ 1) (ok_span p1 p2) (cl S p1.toInt n + 1 < cl S (p2.toInt + 1) n) True = 2) ∨ (E = "java/lang/UnsupportedOperationException" ∧ kd4 (0 ≤ p3.toInt ∧ p3.toInt ≤ 1) (ok_span p1 p2) (cl S p1.toInt n + 1 < cl S (p2.toInt + 1) n) True = 3)) ∧ at_w dC dI cI (va_A (wX x a1 a2 a3 a4 cI S F X Y n ar sl mu ml ck ic ds js ps ss tc) sz) (wX x a1 a2 a3 a4 cI S F X Y n ar sl mu ml ck ic ds js ps ss tc) t) (va_A (wX x a1 a2 a3 a4 cI S F X Y n ar sl mu ml ck ic ds js ps ss tc) sz)) 2 12 (va_A (wX x a1 a2 a3 a4 cI S F X Y n ar sl mu ml ck ic ds js ps ss tc) sz) := by
  refine vx_ofW (cc := cX0_slope) (maxL := 10) (ret := (some .long)) (by decide) rfl ?_
  intro p e s m args below meth c s₁ B hml htab hv
  obtain ⟨rfl, hsz, hP, hK, hD0, hG⟩ := hv
  have hx := B.exec
  have hb := B.bytes
  have hr := B.returns
  have hts := atoms_spec (ws := wsX0_slope) B.pre
  have hown : s.vm.findClass RX0 = some m.cls := findClass_of_methodNamed B.named
  have hlocks := B.notSynchronized
  have hinX0 : ∀ w ∈ wsX00, w ∈ wsX0_slope := fun w h => List.mem_cons_of_mem _ (inX0 w h)
  have k22 := hts _ (List.mem_cons_of_mem _ wl_X0_22)
  have f13 := hts _ (List.mem_cons_of_mem _ wl_X0_13)
  have f9 := hts _ (List.mem_cons_of_mem _ wl_X0_9)
  have f68 := hts _ (List.mem_cons_of_mem _ wl_X0_68)
  have f72 := hts _ (List.mem_cons_of_mem _ wl_X0_72)
  subst hsz
  have hD := hD0.self (sz := s.heap.size)
  have hAz := az_of hD0 hz
  generalize hAe : va_A (wX x a1 a2 a3 a4 cI S F X Y n ar sl mu ml ck ic ds js ps ss tc) s.heap.size = A at hD hAz ⊢
  have hA : ∀ q : Nat, s.heap.size ≤ q → A q := fun q h => by rw [← hAe]; exact Or.inr h
  have hS : va_S A s.heap s.heap [] := va_S.rf
  have hZU := hG.1.narrow hAz
  have hZN := hG.2.1.narrow hAz
  have hl := lv_entry ([.ref x, .int p1, .int p2, .int p3]) (n := 10) (Nat.le_of_ble_eq_true rfl)
  rw [lg_entry_eq]
  generalize (lg_sl ([.ref x, .int p1, .int p2, .int p3]) ++ List.replicate (10 - (lg_sl ([.ref x, .int p1, .int p2, .int p3])).length) Slot.unset).toArray = ls at hl ⊢
  have hl : lv_has ls 10 [(0, .ref x), (1, .int p1), (2, .int p2), (3, .int p3)] := hl
  refine lv_iload_n hx hb dX0_slope_0 rfl (lv_at hl 3 rfl) ?_
  have hFc := va_free (wc := []) hD hS hA [] rfl
  refine vx_callv (vx_runS (As := [.int p3]) (rest := []) ⟨hx, hb, hml, hown, hts⟩ (c_X0_refuseNoSuchPart l hL z0 sa s.heap.size (Nat.le_trans hz hS.1) p3) (va_cwS 1 hts (gS wl_X0_53 ws_X0_refuseNoSuchPart wi_X0 wc_X0_refuseNoSuchPart) rfl rfl rfl (by decide +kernel) ⟨Nat.le_of_ble_eq_true rfl, Nat.le_of_ble_eq_true rfl⟩) ⟨fun a U g mk q => ⟨q.1, q.2.1, gl_blind q.2.2⟩, fun U hU hW => ⟨rfl, by rw [hU], gl_moved hG hS hAz hU hW⟩⟩ rfl rfl hl.1 rfl (lv_room (Nat.le_of_ble_eq_true rfl)) dX0_slope_1 ⟨Nat.le_of_ble_eq_true rfl, Nat.le_of_ble_eq_true rfl⟩) hS (fun q _ h => hFc q h) hFc (fun q _ h => hFc q h) (fun E ce q9 u t H1 locs ht hvm hpx hB hz1 hk1 hS hce hcv hcl => ?_) (fun u t H1 locs ht hvm h1 hB hz1 hk1 hS => ?_)
  · -- thrown there
    obtain ⟨⟨rfl, hB9⟩, -⟩ := hB
    obtain ⟨hP, hD⟩ := va_join (wr := (wX x a1 a2 a3 a4 cI S F X Y n ar sl mu ml ck ic ds js ps ss tc)) (w1 := []) hP hD [] [0, 1, 2, 3, 4] rfl rfl (by decide) (by decide) hk1 hFc nil_P nil_D
    have hP : va_P (dC, dI) vwCl (wX x a1 a2 a3 a4 cI S F X Y n ar sl mu ml ck ic ds js ps ss tc) H1 := hP
    have hD : va_D A (wX x a1 a2 a3 a4 cI S F X Y n ar sl mu ml ck ic ds js ps ss tc) := hD
    exact vx_out (fun x hx => (htab x hx).elim) hlocks hce hcv hcl (fun t ht ha => ⟨(), trivial, ⟨Or.inl ⟨rfl, kd_1 hB9⟩, by rw [ht]; exact hP, va_K.moved ha hK, hD⟩, hS.F ht⟩) hS.2.2 (Nat.le_of_ble_eq_true rfl) (Nat.le_of_ble_eq_true rfl)
  obtain ⟨hP, hD⟩ := va_join (wr := (wX x a1 a2 a3 a4 cI S F X Y n ar sl mu ml ck ic ds js ps ss tc)) (w1 := []) hP hD [] [0, 1, 2, 3, 4] rfl rfl (by decide) (by decide) hk1 hFc nil_P nil_D
  generalize H1 = H at hP hS ⊢
  have hP : va_P (dC, dI) vwCl (wX x a1 a2 a3 a4 cI S F X Y n ar sl mu ml ck ic ds js ps ss tc) H := hP
  have hD : va_D A (wX x a1 a2 a3 a4 cI S F X Y n ar sl mu ml ck ic ds js ps ss tc) := hD
  refine lv_iload_n hx hb dX0_slope_4 rfl (lv_at hl 1 rfl) ?_
  refine lv_iconst (v := 0) hx hb dX0_slope_5 (by decide) ?_
  refine lv_ldc (v := 1000000) hx hb hown k22 dX0_slope_6 ?_
  refine vp_callSi (W.runS (As := [.int p1, .int 0, .int 1000000]) (rest := []) ⟨hx, hb, hml, hown, hts⟩ (c_X0_isWithin l p1 0 1000000 0 1000000 (by decide) (by decide)) (va_cwS 3 hts (gS wl_X0_23 ws_X0_isWithin wi_X0 wc_X0_isWithin) rfl rfl rfl (by decide +kernel) ⟨Nat.le_of_ble_eq_true rfl, Nat.le_of_ble_eq_true rfl⟩) ⟨fun _ _ _ _ q => q, fun U hU hW => ⟨rfl, trivial⟩⟩ rfl rfl hl.1 rfl (lv_room (Nat.le_of_ble_eq_true rfl)) dX0_slope_8 ⟨Nat.le_of_ble_eq_true rfl, Nat.le_of_ble_eq_true rfl⟩) (fun r8 h8 => ?_)
  subst h8
  refine lv_if_eq (tgt := 29) hx hb dX0_slope_11 (by decide) (fun c11 => ?_) (fun c11 => ?_)
  · -- taken at 11
    have c11 := bI_eq0.mp c11
    exact vx_throwS (own := RX0) (cls := "java/lang/IllegalArgumentException") (names := ["java/lang/RuntimeException", "java/lang/Exception"]) hx hb hL hown (by decide +kernel) (by decide +kernel) (hts _ (List.mem_cons_of_mem _ wl_X0_27)) (hts _ (List.mem_cons_of_mem _ wi_IllegalArgument)) (hG.2.2.1 (57, "a span's strains are 0 to 1,000,000 and rise") (by decide +kernel)) (vx_hat (L := vx_atS RX0 31 "java/lang/IllegalArgumentException" ["java/lang/RuntimeException", "java/lang/Exception"]) (B := [.castable "java/lang/IllegalArgumentException" "java/lang/IllegalArgumentException", .declares ⟨"java/lang/RuntimeException", "<init>", "(Ljava/lang/String;)V"⟩, .declares ⟨"java/lang/Exception", "<init>", "(Ljava/lang/String;)V"⟩, .declares ⟨"java/lang/Throwable", "<init>", "(Ljava/lang/String;)V"⟩]) (fun w hw => hts w (List.mem_cons_of_mem _ (xa_IllegalArgument w hw))) (by decide +kernel) (vx_c (va_Nw.use rfl (hG.2.2.2.1 ("java/lang/IllegalArgumentException", "java/lang/IllegalArgumentException") (by decide +kernel))) (vx_c (va_Nw.use rfl (hG.2.2.2.2.2 ⟨"java/lang/RuntimeException", "<init>", "(Ljava/lang/String;)V"⟩ (by decide +kernel))) (vx_c (va_Nw.use rfl (hG.2.2.2.2.2 ⟨"java/lang/Exception", "<init>", "(Ljava/lang/String;)V"⟩ (by decide +kernel))) (vx_c (va_Nw.use rfl (hG.2.2.2.2.2 ⟨"java/lang/Throwable", "<init>", "(Ljava/lang/String;)V"⟩ (by decide +kernel))) (vx_n)))))) (by decide +kernel) hZU hZN hS (hl.1.trans hml.symm) dX0_slope_29 dX0_slope_32 dX0_slope_33 dX0_slope_35 dX0_slope_38 (fun x hx => (htab x hx).elim) (Nat.le_of_ble_eq_true rfl) (Nat.le_of_ble_eq_true rfl) (Nat.le_of_ble_eq_true rfl) (Nat.le_of_ble_eq_true rfl) hlocks (fun t ha hsz hk => ⟨(), trivial, ⟨Or.inr (Or.inl ⟨rfl, kd_2 h1 (by unfold ok_span; omega)⟩), hP.kept (fun k q hq => hk q.1 (hP k q hq).lt), va_K.moved ha hK, hD⟩, Nat.le_trans hS.1 hsz, fun q h1 h2 => (hk q (Nat.lt_of_lt_of_le h1 hS.1)).trans (hS.2.1 q h1 h2)⟩) hS.2.2 (Nat.le_of_ble_eq_true rfl) (Nat.le_of_ble_eq_true rfl)
  · -- not taken at 11
    have c11 := bI_ne0.mp c11
    refine lv_iload_n hx hb dX0_slope_14 rfl (lv_at hl 2 rfl) ?_
    refine lv_iconst (v := 0) hx hb dX0_slope_15 (by decide) ?_
    refine lv_ldc (v := 1000000) hx hb hown k22 dX0_slope_16 ?_
    refine vp_callSi (W.runS (As := [.int p2, .int 0, .int 1000000]) (rest := []) ⟨hx, hb, hml, hown, hts⟩ (c_X0_isWithin l p2 0 1000000 0 1000000 (by decide) (by decide)) (va_cwS 3 hts (gS wl_X0_23 ws_X0_isWithin wi_X0 wc_X0_isWithin) rfl rfl rfl (by decide +kernel) ⟨Nat.le_of_ble_eq_true rfl, Nat.le_of_ble_eq_true rfl⟩) ⟨fun _ _ _ _ q => q, fun U hU hW => ⟨rfl, trivial⟩⟩ rfl rfl hl.1 rfl (lv_room (Nat.le_of_ble_eq_true rfl)) dX0_slope_18 ⟨Nat.le_of_ble_eq_true rfl, Nat.le_of_ble_eq_true rfl⟩) (fun r18 h18 => ?_)
    subst h18
    refine lv_if_eq (tgt := 29) hx hb dX0_slope_21 (by decide) (fun c21 => ?_) (fun c21 => ?_)
    · -- taken at 21
      have c21 := bI_eq0.mp c21
      exact vx_throwS (own := RX0) (cls := "java/lang/IllegalArgumentException") (names := ["java/lang/RuntimeException", "java/lang/Exception"]) hx hb hL hown (by decide +kernel) (by decide +kernel) (hts _ (List.mem_cons_of_mem _ wl_X0_27)) (hts _ (List.mem_cons_of_mem _ wi_IllegalArgument)) (hG.2.2.1 (57, "a span's strains are 0 to 1,000,000 and rise") (by decide +kernel)) (vx_hat (L := vx_atS RX0 31 "java/lang/IllegalArgumentException" ["java/lang/RuntimeException", "java/lang/Exception"]) (B := [.castable "java/lang/IllegalArgumentException" "java/lang/IllegalArgumentException", .declares ⟨"java/lang/RuntimeException", "<init>", "(Ljava/lang/String;)V"⟩, .declares ⟨"java/lang/Exception", "<init>", "(Ljava/lang/String;)V"⟩, .declares ⟨"java/lang/Throwable", "<init>", "(Ljava/lang/String;)V"⟩]) (fun w hw => hts w (List.mem_cons_of_mem _ (xa_IllegalArgument w hw))) (by decide +kernel) (vx_c (va_Nw.use rfl (hG.2.2.2.1 ("java/lang/IllegalArgumentException", "java/lang/IllegalArgumentException") (by decide +kernel))) (vx_c (va_Nw.use rfl (hG.2.2.2.2.2 ⟨"java/lang/RuntimeException", "<init>", "(Ljava/lang/String;)V"⟩ (by decide +kernel))) (vx_c (va_Nw.use rfl (hG.2.2.2.2.2 ⟨"java/lang/Exception", "<init>", "(Ljava/lang/String;)V"⟩ (by decide +kernel))) (vx_c (va_Nw.use rfl (hG.2.2.2.2.2 ⟨"java/lang/Throwable", "<init>", "(Ljava/lang/String;)V"⟩ (by decide +kernel))) (vx_n)))))) (by decide +kernel) hZU hZN hS (hl.1.trans hml.symm) dX0_slope_29 dX0_slope_32 dX0_slope_33 dX0_slope_35 dX0_slope_38 (fun x hx => (htab x hx).elim) (Nat.le_of_ble_eq_true rfl) (Nat.le_of_ble_eq_true rfl) (Nat.le_of_ble_eq_true rfl) (Nat.le_of_ble_eq_true rfl) hlocks (fun t ha hsz hk => ⟨(), trivial, ⟨Or.inr (Or.inl ⟨rfl, kd_2 h1 (by unfold ok_span; omega)⟩), hP.kept (fun k q hq => hk q.1 (hP k q hq).lt), va_K.moved ha hK, hD⟩, Nat.le_trans hS.1 hsz, fun q h1 h2 => (hk q (Nat.lt_of_lt_of_le h1 hS.1)).trans (hS.2.1 q h1 h2)⟩) hS.2.2 (Nat.le_of_ble_eq_true rfl) (Nat.le_of_ble_eq_true rfl)
    · -- not taken at 21
      have c21 := bI_ne0.mp c21
      refine lv_iload_n hx hb dX0_slope_24 rfl (lv_at hl 1 rfl) ?_
      refine lv_iload_n hx hb dX0_slope_25 rfl (lv_at hl 2 rfl) ?_
      refine lv_icmp_lt (tgt := 39) hx hb dX0_slope_26 (by decide) (fun c26 => ?_) (fun c26 => ?_)
      · -- taken at 26
        have c26 : p1.toInt < p2.toInt := (Int32.lt_iff_toInt_lt).mp c26
        refine lv_aload_n hx hb dX0_slope_39 rfl (lv_at hl 0 rfl) ?_
        refine lv_iload_n hx hb dX0_slope_40 rfl (lv_at hl 1 rfl) ?_
        refine vp_callSi (W.runV (As := [.int p1]) (rest := []) ⟨hx, hb, hml, hown, hts⟩ (c_X0_firstRowFrom l dC dI x a1 a2 a3 a4 cI S F X Y n ar sl mu ml ck ic ds js ps ss tc p1 hn) (cwV 1 hts (gV wl_X0_59 wi_X0_firstRowFrom wv_X0_firstRowFrom wi_X0 wc_X0_firstRowFrom) rfl rfl rfl (by decide +kernel) ⟨Nat.le_of_ble_eq_true rfl, Nat.le_of_ble_eq_true rfl⟩) ⟨fun a U g mk q => ⟨q.1, q.2.1, va_K.moved (u := U) (U := U.calling g mk a) (Vm.Alike.refl U.vm) q.2.2⟩, va_recv hK hP (ci := 0) (q0 := 0) rfl rfl, fun U hU hW => ⟨rfl, by rw [hU]; exact hP, va_K.moved hW.alike hK⟩⟩ rfl rfl hl.1 rfl (lv_room (Nat.le_of_ble_eq_true rfl)) dX0_slope_41 ⟨Nat.le_of_ble_eq_true rfl, Nat.le_of_ble_eq_true rfl⟩) (fun r41 h41 => ?_)
        obtain ⟨ka, hka, rfl, hka1, hka2⟩ := h41
        have hca := cl_first hrs hka hka1 hka2
        subst hca
        have hca9 := nI_toInt (n := cl S p1.toInt n) (by omega)
        refine lv_istore (lv' := [(4, .int (nI (cl S p1.toInt n))), (0, .ref x), (1, .int p1), (2, .int p2), (3, .int p3)]) hx hb dX0_slope_44 hl (by decide) rfl (fun ls hl => ?_)
        refine lv_aload_n hx hb dX0_slope_46 rfl (lv_at hl 1 rfl) ?_
        refine lv_iload_n hx hb dX0_slope_47 rfl (lv_at hl 3 rfl) ?_
        refine vp_callSi (W.runV (As := [.int p2]) (rest := []) ⟨hx, hb, hml, hown, hts⟩ (c_X0_lastRowUpTo l dC dI x a1 a2 a3 a4 cI S F X Y n ar sl mu ml ck ic ds js ps ss tc p2 hn) (cwV 1 hts (gV wl_X0_63 wi_X0_lastRowUpTo wv_X0_lastRowUpTo wi_X0 wc_X0_lastRowUpTo) rfl rfl rfl (by decide +kernel) ⟨Nat.le_of_ble_eq_true rfl, Nat.le_of_ble_eq_true rfl⟩) ⟨fun a U g mk q => ⟨q.1, q.2.1, va_K.moved (u := U) (U := U.calling g mk a) (Vm.Alike.refl U.vm) q.2.2⟩, va_recv hK hP (ci := 0) (q0 := 0) rfl rfl, fun U hU hW => ⟨rfl, by rw [hU]; exact hP, va_K.moved hW.alike hK⟩⟩ rfl rfl hl.1 rfl (lv_room (Nat.le_of_ble_eq_true rfl)) dX0_slope_48 ⟨Nat.le_of_ble_eq_true rfl, Nat.le_of_ble_eq_true rfl⟩) (fun r48 h48 => ?_)
        obtain ⟨kb, hkb, hkb0, hkb1, hkb2⟩ := h48
        have hcb := cl_last hrs hkb hkb1 hkb2
        subst hcb
        refine lv_istore (lv' := [(5, .int r48), (4, .int (nI (cl S p1.toInt n))), (0, .ref x), (1, .int p1), (2, .int p2), (3, .int p3)]) hx hb dX0_slope_51 hl (by decide) rfl (fun ls hl => ?_)
        refine lv_iload hx hb dX0_slope_53 (lv_at hl 1 rfl) ?_
        refine lv_iload hx hb dX0_slope_55 (lv_at hl 0 rfl) ?_
        refine lv_icmp_lt (tgt := 70) hx hb dX0_slope_57 (by decide) (fun c57 => ?_) (fun c57 => ?_)
        · -- taken at 57
          have c57 : (nI (cl S p1.toInt n)).toInt < r48.toInt := (Int32.lt_iff_toInt_lt).mp c57
          obtain ⟨s1, s2, s3, s4⟩ := sl_e hn hrs hSb hFb (show cl S p1.toInt n + 1 < cl S (p2.toInt + 1) n by omega) hkb
          refine lv_aload_n hx hb dX0_slope_70 rfl (lv_at hl 2 rfl) ?_
          refine va_get (D := (dC, dI)) (ci := 0) (v := .ref a2) (C := RX0) (T := TX0) (N := 16) hx hb hts hinX0 hown hK hP 0 rfl rfl 1 (by decide) f13 (fun _ h9 => h9) rfl dX0_slope_71 ?_
          refine lv_iload hx hb dX0_slope_74 (lv_at hl 0 rfl) ?_
          refine va_iald (D := (dC, dI)) hx hb hK hP 2 0 rfl rfl (vp_in_iff.mpr ⟨by omega, by omega⟩) dX0_slope_76 ?_
          refine W.eq (congrArg (fun z => F0 m 77 ls (.int z :: [])) (congrArg F (cl_of (j := cl S (p2.toInt + 1) n - 1) (by omega)))) ?_
          refine lv_aload_n hx hb dX0_slope_77 rfl (lv_at hl 2 rfl) ?_
          refine va_get (D := (dC, dI)) (ci := 0) (v := .ref a2) (C := RX0) (T := TX0) (N := 16) hx hb hts hinX0 hown hK hP 0 rfl rfl 1 (by decide) f13 (fun _ h9 => h9) rfl dX0_slope_78 ?_
          refine lv_iload hx hb dX0_slope_81 (lv_at hl 1 rfl) ?_
          refine va_iald (D := (dC, dI)) hx hb hK hP 2 0 rfl rfl (vp_in_nI (show cl S p1.toInt n < 40 by omega) (by decide)) dX0_slope_83 ?_
          refine W.eq (congrArg (fun z => F0 m 84 ls (.int z :: [.int (F (cl S (p2.toInt + 1) n - 1))])) (congrArg F (nI_clamp (show cl S p1.toInt n < 2 ^ 31 by omega)))) ?_
          refine lv_isub hx hb dX0_slope_84 ?_
          refine lv_i2l hx hb dX0_slope_85 rfl ?_
          refine lv_lstore (lv' := [(6, .long (((F (cl S (p2.toInt + 1) n - 1)) - (F (cl S p1.toInt n))).toInt64)), (5, .int r48), (4, .int (nI (cl S p1.toInt n))), (0, .ref x), (1, .int p1), (2, .int p2), (3, .int p3)]) hx hb dX0_slope_86 hl (by decide) rfl (fun ls hl => ?_)
          refine lv_aload_n hx hb dX0_slope_88 rfl (lv_at hl 3 rfl) ?_
          refine va_get (D := (dC, dI)) (ci := 0) (v := .ref a1) (C := RX0) (T := TX0) (N := 16) hx hb hts hinX0 hown hK hP 0 rfl rfl 0 (by decide) f9 (fun _ h9 => h9) rfl dX0_slope_89 ?_
          refine lv_iload hx hb dX0_slope_92 (lv_at hl 1 rfl) ?_
          refine va_iald (D := (dC, dI)) hx hb hK hP 1 0 rfl rfl (vp_in_iff.mpr ⟨by omega, by omega⟩) dX0_slope_94 ?_
          refine W.eq (congrArg (fun z => F0 m 95 ls (.int z :: [])) (congrArg S (cl_of (j := cl S (p2.toInt + 1) n - 1) (by omega)))) ?_
          refine lv_aload_n hx hb dX0_slope_95 rfl (lv_at hl 3 rfl) ?_
          refine va_get (D := (dC, dI)) (ci := 0) (v := .ref a1) (C := RX0) (T := TX0) (N := 16) hx hb hts hinX0 hown hK hP 0 rfl rfl 0 (by decide) f9 (fun _ h9 => h9) rfl dX0_slope_96 ?_
          refine lv_iload hx hb dX0_slope_99 (lv_at hl 2 rfl) ?_
          refine va_iald (D := (dC, dI)) hx hb hK hP 1 0 rfl rfl (vp_in_nI (show cl S p1.toInt n < 40 by omega) (by decide)) dX0_slope_101 ?_
          refine W.eq (congrArg (fun z => F0 m 102 ls (.int z :: [.int (S (cl S (p2.toInt + 1) n - 1))])) (congrArg S (nI_clamp (show cl S p1.toInt n < 2 ^ 31 by omega)))) ?_
          refine lv_isub hx hb dX0_slope_102 ?_
          refine lv_i2l hx hb dX0_slope_103 rfl ?_
          refine lv_lstore (lv' := [(8, .long (((S (cl S (p2.toInt + 1) n - 1)) - (S (cl S p1.toInt n))).toInt64)), (6, .long (((F (cl S (p2.toInt + 1) n - 1)) - (F (cl S p1.toInt n))).toInt64)), (5, .int r48), (4, .int (nI (cl S p1.toInt n))), (0, .ref x), (1, .int p1), (2, .int p2), (3, .int p3)]) hx hb dX0_slope_104 hl (by decide) rfl (fun ls hl => ?_)
          refine lv_lload hx hb dX0_slope_106 (lv_at hl 1 rfl) ?_
          refine lv_lconst (v := 0) hx hb dX0_slope_108 (by decide) ?_
          refine W.lcmp hx hb dX0_slope_109 ?_
          refine lv_if_le (tgt := 125) hx hb dX0_slope_110 (by decide) (fun c110 => ?_) (fun c110 => ?_)
          · -- taken at 110
            have c110 := (lg_cmp_le _ _).mp c110
            have c110 : (((F (cl S (p2.toInt + 1) n - 1)) - (F (cl S p1.toInt n))).toInt64).toInt ≤ 0 := (Int64.le_iff_toInt_le).mp c110
            refine lv_lload hx hb dX0_slope_125 (lv_at hl 1 rfl) ?_
            refine lv_lload hx hb dX0_slope_127 (lv_at hl 0 rfl) ?_
            refine lv_iload_n hx hb dX0_slope_129 rfl (lv_at hl 7 rfl) ?_
            refine vp_callSl (W.runS (As := [.long (((F (cl S (p2.toInt + 1) n - 1)) - (F (cl S p1.toInt n))).toInt64), .long (((S (cl S (p2.toInt + 1) n - 1)) - (S (cl S p1.toInt n))).toInt64), .int p3]) (rest := []) ⟨hx, hb, hml, hown, hts⟩ (c_X0_partInLowestTerms l (((F (cl S (p2.toInt + 1) n - 1)) - (F (cl S p1.toInt n))).toInt64) (((S (cl S (p2.toInt + 1) n - 1)) - (S (cl S p1.toInt n))).toInt64) p3 (by omega) (by omega) (by omega)) (va_cwS 3 hts (gS wl_X0_75 ws_X0_partInLowestTerms wi_X0 wc_X0_partInLowestTerms) rfl rfl rfl (by decide +kernel) ⟨Nat.le_of_ble_eq_true rfl, Nat.le_of_ble_eq_true rfl⟩) ⟨fun _ _ _ _ q => q, fun U hU hW => ⟨rfl, trivial⟩⟩ rfl rfl hl.1 rfl (lv_room (Nat.le_of_ble_eq_true rfl)) dX0_slope_130 ⟨Nat.le_of_ble_eq_true rfl, Nat.le_of_ble_eq_true rfl⟩) (fun r130 h130 => ?_)
            refine vx_ret ?_
            refine W.widen (k := 2) (n := 12) (Nat.le_of_ble_eq_true rfl) (Nat.le_of_ble_eq_true rfl) ?_
            exact W.lret (v := r130) hx hb hr (fun t ht hW => ⟨⟨r130, (mu, ml), rfl, ⟨kd_0 h1 (by unfold ok_span; omega) (by omega) trivial, sl_r s1 s2 h130, Or.inr ⟨by omega, rfl, rfl⟩⟩, ⟨by rw [ht]; exact hP, va_K.moved hW.alike hK, hD⟩⟩, hS.F ht⟩) hS.2.2 dX0_slope_133
          · -- not taken at 110
            have c110 := fun q9 => c110 ((lg_cmp_le _ _).mpr q9)
            have c110 : ¬ (((F (cl S (p2.toInt + 1) n - 1)) - (F (cl S p1.toInt n))).toInt64).toInt ≤ 0 := fun q9 => c110 ((Int64.le_iff_toInt_le).mpr q9)
            refine lv_aload_n hx hb dX0_slope_113 rfl (lv_at hl 4 rfl) ?_
            refine lv_lload hx hb dX0_slope_114 (lv_at hl 1 rfl) ?_
            refine va_put (D := (dC, dI)) (ci := 0) (v := .long (((F (cl S (p2.toInt + 1) n - 1)) - (F (cl S p1.toInt n))).toInt64)) (ty := .long) (C := RX0) (T := TX0) (N := 16) hx hb hts hinX0 tyX0 tyX0_ok nmX0 hown hK hP hD hS 0 rfl rfl 5 (by decide) f68 (fun _ h9 => h9) rfl (by decide +kernel) (rfl) (rfl) (Nat.le_of_ble_eq_true rfl) dX0_slope_116 (fun H locs hP hD hS => ?_)
            have hP : va_P (dC, dI) vwCl (wX x a1 a2 a3 a4 cI S F X Y n ar sl (((F (cl S (p2.toInt + 1) n - 1)) - (F (cl S p1.toInt n))).toInt64) ml ck ic ds js ps ss tc) H := hP
            have hD : va_D A (wX x a1 a2 a3 a4 cI S F X Y n ar sl (((F (cl S (p2.toInt + 1) n - 1)) - (F (cl S p1.toInt n))).toInt64) ml ck ic ds js ps ss tc) := hD
            refine lv_aload_n hx hb dX0_slope_119 rfl (lv_at hl 4 rfl) ?_
            refine lv_lload hx hb dX0_slope_120 (lv_at hl 0 rfl) ?_
            refine va_put (D := (dC, dI)) (ci := 0) (v := .long (((S (cl S (p2.toInt + 1) n - 1)) - (S (cl S p1.toInt n))).toInt64)) (ty := .long) (C := RX0) (T := TX0) (N := 16) hx hb hts hinX0 tyX0 tyX0_ok nmX0 hown hK hP hD hS 0 rfl rfl 6 (by decide) f72 (fun _ h9 => h9) rfl (by decide +kernel) (rfl) (rfl) (Nat.le_of_ble_eq_true rfl) dX0_slope_122 (fun H locs hP hD hS => ?_)
            have hP : va_P (dC, dI) vwCl (wX x a1 a2 a3 a4 cI S F X Y n ar sl (((F (cl S (p2.toInt + 1) n - 1)) - (F (cl S p1.toInt n))).toInt64) (((S (cl S (p2.toInt + 1) n - 1)) - (S (cl S p1.toInt n))).toInt64) ck ic ds js ps ss tc) H := hP
            have hD : va_D A (wX x a1 a2 a3 a4 cI S F X Y n ar sl (((F (cl S (p2.toInt + 1) n - 1)) - (F (cl S p1.toInt n))).toInt64) (((S (cl S (p2.toInt + 1) n - 1)) - (S (cl S p1.toInt n))).toInt64) ck ic ds js ps ss tc) := hD
            refine lv_lload hx hb dX0_slope_125 (lv_at hl 1 rfl) ?_
            refine lv_lload hx hb dX0_slope_127 (lv_at hl 0 rfl) ?_
            refine lv_iload_n hx hb dX0_slope_129 rfl (lv_at hl 7 rfl) ?_
            refine vp_callSl (W.runS (As := [.long (((F (cl S (p2.toInt + 1) n - 1)) - (F (cl S p1.toInt n))).toInt64), .long (((S (cl S (p2.toInt + 1) n - 1)) - (S (cl S p1.toInt n))).toInt64), .int p3]) (rest := []) ⟨hx, hb, hml, hown, hts⟩ (c_X0_partInLowestTerms l (((F (cl S (p2.toInt + 1) n - 1)) - (F (cl S p1.toInt n))).toInt64) (((S (cl S (p2.toInt + 1) n - 1)) - (S (cl S p1.toInt n))).toInt64) p3 (by omega) (by omega) (by omega)) (va_cwS 3 hts (gS wl_X0_75 ws_X0_partInLowestTerms wi_X0 wc_X0_partInLowestTerms) rfl rfl rfl (by decide +kernel) ⟨Nat.le_of_ble_eq_true rfl, Nat.le_of_ble_eq_true rfl⟩) ⟨fun _ _ _ _ q => q, fun U hU hW => ⟨rfl, trivial⟩⟩ rfl rfl hl.1 rfl (lv_room (Nat.le_of_ble_eq_true rfl)) dX0_slope_130 ⟨Nat.le_of_ble_eq_true rfl, Nat.le_of_ble_eq_true rfl⟩) (fun r130 h130 => ?_)
            refine vx_ret ?_
            refine W.widen (k := 2) (n := 12) (Nat.le_of_ble_eq_true rfl) (Nat.le_of_ble_eq_true rfl) ?_
            exact W.lret (v := r130) hx hb hr (fun t ht hW => ⟨⟨r130, (((F (cl S (p2.toInt + 1) n - 1)) - (F (cl S p1.toInt n))).toInt64, ((S (cl S (p2.toInt + 1) n - 1)) - (S (cl S p1.toInt n))).toInt64), rfl, ⟨kd_0 h1 (by unfold ok_span; omega) (by omega) trivial, sl_r s1 s2 h130, Or.inl ⟨by omega, s1, s2⟩⟩, ⟨by rw [ht]; exact hP, va_K.moved hW.alike hK, hD⟩⟩, hS.F ht⟩) hS.2.2 dX0_slope_133
        · -- not taken at 57
          have c57 : ¬ (nI (cl S p1.toInt n)).toInt < r48.toInt := fun q9 => c57 ((Int32.lt_iff_toInt_lt).mpr q9)
          exact vx_throwS (own := RX0) (cls := "java/lang/UnsupportedOperationException") (names := ["java/lang/RuntimeException", "java/lang/Exception"]) hx hb hL hown (by decide +kernel) (by decide +kernel) (hts _ (List.mem_cons_of_mem _ wl_X0_40)) (hts _ (List.mem_cons_of_mem _ wi_UnsupportedOperation)) (hG.2.2.1 (66, "a slope needs two rows") (by decide +kernel)) (vx_hat (L := vx_atS RX0 44 "java/lang/UnsupportedOperationException" ["java/lang/RuntimeException", "java/lang/Exception"]) (B := [.castable "java/lang/UnsupportedOperationException" "java/lang/UnsupportedOperationException", .declares ⟨"java/lang/RuntimeException", "<init>", "(Ljava/lang/String;)V"⟩, .declares ⟨"java/lang/Exception", "<init>", "(Ljava/lang/String;)V"⟩, .declares ⟨"java/lang/Throwable", "<init>", "(Ljava/lang/String;)V"⟩]) (fun w hw => hts w (List.mem_cons_of_mem _ (xa_UnsupportedOperation w hw))) (by decide +kernel) (vx_c (va_Nw.use rfl (hG.2.2.2.1 ("java/lang/UnsupportedOperationException", "java/lang/UnsupportedOperationException") (by decide +kernel))) (vx_c (va_Nw.use rfl (hG.2.2.2.2.2 ⟨"java/lang/RuntimeException", "<init>", "(Ljava/lang/String;)V"⟩ (by decide +kernel))) (vx_c (va_Nw.use rfl (hG.2.2.2.2.2 ⟨"java/lang/Exception", "<init>", "(Ljava/lang/String;)V"⟩ (by decide +kernel))) (vx_c (va_Nw.use rfl (hG.2.2.2.2.2 ⟨"java/lang/Throwable", "<init>", "(Ljava/lang/String;)V"⟩ (by decide +kernel))) (vx_n)))))) (by decide +kernel) hZU hZN hS (hl.1.trans hml.symm) dX0_slope_60 dX0_slope_63 dX0_slope_64 dX0_slope_66 dX0_slope_69 (fun x hx => (htab x hx).elim) (Nat.le_of_ble_eq_true rfl) (Nat.le_of_ble_eq_true rfl) (Nat.le_of_ble_eq_true rfl) (Nat.le_of_ble_eq_true rfl) hlocks (fun t ha hsz hk => ⟨(), trivial, ⟨Or.inr (Or.inr (⟨rfl, kd_3 h1 (by unfold ok_span; omega) (by omega)⟩)), hP.kept (fun k q hq => hk q.1 (hP k q hq).lt), va_K.moved ha hK, hD⟩, Nat.le_trans hS.1 hsz, fun q h1 h2 => (hk q (Nat.lt_of_lt_of_le h1 hS.1)).trans (hS.2.1 q h1 h2)⟩) hS.2.2 (Nat.le_of_ble_eq_true rfl) (Nat.le_of_ble_eq_true rfl)
      · -- not taken at 26
        have c26 : ¬ p1.toInt < p2.toInt := fun q9 => c26 ((Int32.lt_iff_toInt_lt).mpr q9)
        exact vx_throwS (own := RX0) (cls := "java/lang/IllegalArgumentException") (names := ["java/lang/RuntimeException", "java/lang/Exception"]) hx hb hL hown (by decide +kernel) (by decide +kernel) (hts _ (List.mem_cons_of_mem _ wl_X0_27)) (hts _ (List.mem_cons_of_mem _ wi_IllegalArgument)) (hG.2.2.1 (57, "a span's strains are 0 to 1,000,000 and rise") (by decide +kernel)) (vx_hat (L := vx_atS RX0 31 "java/lang/IllegalArgumentException" ["java/lang/RuntimeException", "java/lang/Exception"]) (B := [.castable "java/lang/IllegalArgumentException" "java/lang/IllegalArgumentException", .declares ⟨"java/lang/RuntimeException", "<init>", "(Ljava/lang/String;)V"⟩, .declares ⟨"java/lang/Exception", "<init>", "(Ljava/lang/String;)V"⟩, .declares ⟨"java/lang/Throwable", "<init>", "(Ljava/lang/String;)V"⟩]) (fun w hw => hts w (List.mem_cons_of_mem _ (xa_IllegalArgument w hw))) (by decide +kernel) (vx_c (va_Nw.use rfl (hG.2.2.2.1 ("java/lang/IllegalArgumentException", "java/lang/IllegalArgumentException") (by decide +kernel))) (vx_c (va_Nw.use rfl (hG.2.2.2.2.2 ⟨"java/lang/RuntimeException", "<init>", "(Ljava/lang/String;)V"⟩ (by decide +kernel))) (vx_c (va_Nw.use rfl (hG.2.2.2.2.2 ⟨"java/lang/Exception", "<init>", "(Ljava/lang/String;)V"⟩ (by decide +kernel))) (vx_c (va_Nw.use rfl (hG.2.2.2.2.2 ⟨"java/lang/Throwable", "<init>", "(Ljava/lang/String;)V"⟩ (by decide +kernel))) (vx_n)))))) (by decide +kernel) hZU hZN hS (hl.1.trans hml.symm) dX0_slope_29 dX0_slope_32 dX0_slope_33 dX0_slope_35 dX0_slope_38 (fun x hx => (htab x hx).elim) (Nat.le_of_ble_eq_true rfl) (Nat.le_of_ble_eq_true rfl) (Nat.le_of_ble_eq_true rfl) (Nat.le_of_ble_eq_true rfl) hlocks (fun t ha hsz hk => ⟨(), trivial, ⟨Or.inr (Or.inl ⟨rfl, kd_2 h1 (by unfold ok_span; omega)⟩), hP.kept (fun k q hq => hk q.1 (hP k q hq).lt), va_K.moved ha hK, hD⟩, Nat.le_trans hS.1 hsz, fun q h1 h2 => (hk q (Nat.lt_of_lt_of_le h1 hS.1)).trans (hS.2.1 q h1 h2)⟩) hS.2.2 (Nat.le_of_ble_eq_true rfl) (Nat.le_of_ble_eq_true rfl)
set_option maxHeartbeats 4000000 in
set_option maxRecDepth 100000 in
theorem c_X0_offset (l : Launch) (hL : l.stackTraces = false) (dC : Nat → ClassId) (dI : Nat → Nat → Nat) (z0 : Nat) (sa : Nat → Nat) (sz : Nat) (hz : z0 ≤ sz) (x a1 a2 a3 a4 : Nat) (cI : ClassId) (S F X Y : Nat → Int32) (n : Nat) (ar sl : Int32) (mu ml : Int64) (ck : Int32) (ic : Nat) (ds js ps ss : Int64) (tc : Nat) (p1 p2 : Int32) (hn : n ≤ 40) (hsl : 0 ≤ sl.toInt ∧ sl.toInt ≤ 1000000) (hM : mu = 0 ∨ ((1 ≤ mu.toInt ∧ mu.toInt ≤ 1000000) ∧ (1 ≤ ml.toInt ∧ ml.toInt ≤ 1000000))) (hSb : ∀ j, j < n → 0 ≤ (S j).toInt ∧ (S j).toInt ≤ 1000000) (hFb : ∀ j, j < n → 0 ≤ (F j).toInt ∧ (F j).toInt ≤ 1000000) : vx_Met l yX0_offset wsX0_offset ({ frames := 7, cells := 2, slots := 12, locals := 111 }) (va_Pc [.ref x, .int p1, .int p2] (fun U => U.heap.size = sz ∧ va_P (dC, dI) vwCl (wX x a1 a2 a3 a4 cI S F X Y n ar sl mu ml ck ic ds js ps ss tc) U.heap ∧ va_K (dC, dI) vwCl [(cI, .int)] U ∧ va_D (fun q => z0 ≤ q) (wX x a1 a2 a3 a4 cI S F X Y n ar sl mu ml ck ic ds js ps ss tc) ∧ gl_ok z0 sa U)) (va_Ql (fun r (_ : Unit) => kd4 (0 ≤ p2.toInt ∧ p2.toInt ≤ 1) (¬ mu.toInt = 0) (0 ≤ p1.toInt ∧ p1.toInt ≤ 1000000) True = 0 ∧ ofs F n (exl S F mu ml (sl + p1)) p2.toInt r) (fun (_ : Unit) t => at_w dC dI cI (va_A (wX x a1 a2 a3 a4 cI S F X Y n ar sl mu ml ck ic ds js ps ss tc) sz) (wX x a1 a2 a3 a4 cI S F X Y n ar sl mu ml ck ic ds js ps ss tc) t) (va_A (wX x a1 a2 a3 a4 cI S F X Y n ar sl mu ml ck ic ds js ps ss tc) sz)) (vx_X (fun _ : Unit => True) (fun E _ t => ((E = "java/lang/IndexOutOfBoundsException" ∧ kd4 (0 ≤ p2.toInt ∧ p2.toInt ≤ 1) (¬ mu.toInt = 0) (0 ≤ p1.toInt ∧ p1.toInt ≤ 1000000) True = 1) ∨ (E = "java/lang/IllegalStateException" ∧ kd4 (0 ≤ p2.toInt ∧ p2.toInt ≤ 1) (¬ mu.toInt = 0) (0 ≤ p1.toInt ∧ p1.toInt ≤ 1000000) True = 2) ∨ (E = "java/lang/IllegalArgumentException" ∧ kd4 (0 ≤ p2.toInt ∧ p2.toInt ≤ 1) (¬ mu.toInt = 0) (0 ≤ p1.toInt ∧ p1.toInt ≤ 1000000) True = 3)) ∧ at_w dC dI cI (va_A (wX x a1 a2 a3 a4 cI S F X Y n ar sl mu ml ck ic ds js ps ss tc) sz) (wX x a1 a2 a3 a4 cI S F X Y n ar sl mu ml ck ic ds js ps ss tc) t) (va_A (wX x a1 a2 a3 a4 cI S F X Y n ar sl mu ml ck ic ds js ps ss tc) sz)) 2 12 (va_A (wX x a1 a2 a3 a4 cI S F X Y n ar sl mu ml ck ic ds js ps ss tc) sz) := by
  refine vx_ofW (cc := cX0_offset) (maxL := 11) (ret := (some .long)) (by decide) rfl ?_
  intro p e s m args below meth c s₁ B hml htab hv
  obtain ⟨rfl, hsz, hP, hK, hD0, hG⟩ := hv
  have hx := B.exec
  have hb := B.bytes
  have hr := B.returns
  have hts := atoms_spec (ws := wsX0_offset) B.pre
  have hown : s.vm.findClass RX0 = some m.cls := findClass_of_methodNamed B.named
  have hlocks := B.notSynchronized
  have hinX0 : ∀ w ∈ wsX00, w ∈ wsX0_offset := fun w h => List.mem_cons_of_mem _ (inX0 w h)
  have f68 := hts _ (List.mem_cons_of_mem _ wl_X0_68)
  have k22 := hts _ (List.mem_cons_of_mem _ wl_X0_22)
  have f50 := hts _ (List.mem_cons_of_mem _ wl_X0_50)
  have k89 := hts _ (List.mem_cons_of_mem _ wl_X0_89)
  have f13 := hts _ (List.mem_cons_of_mem _ wl_X0_13)
  subst hsz
  have hD := hD0.self (sz := s.heap.size)
  have hAz := az_of hD0 hz
  generalize hAe : va_A (wX x a1 a2 a3 a4 cI S F X Y n ar sl mu ml ck ic ds js ps ss tc) s.heap.size = A at hD hAz ⊢
  have hA : ∀ q : Nat, s.heap.size ≤ q → A q := fun q h => by rw [← hAe]; exact Or.inr h
  have hS : va_S A s.heap s.heap [] := va_S.rf
  have hZU := hG.1.narrow hAz
  have hZN := hG.2.1.narrow hAz
  have hl := lv_entry ([.ref x, .int p1, .int p2]) (n := 11) (Nat.le_of_ble_eq_true rfl)
  rw [lg_entry_eq]
  generalize (lg_sl ([.ref x, .int p1, .int p2]) ++ List.replicate (11 - (lg_sl ([.ref x, .int p1, .int p2])).length) Slot.unset).toArray = ls at hl ⊢
  have hl : lv_has ls 11 [(0, .ref x), (1, .int p1), (2, .int p2)] := hl
  refine lv_iload_n hx hb dX0_offset_0 rfl (lv_at hl 2 rfl) ?_
  have hFc := va_free (wc := []) hD hS hA [] rfl
  refine vx_callv (vx_runS (As := [.int p2]) (rest := []) ⟨hx, hb, hml, hown, hts⟩ (c_X0_refuseNoSuchPart l hL z0 sa s.heap.size (Nat.le_trans hz hS.1) p2) (va_cwS 1 hts (gS wl_X0_53 ws_X0_refuseNoSuchPart wi_X0 wc_X0_refuseNoSuchPart) rfl rfl rfl (by decide +kernel) ⟨Nat.le_of_ble_eq_true rfl, Nat.le_of_ble_eq_true rfl⟩) ⟨fun a U g mk q => ⟨q.1, q.2.1, gl_blind q.2.2⟩, fun U hU hW => ⟨rfl, by rw [hU], gl_moved hG hS hAz hU hW⟩⟩ rfl rfl hl.1 rfl (lv_room (Nat.le_of_ble_eq_true rfl)) dX0_offset_1 ⟨Nat.le_of_ble_eq_true rfl, Nat.le_of_ble_eq_true rfl⟩) hS (fun q _ h => hFc q h) hFc (fun q _ h => hFc q h) (fun E ce q9 u t H1 locs ht hvm hpx hB hz1 hk1 hS hce hcv hcl => ?_) (fun u t H1 locs ht hvm h1 hB hz1 hk1 hS => ?_)
  · -- thrown there
    obtain ⟨⟨rfl, hB9⟩, -⟩ := hB
    obtain ⟨hP, hD⟩ := va_join (wr := (wX x a1 a2 a3 a4 cI S F X Y n ar sl mu ml ck ic ds js ps ss tc)) (w1 := []) hP hD [] [0, 1, 2, 3, 4] rfl rfl (by decide) (by decide) hk1 hFc nil_P nil_D
    have hP : va_P (dC, dI) vwCl (wX x a1 a2 a3 a4 cI S F X Y n ar sl mu ml ck ic ds js ps ss tc) H1 := hP
    have hD : va_D A (wX x a1 a2 a3 a4 cI S F X Y n ar sl mu ml ck ic ds js ps ss tc) := hD
    exact vx_out (fun x hx => (htab x hx).elim) hlocks hce hcv hcl (fun t ht ha => ⟨(), trivial, ⟨Or.inl ⟨rfl, kd_1 hB9⟩, by rw [ht]; exact hP, va_K.moved ha hK, hD⟩, hS.F ht⟩) hS.2.2 (Nat.le_of_ble_eq_true rfl) (Nat.le_of_ble_eq_true rfl)
  obtain ⟨hP, hD⟩ := va_join (wr := (wX x a1 a2 a3 a4 cI S F X Y n ar sl mu ml ck ic ds js ps ss tc)) (w1 := []) hP hD [] [0, 1, 2, 3, 4] rfl rfl (by decide) (by decide) hk1 hFc nil_P nil_D
  generalize H1 = H at hP hS ⊢
  have hP : va_P (dC, dI) vwCl (wX x a1 a2 a3 a4 cI S F X Y n ar sl mu ml ck ic ds js ps ss tc) H := hP
  have hD : va_D A (wX x a1 a2 a3 a4 cI S F X Y n ar sl mu ml ck ic ds js ps ss tc) := hD
  refine lv_aload_n hx hb dX0_offset_4 rfl (lv_at hl 0 rfl) ?_
  refine va_get (D := (dC, dI)) (ci := 0) (v := .long mu) (C := RX0) (T := TX0) (N := 16) hx hb hts hinX0 hown hK hP 0 rfl rfl 5 (by decide) f68 (fun _ h9 => h9) rfl dX0_offset_5 ?_
  refine lv_lconst (v := 0) hx hb dX0_offset_8 (by decide) ?_
  refine W.lcmp hx hb dX0_offset_9 ?_
  refine lv_if_ne (tgt := 23) hx hb dX0_offset_10 (by decide) (fun c10 => ?_) (fun c10 => ?_)
  · -- taken at 10
    have c10 := fun q9 => c10 ((lg_cmp_eq _ _).mpr q9)
    have c10 : ¬ mu.toInt = 0 := fun q9 => c10 ((Int64.toInt_inj.symm).mpr q9)
    refine lv_iload_n hx hb dX0_offset_23 rfl (lv_at hl 1 rfl) ?_
    refine lv_iconst (v := 0) hx hb dX0_offset_24 (by decide) ?_
    refine lv_ldc (v := 1000000) hx hb hown k22 dX0_offset_25 ?_
    refine vp_callSi (W.runS (As := [.int p1, .int 0, .int 1000000]) (rest := []) ⟨hx, hb, hml, hown, hts⟩ (c_X0_isWithin l p1 0 1000000 0 1000000 (by decide) (by decide)) (va_cwS 3 hts (gS wl_X0_23 ws_X0_isWithin wi_X0 wc_X0_isWithin) rfl rfl rfl (by decide +kernel) ⟨Nat.le_of_ble_eq_true rfl, Nat.le_of_ble_eq_true rfl⟩) ⟨fun _ _ _ _ q => q, fun U hU hW => ⟨rfl, trivial⟩⟩ rfl rfl hl.1 rfl (lv_room (Nat.le_of_ble_eq_true rfl)) dX0_offset_27 ⟨Nat.le_of_ble_eq_true rfl, Nat.le_of_ble_eq_true rfl⟩) (fun r27 h27 => ?_)
    subst h27
    refine lv_if_ne (tgt := 43) hx hb dX0_offset_30 (by decide) (fun c30 => ?_) (fun c30 => ?_)
    · -- taken at 30
      have c30 := bI_ne0.mp c30
      refine lv_aload_n hx hb dX0_offset_43 rfl (lv_at hl 0 rfl) ?_
      refine va_get (D := (dC, dI)) (ci := 0) (v := .int sl) (C := RX0) (T := TX0) (N := 16) hx hb hts hinX0 hown hK hP 0 rfl rfl 4 (by decide) f50 (fun _ h9 => h9) rfl dX0_offset_44 ?_
      refine lv_iload_n hx hb dX0_offset_47 rfl (lv_at hl 1 rfl) ?_
      refine lv_iadd hx hb dX0_offset_48 ?_
      refine lv_istore_n (lv' := [(3, .int (sl + p1)), (0, .ref x), (1, .int p1), (2, .int p2)]) hx hb dX0_offset_49 rfl hl (by decide) rfl (fun ls hl => ?_)
      refine lv_aload_n hx hb dX0_offset_50 rfl (lv_at hl 1 rfl) ?_
      refine lv_iload_n hx hb dX0_offset_51 rfl (lv_at hl 0 rfl) ?_
      refine vp_callSi (W.runV (As := [.int (sl + p1)]) (rest := []) ⟨hx, hb, hml, hown, hts⟩ (c_X0_meetingRow l dC dI x a1 a2 a3 a4 cI S F X Y n ar sl mu ml ck ic ds js ps ss tc (sl + p1) hn) (cwV 1 hts (gV wl_X0_86 wi_X0_meetingRow wv_X0_meetingRow wi_X0 wc_X0_meetingRow) rfl rfl rfl (by decide +kernel) ⟨Nat.le_of_ble_eq_true rfl, Nat.le_of_ble_eq_true rfl⟩) ⟨fun a U g mk q => ⟨q.1, q.2.1, va_K.moved (u := U) (U := U.calling g mk a) (Vm.Alike.refl U.vm) q.2.2⟩, va_recv hK hP (ci := 0) (q0 := 0) rfl rfl, fun U hU hW => ⟨rfl, by rw [hU]; exact hP, va_K.moved hW.alike hK⟩⟩ rfl rfl hl.1 rfl (lv_room (Nat.le_of_ble_eq_true rfl)) dX0_offset_52 ⟨Nat.le_of_ble_eq_true rfl, Nat.le_of_ble_eq_true rfl⟩) (fun r52 h52 => ?_)
      rcases h52 with ⟨k, hk, hk2, rfl, hm9, ha⟩ | ⟨rfl, ha⟩
      · -- a case
        refine lv_istore (lv' := [(4, .int (nI k)), (3, .int (sl + p1)), (0, .ref x), (1, .int p1), (2, .int p2)]) hx hb dX0_offset_55 hl (by decide) rfl (fun ls hl => ?_)
        refine lv_iload hx hb dX0_offset_57 (lv_at hl 0 rfl) ?_
        refine lv_iconst (v := 1) hx hb dX0_offset_59 (by decide) ?_
        refine lv_icmp_ge (tgt := 75) hx hb dX0_offset_60 (by decide) (fun c60 => ?_) (fun c60 => ?_)
        · -- taken at 60
          have c60 : 1 ≤ k := (nI_leI (a := 1) (b := k) (by omega) (by omega)).mp c60
          refine lv_aload_n hx hb dX0_offset_75 rfl (lv_at hl 2 rfl) ?_
          refine lv_iload hx hb dX0_offset_76 (lv_at hl 0 rfl) ?_
          refine lv_iconst (v := 1) hx hb dX0_offset_78 (by decide) ?_
          refine lv_isub hx hb dX0_offset_79 ?_
          refine lv_iload_n hx hb dX0_offset_80 rfl (lv_at hl 1 rfl) ?_
          refine vp_callSl (W.runV (As := [.int ((nI k) - 1), .int (sl + p1)]) (rest := []) ⟨hx, hb, hml, hown, hts⟩ (c_X0_excessOverLine l dC dI x a1 a2 a3 a4 cI S F X Y n ar sl mu ml ck ic ds js ps ss tc ((nI k) - 1) (sl + p1) (k - 1) (nI_sub1 (by omega) (by omega)) (by omega)) (cwV 2 hts (gV wl_X0_91 wi_X0_excessOverLine wv_X0_excessOverLine wi_X0 wc_X0_excessOverLine) rfl rfl rfl (by decide +kernel) ⟨Nat.le_of_ble_eq_true rfl, Nat.le_of_ble_eq_true rfl⟩) ⟨fun a U g mk q => ⟨q.1, q.2.1, va_K.moved (u := U) (U := U.calling g mk a) (Vm.Alike.refl U.vm) q.2.2⟩, va_recv hK hP (ci := 0) (q0 := 0) rfl rfl, fun U hU hW => ⟨rfl, by rw [hU]; exact hP, va_K.moved hW.alike hK⟩⟩ rfl rfl hl.1 rfl (lv_room (Nat.le_of_ble_eq_true rfl)) dX0_offset_81 ⟨Nat.le_of_ble_eq_true rfl, Nat.le_of_ble_eq_true rfl⟩) (fun r81 h81 => ?_)
          subst h81
          refine lv_lstore (lv' := [(5, .long (exl S F mu ml (sl + p1) (k - 1))), (4, .int (nI k)), (3, .int (sl + p1)), (0, .ref x), (1, .int p1), (2, .int p2)]) hx hb dX0_offset_84 hl (by decide) rfl (fun ls hl => ?_)
          refine lv_aload_n hx hb dX0_offset_86 rfl (lv_at hl 3 rfl) ?_
          refine lv_iload hx hb dX0_offset_87 (lv_at hl 1 rfl) ?_
          refine lv_iload_n hx hb dX0_offset_89 rfl (lv_at hl 2 rfl) ?_
          refine vp_callSl (W.runV (As := [.int (nI k), .int (sl + p1)]) (rest := []) ⟨hx, hb, hml, hown, hts⟩ (c_X0_excessOverLine l dC dI x a1 a2 a3 a4 cI S F X Y n ar sl mu ml ck ic ds js ps ss tc (nI k) (sl + p1) k (nI_toInt (by omega)) (by omega)) (cwV 2 hts (gV wl_X0_91 wi_X0_excessOverLine wv_X0_excessOverLine wi_X0 wc_X0_excessOverLine) rfl rfl rfl (by decide +kernel) ⟨Nat.le_of_ble_eq_true rfl, Nat.le_of_ble_eq_true rfl⟩) ⟨fun a U g mk q => ⟨q.1, q.2.1, va_K.moved (u := U) (U := U.calling g mk a) (Vm.Alike.refl U.vm) q.2.2⟩, va_recv hK hP (ci := 0) (q0 := 0) rfl rfl, fun U hU hW => ⟨rfl, by rw [hU]; exact hP, va_K.moved hW.alike hK⟩⟩ rfl rfl hl.1 rfl (lv_room (Nat.le_of_ble_eq_true rfl)) dX0_offset_90 ⟨Nat.le_of_ble_eq_true rfl, Nat.le_of_ble_eq_true rfl⟩) (fun r90 h90 => ?_)
          subst h90
          refine lv_lstore (lv' := [(7, .long (exl S F mu ml (sl + p1) k)), (5, .long (exl S F mu ml (sl + p1) (k - 1))), (4, .int (nI k)), (3, .int (sl + p1)), (0, .ref x), (1, .int p1), (2, .int p2)]) hx hb dX0_offset_93 hl (by decide) rfl (fun ls hl => ?_)
          obtain ⟨e4, e5⟩ := hM.resolve_left (fun q => c10 (by rw [q]; rfl))
          obtain ⟨g1, g2, g3, g4, g5⟩ := off_c hsl c30 e4 e5 (hSb k (by omega)) (hSb (k - 1) (by omega)) (hFb k (by omega)) (hFb (k - 1) (by omega)) hm9
          refine lv_aload_n hx hb dX0_offset_95 rfl (lv_at hl 4 rfl) ?_
          refine va_get (D := (dC, dI)) (ci := 0) (v := .ref a2) (C := RX0) (T := TX0) (N := 16) hx hb hts hinX0 hown hK hP 0 rfl rfl 1 (by decide) f13 (fun _ h9 => h9) rfl dX0_offset_96 ?_
          refine lv_iload hx hb dX0_offset_99 (lv_at hl 2 rfl) ?_
          refine va_iald (D := (dC, dI)) hx hb hK hP 2 0 rfl rfl (vp_in_nI (show k < 40 by omega) (by decide)) dX0_offset_101 ?_
          refine W.eq (congrArg (fun z => F0 m 102 ls (.int z :: [])) (congrArg F (nI_clamp (show k < 2 ^ 31 by omega)))) ?_
          refine lv_i2l hx hb dX0_offset_102 rfl ?_
          refine lv_lload hx hb dX0_offset_103 (lv_at hl 1 rfl) ?_
          refine lv_lmul hx hb dX0_offset_105 ?_
          refine lv_aload_n hx hb dX0_offset_106 rfl (lv_at hl 4 rfl) ?_
          refine va_get (D := (dC, dI)) (ci := 0) (v := .ref a2) (C := RX0) (T := TX0) (N := 16) hx hb hts hinX0 hown hK hP 0 rfl rfl 1 (by decide) f13 (fun _ h9 => h9) rfl dX0_offset_107 ?_
          refine lv_iload hx hb dX0_offset_110 (lv_at hl 2 rfl) ?_
          refine lv_iconst (v := 1) hx hb dX0_offset_112 (by decide) ?_
          refine lv_isub hx hb dX0_offset_113 ?_
          refine va_iald (D := (dC, dI)) hx hb hK hP 2 0 rfl rfl (by rw [nI_p1 (show 1 ≤ k by omega)]; exact vp_in_nI (show k - 1 < 40 by omega) (by decide)) dX0_offset_114 ?_
          refine W.eq (congrArg (fun z => F0 m 115 ls (.int z :: [.long (((F k).toInt64) * (exl S F mu ml (sl + p1) (k - 1)))])) (congrArg F (show ((nI k) - 1).toNatClampNeg = k - 1 from by rw [nI_p1 (show 1 ≤ k by omega)]; exact nI_clamp (show k - 1 < 2 ^ 31 by omega)))) ?_
          refine lv_i2l hx hb dX0_offset_115 rfl ?_
          refine lv_lload hx hb dX0_offset_116 (lv_at hl 0 rfl) ?_
          refine lv_lmul hx hb dX0_offset_118 ?_
          refine lv_lsub hx hb dX0_offset_119 ?_
          refine lv_lstore (lv' := [(9, .long ((((F k).toInt64) * (exl S F mu ml (sl + p1) (k - 1))) - (((F (k - 1)).toInt64) * (exl S F mu ml (sl + p1) k)))), (7, .long (exl S F mu ml (sl + p1) k)), (5, .long (exl S F mu ml (sl + p1) (k - 1))), (4, .int (nI k)), (3, .int (sl + p1)), (0, .ref x), (1, .int p1), (2, .int p2)]) hx hb dX0_offset_120 hl (by decide) rfl (fun ls hl => ?_)
          refine lv_lload hx hb dX0_offset_122 (lv_at hl 0 rfl) ?_
          refine lv_lload hx hb dX0_offset_124 (lv_at hl 2 rfl) ?_
          refine lv_lload hx hb dX0_offset_126 (lv_at hl 1 rfl) ?_
          refine lv_lsub hx hb dX0_offset_128 ?_
          refine lv_iload_n hx hb dX0_offset_129 rfl (lv_at hl 7 rfl) ?_
          refine vp_callSl (W.runS (As := [.long ((((F k).toInt64) * (exl S F mu ml (sl + p1) (k - 1))) - (((F (k - 1)).toInt64) * (exl S F mu ml (sl + p1) k))), .long ((exl S F mu ml (sl + p1) (k - 1)) - (exl S F mu ml (sl + p1) k)), .int p2]) (rest := []) ⟨hx, hb, hml, hown, hts⟩ (c_X0_partInLowestTerms l ((((F k).toInt64) * (exl S F mu ml (sl + p1) (k - 1))) - (((F (k - 1)).toInt64) * (exl S F mu ml (sl + p1) k))) ((exl S F mu ml (sl + p1) (k - 1)) - (exl S F mu ml (sl + p1) k)) p2 g3 g4 g5) (va_cwS 3 hts (gS wl_X0_75 ws_X0_partInLowestTerms wi_X0 wc_X0_partInLowestTerms) rfl rfl rfl (by decide +kernel) ⟨Nat.le_of_ble_eq_true rfl, Nat.le_of_ble_eq_true rfl⟩) ⟨fun _ _ _ _ q => q, fun U hU hW => ⟨rfl, trivial⟩⟩ rfl rfl hl.1 rfl (lv_room (Nat.le_of_ble_eq_true rfl)) dX0_offset_130 ⟨Nat.le_of_ble_eq_true rfl, Nat.le_of_ble_eq_true rfl⟩) (fun r130 h130 => ?_)
          refine vx_ret ?_
          refine W.widen (k := 2) (n := 12) (Nat.le_of_ble_eq_true rfl) (Nat.le_of_ble_eq_true rfl) ?_
          exact W.lret (v := r130) hx hb hr (fun t ht hW => ⟨⟨r130, (), rfl, ⟨kd_0 h1 c10 c30 trivial, Or.inl ⟨k, hk, hk2, hm9, ha, sl_r g1 g2 h130⟩⟩, ⟨by rw [ht]; exact hP, va_K.moved hW.alike hK, hD⟩⟩, hS.F ht⟩) hS.2.2 dX0_offset_133
        · -- not taken at 60
          have c60 : ¬ 1 ≤ k := fun q9 => c60 ((nI_leI (a := 1) (b := k) (by omega) (by omega)).mpr q9)
          exact absurd hk c60
      · -- a case
        refine lv_istore (lv' := [(4, .int (-1)), (3, .int (sl + p1)), (0, .ref x), (1, .int p1), (2, .int p2)]) hx hb dX0_offset_55 hl (by decide) rfl (fun ls hl => ?_)
        refine lv_iload hx hb dX0_offset_57 (lv_at hl 0 rfl) ?_
        refine lv_iconst (v := 1) hx hb dX0_offset_59 (by decide) ?_
        refine lv_icmp_ge (tgt := 75) hx hb dX0_offset_60 (by decide) (fun c60 => ?_) (fun c60 => ?_)
        · -- taken at 60
          exact absurd c60 (by decide)
        · -- not taken at 60
          refine lv_iload_n hx hb dX0_offset_63 rfl (lv_at hl 4 rfl) ?_
          refine lv_if_ne (tgt := 73) hx hb dX0_offset_64 (by decide) (fun c64 => ?_) (fun c64 => ?_)
          · -- taken at 64
            have c64 : ¬ p2.toInt = 0 := fun q9 => c64 ((Int32.toInt_inj.symm).mpr q9)
            refine lv_lconst (v := 0) hx hb dX0_offset_73 (by decide) ?_
            refine vx_ret ?_
            refine W.widen (k := 2) (n := 12) (Nat.le_of_ble_eq_true rfl) (Nat.le_of_ble_eq_true rfl) ?_
            exact W.lret (v := 0) hx hb hr (fun t ht hW => ⟨⟨0, (), rfl, ⟨kd_0 h1 c10 c30 trivial, Or.inr ⟨ha, Or.inr ⟨c64, rfl⟩⟩⟩, ⟨by rw [ht]; exact hP, va_K.moved hW.alike hK, hD⟩⟩, hS.F ht⟩) hS.2.2 dX0_offset_74
          · -- not taken at 64
            have c64 : p2.toInt = 0 := (Int32.toInt_inj.symm).mp c64
            refine lv_ldc2 (v := (-9223372036854775808)) hx hb hown k89 dX0_offset_67 ?_
            refine lv_goto (tgt := 74) hx hb dX0_offset_70 (by decide) ?_
            refine vx_ret ?_
            refine W.widen (k := 2) (n := 12) (Nat.le_of_ble_eq_true rfl) (Nat.le_of_ble_eq_true rfl) ?_
            exact W.lret (v := (-9223372036854775808)) hx hb hr (fun t ht hW => ⟨⟨(-9223372036854775808), (), rfl, ⟨kd_0 h1 c10 c30 trivial, Or.inr ⟨ha, Or.inl ⟨c64, rfl⟩⟩⟩, ⟨by rw [ht]; exact hP, va_K.moved hW.alike hK, hD⟩⟩, hS.F ht⟩) hS.2.2 dX0_offset_74
    · -- not taken at 30
      have c30 := bI_eq0.mp c30
      exact vx_throwS (own := RX0) (cls := "java/lang/IllegalArgumentException") (names := ["java/lang/RuntimeException", "java/lang/Exception"]) hx hb hL hown (by decide +kernel) (by decide +kernel) (hts _ (List.mem_cons_of_mem _ wl_X0_27)) (hts _ (List.mem_cons_of_mem _ wi_IllegalArgument)) (hG.2.2.1 (84, "a share is 0 to 1,000,000") (by decide +kernel)) (vx_hat (L := vx_atS RX0 31 "java/lang/IllegalArgumentException" ["java/lang/RuntimeException", "java/lang/Exception"]) (B := [.castable "java/lang/IllegalArgumentException" "java/lang/IllegalArgumentException", .declares ⟨"java/lang/RuntimeException", "<init>", "(Ljava/lang/String;)V"⟩, .declares ⟨"java/lang/Exception", "<init>", "(Ljava/lang/String;)V"⟩, .declares ⟨"java/lang/Throwable", "<init>", "(Ljava/lang/String;)V"⟩]) (fun w hw => hts w (List.mem_cons_of_mem _ (xa_IllegalArgument w hw))) (by decide +kernel) (vx_c (va_Nw.use rfl (hG.2.2.2.1 ("java/lang/IllegalArgumentException", "java/lang/IllegalArgumentException") (by decide +kernel))) (vx_c (va_Nw.use rfl (hG.2.2.2.2.2 ⟨"java/lang/RuntimeException", "<init>", "(Ljava/lang/String;)V"⟩ (by decide +kernel))) (vx_c (va_Nw.use rfl (hG.2.2.2.2.2 ⟨"java/lang/Exception", "<init>", "(Ljava/lang/String;)V"⟩ (by decide +kernel))) (vx_c (va_Nw.use rfl (hG.2.2.2.2.2 ⟨"java/lang/Throwable", "<init>", "(Ljava/lang/String;)V"⟩ (by decide +kernel))) (vx_n)))))) (by decide +kernel) hZU hZN hS (hl.1.trans hml.symm) dX0_offset_33 dX0_offset_36 dX0_offset_37 dX0_offset_39 dX0_offset_42 (fun x hx => (htab x hx).elim) (Nat.le_of_ble_eq_true rfl) (Nat.le_of_ble_eq_true rfl) (Nat.le_of_ble_eq_true rfl) (Nat.le_of_ble_eq_true rfl) hlocks (fun t ha hsz hk => ⟨(), trivial, ⟨Or.inr (Or.inr (⟨rfl, kd_3 h1 c10 c30⟩)), hP.kept (fun k q hq => hk q.1 (hP k q hq).lt), va_K.moved ha hK, hD⟩, Nat.le_trans hS.1 hsz, fun q h1 h2 => (hk q (Nat.lt_of_lt_of_le h1 hS.1)).trans (hS.2.1 q h1 h2)⟩) hS.2.2 (Nat.le_of_ble_eq_true rfl) (Nat.le_of_ble_eq_true rfl)
  · -- not taken at 10
    have c10 := (lg_cmp_eq _ _).mp c10
    have c10 : mu.toInt = 0 := (Int64.toInt_inj.symm).mp c10
    exact vx_throwS (own := RX0) (cls := "java/lang/IllegalStateException") (names := ["java/lang/RuntimeException", "java/lang/Exception"]) hx hb hL hown (by decide +kernel) (by decide +kernel) (hts _ (List.mem_cons_of_mem _ wl_X0_79)) (hts _ (List.mem_cons_of_mem _ wi_IllegalState)) (hG.2.2.1 (81, "there is no modulus") (by decide +kernel)) (vx_hat (L := vx_atS RX0 83 "java/lang/IllegalStateException" ["java/lang/RuntimeException", "java/lang/Exception"]) (B := [.castable "java/lang/IllegalStateException" "java/lang/IllegalStateException", .declares ⟨"java/lang/RuntimeException", "<init>", "(Ljava/lang/String;)V"⟩, .declares ⟨"java/lang/Exception", "<init>", "(Ljava/lang/String;)V"⟩, .declares ⟨"java/lang/Throwable", "<init>", "(Ljava/lang/String;)V"⟩]) (fun w hw => hts w (List.mem_cons_of_mem _ (xa_IllegalState w hw))) (by decide +kernel) (vx_c (va_Nw.use rfl (hG.2.2.2.1 ("java/lang/IllegalStateException", "java/lang/IllegalStateException") (by decide +kernel))) (vx_c (va_Nw.use rfl (hG.2.2.2.2.2 ⟨"java/lang/RuntimeException", "<init>", "(Ljava/lang/String;)V"⟩ (by decide +kernel))) (vx_c (va_Nw.use rfl (hG.2.2.2.2.2 ⟨"java/lang/Exception", "<init>", "(Ljava/lang/String;)V"⟩ (by decide +kernel))) (vx_c (va_Nw.use rfl (hG.2.2.2.2.2 ⟨"java/lang/Throwable", "<init>", "(Ljava/lang/String;)V"⟩ (by decide +kernel))) (vx_n)))))) (by decide +kernel) hZU hZN hS (hl.1.trans hml.symm) dX0_offset_13 dX0_offset_16 dX0_offset_17 dX0_offset_19 dX0_offset_22 (fun x hx => (htab x hx).elim) (Nat.le_of_ble_eq_true rfl) (Nat.le_of_ble_eq_true rfl) (Nat.le_of_ble_eq_true rfl) (Nat.le_of_ble_eq_true rfl) hlocks (fun t ha hsz hk => ⟨(), trivial, ⟨Or.inr (Or.inl ⟨rfl, kd_2 h1 (fun q => q c10)⟩), hP.kept (fun k q hq => hk q.1 (hP k q hq).lt), va_K.moved ha hK, hD⟩, Nat.le_trans hS.1 hsz, fun q h1 h2 => (hk q (Nat.lt_of_lt_of_le h1 hS.1)).trans (hS.2.1 q h1 h2)⟩) hS.2.2 (Nat.le_of_ble_eq_true rfl) (Nat.le_of_ble_eq_true rfl)
set_option maxHeartbeats 4000000 in
set_option maxRecDepth 100000 in
theorem c_X0_peak (l : Launch) (hL : l.stackTraces = false) (dC : Nat → ClassId) (dI : Nat → Nat → Nat) (z0 : Nat) (sa : Nat → Nat) (sz : Nat) (hz : z0 ≤ sz) (x a1 a2 a3 a4 : Nat) (cI : ClassId) (S F X Y : Nat → Int32) (n : Nat) (ar sl : Int32) (mu ml : Int64) (ck : Int32) (ic : Nat) (ds js ps ss : Int64) (tc : Nat) (p1 : Int32) (hn : n ≤ 40) (har : 0 ≤ ar.toInt) : vx_Met l yX0_peak wsX0_peak ({ frames := 6, cells := 1, slots := 6, locals := 91 }) (va_Pc [.ref x, .int p1] (fun U => U.heap.size = sz ∧ va_P (dC, dI) vwCl (wX x a1 a2 a3 a4 cI S F X Y n ar sl mu ml ck ic ds js ps ss tc) U.heap ∧ va_K (dC, dI) vwCl [(cI, .int)] U ∧ va_D (fun q => z0 ≤ q) (wX x a1 a2 a3 a4 cI S F X Y n ar sl mu ml ck ic ds js ps ss tc) ∧ gl_ok z0 sa U)) (va_Qi (fun r (_ : Unit) => kd4 (0 ≤ p1.toInt ∧ p1.toInt ≤ 2) (ok_pk n ar p1) True True = 0 ∧ r = pka S F n sl ar p1) (fun (_ : Unit) t => at_w dC dI cI (va_A (wX x a1 a2 a3 a4 cI S F X Y n ar sl mu ml ck ic ds js ps ss tc) sz) (wX x a1 a2 a3 a4 cI S F X Y n ar sl mu ml ck ic ds js ps ss tc) t) (va_A (wX x a1 a2 a3 a4 cI S F X Y n ar sl mu ml ck ic ds js ps ss tc) sz)) (vx_X (fun _ : Unit => True) (fun E _ t => ((E = "java/lang/IndexOutOfBoundsException" ∧ kd4 (0 ≤ p1.toInt ∧ p1.toInt ≤ 2) (ok_pk n ar p1) True True = 1) ∨ (E = "java/lang/IllegalStateException" ∧ kd4 (0 ≤ p1.toInt ∧ p1.toInt ≤ 2) (ok_pk n ar p1) True True = 2)) ∧ at_w dC dI cI (va_A (wX x a1 a2 a3 a4 cI S F X Y n ar sl mu ml ck ic ds js ps ss tc) sz) (wX x a1 a2 a3 a4 cI S F X Y n ar sl mu ml ck ic ds js ps ss tc) t) (va_A (wX x a1 a2 a3 a4 cI S F X Y n ar sl mu ml ck ic ds js ps ss tc) sz)) 1 6 (va_A (wX x a1 a2 a3 a4 cI S F X Y n ar sl mu ml ck ic ds js ps ss tc) sz) := by
  refine vx_ofW (cc := cX0_peak) (maxL := 3) (ret := (some .int)) (by decide) rfl ?_
  intro p e s m args below meth c s₁ B hml htab hv
  obtain ⟨rfl, hsz, hP, hK, hD0, hG⟩ := hv
  have hx := B.exec
  have hb := B.bytes
  have hr := B.returns
  have hts := atoms_spec (ws := wsX0_peak) B.pre
  have hown : s.vm.findClass RX0 = some m.cls := findClass_of_methodNamed B.named
  have hlocks := B.notSynchronized
  have hinX0 : ∀ w ∈ wsX00, w ∈ wsX0_peak := fun w h => List.mem_cons_of_mem _ (inX0 w h)
  have f34 := hts _ (List.mem_cons_of_mem _ wl_X0_34)
  have f13 := hts _ (List.mem_cons_of_mem _ wl_X0_13)
  have f9 := hts _ (List.mem_cons_of_mem _ wl_X0_9)
  have f50 := hts _ (List.mem_cons_of_mem _ wl_X0_50)
  have f47 := hts _ (List.mem_cons_of_mem _ wl_X0_47)
  subst hsz
  have hD := hD0.self (sz := s.heap.size)
  have hAz := az_of hD0 hz
  generalize hAe : va_A (wX x a1 a2 a3 a4 cI S F X Y n ar sl mu ml ck ic ds js ps ss tc) s.heap.size = A at hD hAz ⊢
  have hA : ∀ q : Nat, s.heap.size ≤ q → A q := fun q h => by rw [← hAe]; exact Or.inr h
  have hS : va_S A s.heap s.heap [] := va_S.rf
  have hZU := hG.1.narrow hAz
  have hZN := hG.2.1.narrow hAz
  have hl := lv_entry ([.ref x, .int p1]) (n := 3) (Nat.le_of_ble_eq_true rfl)
  rw [lg_entry_eq]
  generalize (lg_sl ([.ref x, .int p1]) ++ List.replicate (3 - (lg_sl ([.ref x, .int p1])).length) Slot.unset).toArray = ls at hl ⊢
  have hl : lv_has ls 3 [(0, .ref x), (1, .int p1)] := hl
  refine lv_iload_n hx hb dX0_peak_0 rfl (lv_at hl 1 rfl) ?_
  refine lv_iconst (v := 0) hx hb dX0_peak_1 (by decide) ?_
  refine lv_iconst (v := 2) hx hb dX0_peak_2 (by decide) ?_
  refine vp_callSi (W.runS (As := [.int p1, .int 0, .int 2]) (rest := []) ⟨hx, hb, hml, hown, hts⟩ (c_X0_isWithin l p1 0 2 0 2 (by decide) (by decide)) (va_cwS 3 hts (gS wl_X0_23 ws_X0_isWithin wi_X0 wc_X0_isWithin) rfl rfl rfl (by decide +kernel) ⟨Nat.le_of_ble_eq_true rfl, Nat.le_of_ble_eq_true rfl⟩) ⟨fun _ _ _ _ q => q, fun U hU hW => ⟨rfl, trivial⟩⟩ rfl rfl hl.1 rfl (lv_room (Nat.le_of_ble_eq_true rfl)) dX0_peak_3 ⟨Nat.le_of_ble_eq_true rfl, Nat.le_of_ble_eq_true rfl⟩) (fun r3 h3 => ?_)
  subst h3
  refine lv_if_ne (tgt := 19) hx hb dX0_peak_6 (by decide) (fun c6 => ?_) (fun c6 => ?_)
  · -- taken at 6
    have c6 := bI_ne0.mp c6
    refine lv_aload_n hx hb dX0_peak_19 rfl (lv_at hl 0 rfl) ?_
    refine va_get (D := (dC, dI)) (ci := 0) (v := .int (nI n)) (C := RX0) (T := TX0) (N := 16) hx hb hts hinX0 hown hK hP 0 rfl rfl 2 (by decide) f34 (fun _ h9 => h9) rfl dX0_peak_20 ?_
    refine lv_if_ne (tgt := 36) hx hb dX0_peak_23 (by decide) (fun c23 => ?_) (fun c23 => ?_)
    · -- taken at 23
      have c23 : ¬ n = 0 := fun q9 => c23 ((nI_eq (a := n) (b := 0) (by omega) (by omega)).mpr q9)
      have hpk := pkf_lt F (k := n) (by omega)
      refine lv_aload_n hx hb dX0_peak_36 rfl (lv_at hl 0 rfl) ?_
      refine vp_callSi (W.runV (As := []) (rest := []) ⟨hx, hb, hml, hown, hts⟩ (c_X0_firstRowOfGreatestForce l dC dI x a1 a2 a3 a4 cI S F X Y n ar sl mu ml ck ic ds js ps ss tc hn (by omega)) (cwV 0 hts (gV wl_X0_102 wi_X0_firstRowOfGreatestForce wv_X0_firstRowOfGreatestForce wi_X0 wc_X0_firstRowOfGreatestForce) rfl rfl rfl (by decide +kernel) ⟨Nat.le_of_ble_eq_true rfl, Nat.le_of_ble_eq_true rfl⟩) ⟨fun a U g mk q => ⟨q.1, q.2.1, va_K.moved (u := U) (U := U.calling g mk a) (Vm.Alike.refl U.vm) q.2.2⟩, va_recv hK hP (ci := 0) (q0 := 0) rfl rfl, fun U hU hW => ⟨rfl, by rw [hU]; exact hP, va_K.moved hW.alike hK⟩⟩ rfl rfl hl.1 rfl (lv_room (Nat.le_of_ble_eq_true rfl)) dX0_peak_37 ⟨Nat.le_of_ble_eq_true rfl, Nat.le_of_ble_eq_true rfl⟩) (fun r37 h37 => ?_)
      subst h37
      refine lv_istore_n (lv' := [(2, .int (nI (pk F n))), (0, .ref x), (1, .int p1)]) hx hb dX0_peak_40 rfl hl (by decide) rfl (fun ls hl => ?_)
      refine lv_iload_n hx hb dX0_peak_41 rfl (lv_at hl 2 rfl) ?_
      refine lv_if_ne (tgt := 52) hx hb dX0_peak_42 (by decide) (fun c42 => ?_) (fun c42 => ?_)
      · -- taken at 42
        have c42 : ¬ p1.toInt = 0 := fun q9 => c42 ((Int32.toInt_inj.symm).mpr q9)
        refine lv_iload_n hx hb dX0_peak_52 rfl (lv_at hl 2 rfl) ?_
        refine lv_iconst (v := 1) hx hb dX0_peak_53 (by decide) ?_
        refine lv_icmp_ne (tgt := 69) hx hb dX0_peak_54 (by decide) (fun c54 => ?_) (fun c54 => ?_)
        · -- taken at 54
          have c54 : ¬ p1.toInt = 1 := fun q9 => c54 ((Int32.toInt_inj.symm).mpr q9)
          refine lv_aload_n hx hb dX0_peak_69 rfl (lv_at hl 1 rfl) ?_
          refine va_get (D := (dC, dI)) (ci := 0) (v := .int ar) (C := RX0) (T := TX0) (N := 16) hx hb hts hinX0 hown hK hP 0 rfl rfl 3 (by decide) f47 (fun _ h9 => h9) rfl dX0_peak_70 ?_
          refine lv_if_ne (tgt := 86) hx hb dX0_peak_73 (by decide) (fun c73 => ?_) (fun c73 => ?_)
          · -- taken at 73
            have c73 : ¬ ar.toInt = 0 := fun q9 => c73 ((Int32.toInt_inj.symm).mpr q9)
            refine lv_aload_n hx hb dX0_peak_86 rfl (lv_at hl 1 rfl) ?_
            refine va_get (D := (dC, dI)) (ci := 0) (v := .ref a2) (C := RX0) (T := TX0) (N := 16) hx hb hts hinX0 hown hK hP 0 rfl rfl 1 (by decide) f13 (fun _ h9 => h9) rfl dX0_peak_87 ?_
            refine lv_iload_n hx hb dX0_peak_90 rfl (lv_at hl 0 rfl) ?_
            refine va_iald (D := (dC, dI)) hx hb hK hP 2 0 rfl rfl (vp_in_nI (show pk F n < 40 by omega) (by decide)) dX0_peak_91 ?_
            refine W.eq (congrArg (fun z => F0 m 92 ls (.int z :: [])) (congrArg F (nI_clamp (show pk F n < 2 ^ 31 by omega)))) ?_
            refine lv_sipush (v := 1000) hx hb dX0_peak_92 (by decide) ?_
            refine lv_imul hx hb dX0_peak_95 ?_
            refine lv_aload_n hx hb dX0_peak_96 rfl (lv_at hl 1 rfl) ?_
            refine va_get (D := (dC, dI)) (ci := 0) (v := .int ar) (C := RX0) (T := TX0) (N := 16) hx hb hts hinX0 hown hK hP 0 rfl rfl 3 (by decide) f47 (fun _ h9 => h9) rfl dX0_peak_97 ?_
            refine lv_idiv hx hb dX0_peak_100 (fun q => c73 (by rw [q]; rfl)) ?_
            refine vx_ret ?_
            refine W.widen (k := 1) (n := 6) (Nat.le_of_ble_eq_true rfl) (Nat.le_of_ble_eq_true rfl) ?_
            exact W.iret (v := ((F (pk F n)) * 1000) / ar) hx hb hr (fun t ht hW => ⟨⟨((F (pk F n)) * 1000) / ar, (), rfl, ⟨kd_0 c6 (by unfold ok_pk; omega) trivial trivial, (pka_2 c42 c54).symm⟩, ⟨by rw [ht]; exact hP, va_K.moved hW.alike hK, hD⟩⟩, hS.F ht⟩) hS.2.2 dX0_peak_101
          · -- not taken at 73
            have c73 : ar.toInt = 0 := (Int32.toInt_inj.symm).mp c73
            exact vx_throwS (own := RX0) (cls := "java/lang/IllegalStateException") (names := ["java/lang/RuntimeException", "java/lang/Exception"]) hx hb hL hown (by decide +kernel) (by decide +kernel) (hts _ (List.mem_cons_of_mem _ wl_X0_79)) (hts _ (List.mem_cons_of_mem _ wi_IllegalState)) (hG.2.2.1 (106, "no area is told") (by decide +kernel)) (vx_hat (L := vx_atS RX0 83 "java/lang/IllegalStateException" ["java/lang/RuntimeException", "java/lang/Exception"]) (B := [.castable "java/lang/IllegalStateException" "java/lang/IllegalStateException", .declares ⟨"java/lang/RuntimeException", "<init>", "(Ljava/lang/String;)V"⟩, .declares ⟨"java/lang/Exception", "<init>", "(Ljava/lang/String;)V"⟩, .declares ⟨"java/lang/Throwable", "<init>", "(Ljava/lang/String;)V"⟩]) (fun w hw => hts w (List.mem_cons_of_mem _ (xa_IllegalState w hw))) (by decide +kernel) (vx_c (va_Nw.use rfl (hG.2.2.2.1 ("java/lang/IllegalStateException", "java/lang/IllegalStateException") (by decide +kernel))) (vx_c (va_Nw.use rfl (hG.2.2.2.2.2 ⟨"java/lang/RuntimeException", "<init>", "(Ljava/lang/String;)V"⟩ (by decide +kernel))) (vx_c (va_Nw.use rfl (hG.2.2.2.2.2 ⟨"java/lang/Exception", "<init>", "(Ljava/lang/String;)V"⟩ (by decide +kernel))) (vx_c (va_Nw.use rfl (hG.2.2.2.2.2 ⟨"java/lang/Throwable", "<init>", "(Ljava/lang/String;)V"⟩ (by decide +kernel))) (vx_n)))))) (by decide +kernel) hZU hZN hS (hl.1.trans hml.symm) dX0_peak_76 dX0_peak_79 dX0_peak_80 dX0_peak_82 dX0_peak_85 (fun x hx => (htab x hx).elim) (Nat.le_of_ble_eq_true rfl) (Nat.le_of_ble_eq_true rfl) (Nat.le_of_ble_eq_true rfl) (Nat.le_of_ble_eq_true rfl) hlocks (fun t ha hsz hk => ⟨(), trivial, ⟨Or.inr (⟨rfl, kd_2 c6 (by unfold ok_pk; omega)⟩), hP.kept (fun k q hq => hk q.1 (hP k q hq).lt), va_K.moved ha hK, hD⟩, Nat.le_trans hS.1 hsz, fun q h1 h2 => (hk q (Nat.lt_of_lt_of_le h1 hS.1)).trans (hS.2.1 q h1 h2)⟩) hS.2.2 (Nat.le_of_ble_eq_true rfl) (Nat.le_of_ble_eq_true rfl)
        · -- not taken at 54
          have c54 : p1.toInt = 1 := (Int32.toInt_inj.symm).mp c54
          refine lv_aload_n hx hb dX0_peak_57 rfl (lv_at hl 1 rfl) ?_
          refine va_get (D := (dC, dI)) (ci := 0) (v := .ref a1) (C := RX0) (T := TX0) (N := 16) hx hb hts hinX0 hown hK hP 0 rfl rfl 0 (by decide) f9 (fun _ h9 => h9) rfl dX0_peak_58 ?_
          refine lv_iload_n hx hb dX0_peak_61 rfl (lv_at hl 0 rfl) ?_
          refine va_iald (D := (dC, dI)) hx hb hK hP 1 0 rfl rfl (vp_in_nI (show pk F n < 40 by omega) (by decide)) dX0_peak_62 ?_
          refine W.eq (congrArg (fun z => F0 m 63 ls (.int z :: [])) (congrArg S (nI_clamp (show pk F n < 2 ^ 31 by omega)))) ?_
          refine lv_aload_n hx hb dX0_peak_63 rfl (lv_at hl 1 rfl) ?_
          refine va_get (D := (dC, dI)) (ci := 0) (v := .int sl) (C := RX0) (T := TX0) (N := 16) hx hb hts hinX0 hown hK hP 0 rfl rfl 4 (by decide) f50 (fun _ h9 => h9) rfl dX0_peak_64 ?_
          refine lv_isub hx hb dX0_peak_67 ?_
          refine vx_ret ?_
          refine W.widen (k := 1) (n := 6) (Nat.le_of_ble_eq_true rfl) (Nat.le_of_ble_eq_true rfl) ?_
          exact W.iret (v := (S (pk F n)) - sl) hx hb hr (fun t ht hW => ⟨⟨(S (pk F n)) - sl, (), rfl, ⟨kd_0 c6 (by unfold ok_pk; omega) trivial trivial, (pka_1 c54).symm⟩, ⟨by rw [ht]; exact hP, va_K.moved hW.alike hK, hD⟩⟩, hS.F ht⟩) hS.2.2 dX0_peak_68
      · -- not taken at 42
        have c42 : p1.toInt = 0 := (Int32.toInt_inj.symm).mp c42
        refine lv_aload_n hx hb dX0_peak_45 rfl (lv_at hl 1 rfl) ?_
        refine va_get (D := (dC, dI)) (ci := 0) (v := .ref a2) (C := RX0) (T := TX0) (N := 16) hx hb hts hinX0 hown hK hP 0 rfl rfl 1 (by decide) f13 (fun _ h9 => h9) rfl dX0_peak_46 ?_
        refine lv_iload_n hx hb dX0_peak_49 rfl (lv_at hl 0 rfl) ?_
        refine va_iald (D := (dC, dI)) hx hb hK hP 2 0 rfl rfl (vp_in_nI (show pk F n < 40 by omega) (by decide)) dX0_peak_50 ?_
        refine W.eq (congrArg (fun z => F0 m 51 ls (.int z :: [])) (congrArg F (nI_clamp (show pk F n < 2 ^ 31 by omega)))) ?_
        refine vx_ret ?_
        refine W.widen (k := 1) (n := 6) (Nat.le_of_ble_eq_true rfl) (Nat.le_of_ble_eq_true rfl) ?_
        exact W.iret (v := F (pk F n)) hx hb hr (fun t ht hW => ⟨⟨F (pk F n), (), rfl, ⟨kd_0 c6 (by unfold ok_pk; omega) trivial trivial, (pka_0 c42).symm⟩, ⟨by rw [ht]; exact hP, va_K.moved hW.alike hK, hD⟩⟩, hS.F ht⟩) hS.2.2 dX0_peak_51
    · -- not taken at 23
      have c23 : n = 0 := (nI_eq (a := n) (b := 0) (by omega) (by omega)).mp c23
      exact vx_throwS (own := RX0) (cls := "java/lang/IllegalStateException") (names := ["java/lang/RuntimeException", "java/lang/Exception"]) hx hb hL hown (by decide +kernel) (by decide +kernel) (hts _ (List.mem_cons_of_mem _ wl_X0_79)) (hts _ (List.mem_cons_of_mem _ wi_IllegalState)) (hG.2.2.1 (100, "there are no rows") (by decide +kernel)) (vx_hat (L := vx_atS RX0 83 "java/lang/IllegalStateException" ["java/lang/RuntimeException", "java/lang/Exception"]) (B := [.castable "java/lang/IllegalStateException" "java/lang/IllegalStateException", .declares ⟨"java/lang/RuntimeException", "<init>", "(Ljava/lang/String;)V"⟩, .declares ⟨"java/lang/Exception", "<init>", "(Ljava/lang/String;)V"⟩, .declares ⟨"java/lang/Throwable", "<init>", "(Ljava/lang/String;)V"⟩]) (fun w hw => hts w (List.mem_cons_of_mem _ (xa_IllegalState w hw))) (by decide +kernel) (vx_c (va_Nw.use rfl (hG.2.2.2.1 ("java/lang/IllegalStateException", "java/lang/IllegalStateException") (by decide +kernel))) (vx_c (va_Nw.use rfl (hG.2.2.2.2.2 ⟨"java/lang/RuntimeException", "<init>", "(Ljava/lang/String;)V"⟩ (by decide +kernel))) (vx_c (va_Nw.use rfl (hG.2.2.2.2.2 ⟨"java/lang/Exception", "<init>", "(Ljava/lang/String;)V"⟩ (by decide +kernel))) (vx_c (va_Nw.use rfl (hG.2.2.2.2.2 ⟨"java/lang/Throwable", "<init>", "(Ljava/lang/String;)V"⟩ (by decide +kernel))) (vx_n)))))) (by decide +kernel) hZU hZN hS (hl.1.trans hml.symm) dX0_peak_26 dX0_peak_29 dX0_peak_30 dX0_peak_32 dX0_peak_35 (fun x hx => (htab x hx).elim) (Nat.le_of_ble_eq_true rfl) (Nat.le_of_ble_eq_true rfl) (Nat.le_of_ble_eq_true rfl) (Nat.le_of_ble_eq_true rfl) hlocks (fun t ha hsz hk => ⟨(), trivial, ⟨Or.inr (⟨rfl, kd_2 c6 (by unfold ok_pk; omega)⟩), hP.kept (fun k q hq => hk q.1 (hP k q hq).lt), va_K.moved ha hK, hD⟩, Nat.le_trans hS.1 hsz, fun q h1 h2 => (hk q (Nat.lt_of_lt_of_le h1 hS.1)).trans (hS.2.1 q h1 h2)⟩) hS.2.2 (Nat.le_of_ble_eq_true rfl) (Nat.le_of_ble_eq_true rfl)
  · -- not taken at 6
    have c6 := bI_eq0.mp c6
    exact vx_throwS (own := RX0) (cls := "java/lang/IndexOutOfBoundsException") (names := ["java/lang/RuntimeException", "java/lang/Exception"]) hx hb hL hown (by decide +kernel) (by decide +kernel) (hts _ (List.mem_cons_of_mem _ wl_X0_95)) (hts _ (List.mem_cons_of_mem _ wi_IndexOutOfBounds)) (hG.2.2.1 (97, "of a peak there are 0, 1 and 2") (by decide +kernel)) (vx_hat (L := vx_atS RX0 99 "java/lang/IndexOutOfBoundsException" ["java/lang/RuntimeException", "java/lang/Exception"]) (B := [.castable "java/lang/IndexOutOfBoundsException" "java/lang/IndexOutOfBoundsException", .declares ⟨"java/lang/RuntimeException", "<init>", "(Ljava/lang/String;)V"⟩, .declares ⟨"java/lang/Exception", "<init>", "(Ljava/lang/String;)V"⟩, .declares ⟨"java/lang/Throwable", "<init>", "(Ljava/lang/String;)V"⟩]) (fun w hw => hts w (List.mem_cons_of_mem _ (xa_IndexOutOfBounds w hw))) (by decide +kernel) (vx_c (va_Nw.use rfl (hG.2.2.2.1 ("java/lang/IndexOutOfBoundsException", "java/lang/IndexOutOfBoundsException") (by decide +kernel))) (vx_c (va_Nw.use rfl (hG.2.2.2.2.2 ⟨"java/lang/RuntimeException", "<init>", "(Ljava/lang/String;)V"⟩ (by decide +kernel))) (vx_c (va_Nw.use rfl (hG.2.2.2.2.2 ⟨"java/lang/Exception", "<init>", "(Ljava/lang/String;)V"⟩ (by decide +kernel))) (vx_c (va_Nw.use rfl (hG.2.2.2.2.2 ⟨"java/lang/Throwable", "<init>", "(Ljava/lang/String;)V"⟩ (by decide +kernel))) (vx_n)))))) (by decide +kernel) hZU hZN hS (hl.1.trans hml.symm) dX0_peak_9 dX0_peak_12 dX0_peak_13 dX0_peak_15 dX0_peak_18 (fun x hx => (htab x hx).elim) (Nat.le_of_ble_eq_true rfl) (Nat.le_of_ble_eq_true rfl) (Nat.le_of_ble_eq_true rfl) (Nat.le_of_ble_eq_true rfl) hlocks (fun t ha hsz hk => ⟨(), trivial, ⟨Or.inl ⟨rfl, kd_1 c6⟩, hP.kept (fun k q hq => hk q.1 (hP k q hq).lt), va_K.moved ha hK, hD⟩, Nat.le_trans hS.1 hsz, fun q h1 h2 => (hk q (Nat.lt_of_lt_of_le h1 hS.1)).trans (hS.2.1 q h1 h2)⟩) hS.2.2 (Nat.le_of_ble_eq_true rfl) (Nat.le_of_ble_eq_true rfl)
