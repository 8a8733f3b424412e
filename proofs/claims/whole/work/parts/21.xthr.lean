set_option maxHeartbeats 4000000 in
set_option maxRecDepth 100000 in
theorem c_X0_impact (l : Launch) (hL : l.stackTraces = false) (dC : Nat → ClassId) (dI : Nat → Nat → Nat) (z0 : Nat) (sa : Nat → Nat) (sz : Nat) (hz : z0 ≤ sz) (x a1 a2 a3 a4 : Nat) (cI : ClassId) (S F X Y : Nat → Int32) (n : Nat) (ar sl : Int32) (mu ml : Int64) (ck : Int32) (ic : Nat) (ds js ps ss : Int64) (tc : Nat) (p1 p2 : Int32) (hi8 : ic ≤ 8) : vx_Met l yX0_impact wsX0_impact ({ frames := 6, cells := 1, slots := 6, locals := 91 }) (va_Pc [.ref x, .int p1, .int p2] (fun U => U.heap.size = sz ∧ va_P (dC, dI) vwCl (wX x a1 a2 a3 a4 cI S F X Y n ar sl mu ml ck ic ds js ps ss tc) U.heap ∧ va_K (dC, dI) vwCl [(cI, .int)] U ∧ va_D (fun q => z0 ≤ q) (wX x a1 a2 a3 a4 cI S F X Y n ar sl mu ml ck ic ds js ps ss tc) ∧ gl_ok z0 sa U)) (va_Qi (fun r (_ : Unit) => kd4 (ok_imp p1 p2) (ic < 8) True True = 0 ∧ r = nI (ic + 1)) (fun (_ : Unit) t => at_w dC dI cI (va_A (wX x a1 a2 a3 a4 cI S F X Y n ar sl mu ml ck ic ds js ps ss tc) sz) (wX x a1 a2 a3 a4 cI S F X Y n ar sl mu ml ck (ic + 1) (ds + p1.toInt64) (js + p2.toInt64) (ps + (p1 * p2).toInt64) (ss + (p1 * p1).toInt64) tc) t) (va_A (wX x a1 a2 a3 a4 cI S F X Y n ar sl mu ml ck ic ds js ps ss tc) sz)) (vx_X (fun _ : Unit => True) (fun E _ t => ((E = "java/lang/IllegalArgumentException" ∧ kd4 (ok_imp p1 p2) (ic < 8) True True = 1) ∨ (E = "java/lang/UnsupportedOperationException" ∧ kd4 (ok_imp p1 p2) (ic < 8) True True = 2)) ∧ at_w dC dI cI (va_A (wX x a1 a2 a3 a4 cI S F X Y n ar sl mu ml ck ic ds js ps ss tc) sz) (wX x a1 a2 a3 a4 cI S F X Y n ar sl mu ml ck ic ds js ps ss tc) t) (va_A (wX x a1 a2 a3 a4 cI S F X Y n ar sl mu ml ck ic ds js ps ss tc) sz)) 1 6 (va_A (wX x a1 a2 a3 a4 cI S F X Y n ar sl mu ml ck ic ds js ps ss tc) sz) := by
  refine vx_ofW (cc := cX0_impact) (maxL := 3) (ret := (some .int)) (by decide) rfl ?_
  intro p e s m args below meth c s₁ B hml htab hv
  obtain ⟨rfl, hsz, hP, hK, hD0, hG⟩ := hv
  have hx := B.exec
  have hb := B.bytes
  have hr := B.returns
  have hts := atoms_spec (ws := wsX0_impact) B.pre
  have hown : s.vm.findClass RX0 = some m.cls := findClass_of_methodNamed B.named
  have hlocks := B.notSynchronized
  have hinX0 : ∀ w ∈ wsX00, w ∈ wsX0_impact := fun w h => List.mem_cons_of_mem _ (inX0 w h)
  have f112 := hts _ (List.mem_cons_of_mem _ wl_X0_112)
  have f117 := hts _ (List.mem_cons_of_mem _ wl_X0_117)
  have f120 := hts _ (List.mem_cons_of_mem _ wl_X0_120)
  have f123 := hts _ (List.mem_cons_of_mem _ wl_X0_123)
  have f126 := hts _ (List.mem_cons_of_mem _ wl_X0_126)
  subst hsz
  have hD := hD0.self (sz := s.heap.size)
  have hAz := az_of hD0 hz
  generalize hAe : va_A (wX x a1 a2 a3 a4 cI S F X Y n ar sl mu ml ck ic ds js ps ss tc) s.heap.size = A at hD hAz ⊢
  have hA : ∀ q : Nat, s.heap.size ≤ q → A q := fun q h => by rw [← hAe]; exact Or.inr h
  have hS : va_S A s.heap s.heap [] := va_S.rf
  have hZU := hG.1.narrow hAz
  have hZN := hG.2.1.narrow hAz
  have hl := lv_entry ([.ref x, .int p1, .int p2]) (n := 3) (Nat.le_of_ble_eq_true rfl)
  rw [lg_entry_eq]
  generalize (lg_sl ([.ref x, .int p1, .int p2]) ++ List.replicate (3 - (lg_sl ([.ref x, .int p1, .int p2])).length) Slot.unset).toArray = ls at hl ⊢
  have hl : lv_has ls 3 [(0, .ref x), (1, .int p1), (2, .int p2)] := hl
  refine lv_iload_n hx hb dX0_impact_0 rfl (lv_at hl 1 rfl) ?_
  refine lv_sipush (v := (-200)) hx hb dX0_impact_1 (by decide) ?_
  refine lv_sipush (v := 200) hx hb dX0_impact_4 (by decide) ?_
  refine vp_callSi (W.runS (As := [.int p1, .int (-200), .int 200]) (rest := []) ⟨hx, hb, hml, hown, hts⟩ (c_X0_isWithin l p1 (-200) 200 (-200) 200 (by decide) (by decide)) (va_cwS 3 hts (gS wl_X0_23 ws_X0_isWithin wi_X0 wc_X0_isWithin) rfl rfl rfl (by decide +kernel) ⟨Nat.le_of_ble_eq_true rfl, Nat.le_of_ble_eq_true rfl⟩) ⟨fun _ _ _ _ q => q, fun U hU hW => ⟨rfl, trivial⟩⟩ rfl rfl hl.1 rfl (lv_room (Nat.le_of_ble_eq_true rfl)) dX0_impact_7 ⟨Nat.le_of_ble_eq_true rfl, Nat.le_of_ble_eq_true rfl⟩) (fun r7 h7 => ?_)
  subst h7
  refine lv_if_eq (tgt := 24) hx hb dX0_impact_10 (by decide) (fun c10 => ?_) (fun c10 => ?_)
  · -- taken at 10
    have c10 := bI_eq0.mp c10
    exact vx_throwS (own := RX0) (cls := "java/lang/IllegalArgumentException") (names := ["java/lang/RuntimeException", "java/lang/Exception"]) hx hb hL hown (by decide +kernel) (by decide +kernel) (hts _ (List.mem_cons_of_mem _ wl_X0_27)) (hts _ (List.mem_cons_of_mem _ wi_IllegalArgument)) (hG.2.2.1 (110, "degrees are -200 to 200, joules 0 to 400") (by decide +kernel)) (vx_hat (L := vx_atS RX0 31 "java/lang/IllegalArgumentException" ["java/lang/RuntimeException", "java/lang/Exception"]) (B := [.castable "java/lang/IllegalArgumentException" "java/lang/IllegalArgumentException", .declares ⟨"java/lang/RuntimeException", "<init>", "(Ljava/lang/String;)V"⟩, .declares ⟨"java/lang/Exception", "<init>", "(Ljava/lang/String;)V"⟩, .declares ⟨"java/lang/Throwable", "<init>", "(Ljava/lang/String;)V"⟩]) (fun w hw => hts w (List.mem_cons_of_mem _ (xa_IllegalArgument w hw))) (by decide +kernel) (vx_c (va_Nw.use rfl (hG.2.2.2.1 ("java/lang/IllegalArgumentException", "java/lang/IllegalArgumentException") (by decide +kernel))) (vx_c (va_Nw.use rfl (hG.2.2.2.2.2 ⟨"java/lang/RuntimeException", "<init>", "(Ljava/lang/String;)V"⟩ (by decide +kernel))) (vx_c (va_Nw.use rfl (hG.2.2.2.2.2 ⟨"java/lang/Exception", "<init>", "(Ljava/lang/String;)V"⟩ (by decide +kernel))) (vx_c (va_Nw.use rfl (hG.2.2.2.2.2 ⟨"java/lang/Throwable", "<init>", "(Ljava/lang/String;)V"⟩ (by decide +kernel))) (vx_n)))))) (by decide +kernel) hZU hZN hS (hl.1.trans hml.symm) dX0_impact_24 dX0_impact_27 dX0_impact_28 dX0_impact_30 dX0_impact_33 (fun x hx => (htab x hx).elim) (Nat.le_of_ble_eq_true rfl) (Nat.le_of_ble_eq_true rfl) (Nat.le_of_ble_eq_true rfl) (Nat.le_of_ble_eq_true rfl) hlocks (fun t ha hsz hk => ⟨(), trivial, ⟨Or.inl ⟨rfl, kd_1 (by unfold ok_imp; omega)⟩, hP.kept (fun k q hq => hk q.1 (hP k q hq).lt), va_K.moved ha hK, hD⟩, Nat.le_trans hS.1 hsz, fun q h1 h2 => (hk q (Nat.lt_of_lt_of_le h1 hS.1)).trans (hS.2.1 q h1 h2)⟩) hS.2.2 (Nat.le_of_ble_eq_true rfl) (Nat.le_of_ble_eq_true rfl)
  · -- not taken at 10
    have c10 := bI_ne0.mp c10
    refine lv_iload_n hx hb dX0_impact_13 rfl (lv_at hl 2 rfl) ?_
    refine lv_iconst (v := 0) hx hb dX0_impact_14 (by decide) ?_
    refine lv_sipush (v := 400) hx hb dX0_impact_15 (by decide) ?_
    refine vp_callSi (W.runS (As := [.int p2, .int 0, .int 400]) (rest := []) ⟨hx, hb, hml, hown, hts⟩ (c_X0_isWithin l p2 0 400 0 400 (by decide) (by decide)) (va_cwS 3 hts (gS wl_X0_23 ws_X0_isWithin wi_X0 wc_X0_isWithin) rfl rfl rfl (by decide +kernel) ⟨Nat.le_of_ble_eq_true rfl, Nat.le_of_ble_eq_true rfl⟩) ⟨fun _ _ _ _ q => q, fun U hU hW => ⟨rfl, trivial⟩⟩ rfl rfl hl.1 rfl (lv_room (Nat.le_of_ble_eq_true rfl)) dX0_impact_18 ⟨Nat.le_of_ble_eq_true rfl, Nat.le_of_ble_eq_true rfl⟩) (fun r18 h18 => ?_)
    subst h18
    refine lv_if_ne (tgt := 34) hx hb dX0_impact_21 (by decide) (fun c21 => ?_) (fun c21 => ?_)
    · -- taken at 21
      have c21 := bI_ne0.mp c21
      refine lv_aload_n hx hb dX0_impact_34 rfl (lv_at hl 0 rfl) ?_
      refine va_get (D := (dC, dI)) (ci := 0) (v := .int (nI ic)) (C := RX0) (T := TX0) (N := 16) hx hb hts hinX0 hown hK hP 0 rfl rfl 8 (by decide) f112 (fun _ h9 => h9) rfl dX0_impact_35 ?_
      refine lv_bipush (v := 8) hx hb dX0_impact_38 (by decide) ?_
      refine lv_icmp_lt (tgt := 53) hx hb dX0_impact_40 (by decide) (fun c40 => ?_) (fun c40 => ?_)
      · -- taken at 40
        have c40 : ic < 8 := (nI_ltI (a := ic) (b := 8) (by omega) (by omega)).mp c40
        refine lv_aload_n hx hb dX0_impact_53 rfl (lv_at hl 0 rfl) ?_
        refine lv_dup hx hb dX0_impact_54 rfl ?_
        refine va_get (D := (dC, dI)) (ci := 0) (v := .int (nI ic)) (C := RX0) (T := TX0) (N := 16) hx hb hts hinX0 hown hK hP 0 rfl rfl 8 (by decide) f112 (fun _ h9 => h9) rfl dX0_impact_55 ?_
        refine lv_iconst (v := 1) hx hb dX0_impact_58 (by decide) ?_
        refine lv_iadd hx hb dX0_impact_59 ?_
        refine W.eq (congrArg (fun z => F0 m 60 ls (.int z :: [.ref x])) (nI_1 ic)) ?_
        refine va_put (D := (dC, dI)) (ci := 0) (v := .int (nI (ic + 1))) (ty := .int) (C := RX0) (T := TX0) (N := 16) hx hb hts hinX0 tyX0 tyX0_ok nmX0 hown hK hP hD hS 0 rfl rfl 8 (by decide) f112 (fun _ h9 => h9) rfl (by decide +kernel) (rfl) (rfl) (Nat.le_of_ble_eq_true rfl) dX0_impact_60 (fun H locs hP hD hS => ?_)
        have hP : va_P (dC, dI) vwCl (wX x a1 a2 a3 a4 cI S F X Y n ar sl mu ml ck (ic + 1) ds js ps ss tc) H := hP
        have hD : va_D A (wX x a1 a2 a3 a4 cI S F X Y n ar sl mu ml ck (ic + 1) ds js ps ss tc) := hD
        refine lv_aload_n hx hb dX0_impact_63 rfl (lv_at hl 0 rfl) ?_
        refine lv_dup hx hb dX0_impact_64 rfl ?_
        refine va_get (D := (dC, dI)) (ci := 0) (v := .long ds) (C := RX0) (T := TX0) (N := 16) hx hb hts hinX0 hown hK hP 0 rfl rfl 9 (by decide) f117 (fun _ h9 => h9) rfl dX0_impact_65 ?_
        refine lv_iload_n hx hb dX0_impact_68 rfl (lv_at hl 1 rfl) ?_
        refine lv_i2l hx hb dX0_impact_69 rfl ?_
        refine lv_ladd hx hb dX0_impact_70 ?_
        refine va_put (D := (dC, dI)) (ci := 0) (v := .long (ds + p1.toInt64)) (ty := .long) (C := RX0) (T := TX0) (N := 16) hx hb hts hinX0 tyX0 tyX0_ok nmX0 hown hK hP hD hS 0 rfl rfl 9 (by decide) f117 (fun _ h9 => h9) rfl (by decide +kernel) (rfl) (rfl) (Nat.le_of_ble_eq_true rfl) dX0_impact_71 (fun H locs hP hD hS => ?_)
        have hP : va_P (dC, dI) vwCl (wX x a1 a2 a3 a4 cI S F X Y n ar sl mu ml ck (ic + 1) (ds + p1.toInt64) js ps ss tc) H := hP
        have hD : va_D A (wX x a1 a2 a3 a4 cI S F X Y n ar sl mu ml ck (ic + 1) (ds + p1.toInt64) js ps ss tc) := hD
        refine lv_aload_n hx hb dX0_impact_74 rfl (lv_at hl 0 rfl) ?_
        refine lv_dup hx hb dX0_impact_75 rfl ?_
        refine va_get (D := (dC, dI)) (ci := 0) (v := .long js) (C := RX0) (T := TX0) (N := 16) hx hb hts hinX0 hown hK hP 0 rfl rfl 10 (by decide) f120 (fun _ h9 => h9) rfl dX0_impact_76 ?_
        refine lv_iload_n hx hb dX0_impact_79 rfl (lv_at hl 2 rfl) ?_
        refine lv_i2l hx hb dX0_impact_80 rfl ?_
        refine lv_ladd hx hb dX0_impact_81 ?_
        refine va_put (D := (dC, dI)) (ci := 0) (v := .long (js + p2.toInt64)) (ty := .long) (C := RX0) (T := TX0) (N := 16) hx hb hts hinX0 tyX0 tyX0_ok nmX0 hown hK hP hD hS 0 rfl rfl 10 (by decide) f120 (fun _ h9 => h9) rfl (by decide +kernel) (rfl) (rfl) (Nat.le_of_ble_eq_true rfl) dX0_impact_82 (fun H locs hP hD hS => ?_)
        have hP : va_P (dC, dI) vwCl (wX x a1 a2 a3 a4 cI S F X Y n ar sl mu ml ck (ic + 1) (ds + p1.toInt64) (js + p2.toInt64) ps ss tc) H := hP
        have hD : va_D A (wX x a1 a2 a3 a4 cI S F X Y n ar sl mu ml ck (ic + 1) (ds + p1.toInt64) (js + p2.toInt64) ps ss tc) := hD
        refine lv_aload_n hx hb dX0_impact_85 rfl (lv_at hl 0 rfl) ?_
        refine lv_dup hx hb dX0_impact_86 rfl ?_
        refine va_get (D := (dC, dI)) (ci := 0) (v := .long ps) (C := RX0) (T := TX0) (N := 16) hx hb hts hinX0 hown hK hP 0 rfl rfl 11 (by decide) f123 (fun _ h9 => h9) rfl dX0_impact_87 ?_
        refine lv_iload_n hx hb dX0_impact_90 rfl (lv_at hl 1 rfl) ?_
        refine lv_iload_n hx hb dX0_impact_91 rfl (lv_at hl 2 rfl) ?_
        refine lv_imul hx hb dX0_impact_92 ?_
        refine lv_i2l hx hb dX0_impact_93 rfl ?_
        refine lv_ladd hx hb dX0_impact_94 ?_
        refine va_put (D := (dC, dI)) (ci := 0) (v := .long (ps + ((p1 * p2).toInt64))) (ty := .long) (C := RX0) (T := TX0) (N := 16) hx hb hts hinX0 tyX0 tyX0_ok nmX0 hown hK hP hD hS 0 rfl rfl 11 (by decide) f123 (fun _ h9 => h9) rfl (by decide +kernel) (rfl) (rfl) (Nat.le_of_ble_eq_true rfl) dX0_impact_95 (fun H locs hP hD hS => ?_)
        have hP : va_P (dC, dI) vwCl (wX x a1 a2 a3 a4 cI S F X Y n ar sl mu ml ck (ic + 1) (ds + p1.toInt64) (js + p2.toInt64) (ps + ((p1 * p2).toInt64)) ss tc) H := hP
        have hD : va_D A (wX x a1 a2 a3 a4 cI S F X Y n ar sl mu ml ck (ic + 1) (ds + p1.toInt64) (js + p2.toInt64) (ps + ((p1 * p2).toInt64)) ss tc) := hD
        refine lv_aload_n hx hb dX0_impact_98 rfl (lv_at hl 0 rfl) ?_
        refine lv_dup hx hb dX0_impact_99 rfl ?_
        refine va_get (D := (dC, dI)) (ci := 0) (v := .long ss) (C := RX0) (T := TX0) (N := 16) hx hb hts hinX0 hown hK hP 0 rfl rfl 12 (by decide) f126 (fun _ h9 => h9) rfl dX0_impact_100 ?_
        refine lv_iload_n hx hb dX0_impact_103 rfl (lv_at hl 1 rfl) ?_
        refine lv_iload_n hx hb dX0_impact_104 rfl (lv_at hl 1 rfl) ?_
        refine lv_imul hx hb dX0_impact_105 ?_
        refine lv_i2l hx hb dX0_impact_106 rfl ?_
        refine lv_ladd hx hb dX0_impact_107 ?_
        refine va_put (D := (dC, dI)) (ci := 0) (v := .long (ss + ((p1 * p1).toInt64))) (ty := .long) (C := RX0) (T := TX0) (N := 16) hx hb hts hinX0 tyX0 tyX0_ok nmX0 hown hK hP hD hS 0 rfl rfl 12 (by decide) f126 (fun _ h9 => h9) rfl (by decide +kernel) (rfl) (rfl) (Nat.le_of_ble_eq_true rfl) dX0_impact_108 (fun H locs hP hD hS => ?_)
        have hP : va_P (dC, dI) vwCl (wX x a1 a2 a3 a4 cI S F X Y n ar sl mu ml ck (ic + 1) (ds + p1.toInt64) (js + p2.toInt64) (ps + ((p1 * p2).toInt64)) (ss + ((p1 * p1).toInt64)) tc) H := hP
        have hD : va_D A (wX x a1 a2 a3 a4 cI S F X Y n ar sl mu ml ck (ic + 1) (ds + p1.toInt64) (js + p2.toInt64) (ps + ((p1 * p2).toInt64)) (ss + ((p1 * p1).toInt64)) tc) := hD
        refine lv_aload_n hx hb dX0_impact_111 rfl (lv_at hl 0 rfl) ?_
        refine va_get (D := (dC, dI)) (ci := 0) (v := .int (nI (ic + 1))) (C := RX0) (T := TX0) (N := 16) hx hb hts hinX0 hown hK hP 0 rfl rfl 8 (by decide) f112 (fun _ h9 => h9) rfl dX0_impact_112 ?_
        refine vx_ret ?_
        refine W.widen (k := 1) (n := 6) (Nat.le_of_ble_eq_true rfl) (Nat.le_of_ble_eq_true rfl) ?_
        exact W.iret (v := nI (ic + 1)) hx hb hr (fun t ht hW => ⟨⟨nI (ic + 1), (), rfl, ⟨kd_0 (by unfold ok_imp; omega) (by omega) trivial trivial, rfl⟩, ⟨by rw [ht]; exact hP, va_K.moved hW.alike hK, hD⟩⟩, hS.F ht⟩) hS.2.2 dX0_impact_115
      · -- not taken at 40
        have c40 : ¬ ic < 8 := fun q9 => c40 ((nI_ltI (a := ic) (b := 8) (by omega) (by omega)).mpr q9)
        exact vx_throwS (own := RX0) (cls := "java/lang/UnsupportedOperationException") (names := ["java/lang/RuntimeException", "java/lang/Exception"]) hx hb hL hown (by decide +kernel) (by decide +kernel) (hts _ (List.mem_cons_of_mem _ wl_X0_40)) (hts _ (List.mem_cons_of_mem _ wi_UnsupportedOperation)) (hG.2.2.1 (115, "there is room for 8 impacts") (by decide +kernel)) (vx_hat (L := vx_atS RX0 44 "java/lang/UnsupportedOperationException" ["java/lang/RuntimeException", "java/lang/Exception"]) (B := [.castable "java/lang/UnsupportedOperationException" "java/lang/UnsupportedOperationException", .declares ⟨"java/lang/RuntimeException", "<init>", "(Ljava/lang/String;)V"⟩, .declares ⟨"java/lang/Exception", "<init>", "(Ljava/lang/String;)V"⟩, .declares ⟨"java/lang/Throwable", "<init>", "(Ljava/lang/String;)V"⟩]) (fun w hw => hts w (List.mem_cons_of_mem _ (xa_UnsupportedOperation w hw))) (by decide +kernel) (vx_c (va_Nw.use rfl (hG.2.2.2.1 ("java/lang/UnsupportedOperationException", "java/lang/UnsupportedOperationException") (by decide +kernel))) (vx_c (va_Nw.use rfl (hG.2.2.2.2.2 ⟨"java/lang/RuntimeException", "<init>", "(Ljava/lang/String;)V"⟩ (by decide +kernel))) (vx_c (va_Nw.use rfl (hG.2.2.2.2.2 ⟨"java/lang/Exception", "<init>", "(Ljava/lang/String;)V"⟩ (by decide +kernel))) (vx_c (va_Nw.use rfl (hG.2.2.2.2.2 ⟨"java/lang/Throwable", "<init>", "(Ljava/lang/String;)V"⟩ (by decide +kernel))) (vx_n)))))) (by decide +kernel) hZU hZN hS (hl.1.trans hml.symm) dX0_impact_43 dX0_impact_46 dX0_impact_47 dX0_impact_49 dX0_impact_52 (fun x hx => (htab x hx).elim) (Nat.le_of_ble_eq_true rfl) (Nat.le_of_ble_eq_true rfl) (Nat.le_of_ble_eq_true rfl) (Nat.le_of_ble_eq_true rfl) hlocks (fun t ha hsz hk => ⟨(), trivial, ⟨Or.inr (⟨rfl, kd_2 (by unfold ok_imp; omega) (by omega)⟩), hP.kept (fun k q hq => hk q.1 (hP k q hq).lt), va_K.moved ha hK, hD⟩, Nat.le_trans hS.1 hsz, fun q h1 h2 => (hk q (Nat.lt_of_lt_of_le h1 hS.1)).trans (hS.2.1 q h1 h2)⟩) hS.2.2 (Nat.le_of_ble_eq_true rfl) (Nat.le_of_ble_eq_true rfl)
    · -- not taken at 21
      have c21 := bI_eq0.mp c21
      exact vx_throwS (own := RX0) (cls := "java/lang/IllegalArgumentException") (names := ["java/lang/RuntimeException", "java/lang/Exception"]) hx hb hL hown (by decide +kernel) (by decide +kernel) (hts _ (List.mem_cons_of_mem _ wl_X0_27)) (hts _ (List.mem_cons_of_mem _ wi_IllegalArgument)) (hG.2.2.1 (110, "degrees are -200 to 200, joules 0 to 400") (by decide +kernel)) (vx_hat (L := vx_atS RX0 31 "java/lang/IllegalArgumentException" ["java/lang/RuntimeException", "java/lang/Exception"]) (B := [.castable "java/lang/IllegalArgumentException" "java/lang/IllegalArgumentException", .declares ⟨"java/lang/RuntimeException", "<init>", "(Ljava/lang/String;)V"⟩, .declares ⟨"java/lang/Exception", "<init>", "(Ljava/lang/String;)V"⟩, .declares ⟨"java/lang/Throwable", "<init>", "(Ljava/lang/String;)V"⟩]) (fun w hw => hts w (List.mem_cons_of_mem _ (xa_IllegalArgument w hw))) (by decide +kernel) (vx_c (va_Nw.use rfl (hG.2.2.2.1 ("java/lang/IllegalArgumentException", "java/lang/IllegalArgumentException") (by decide +kernel))) (vx_c (va_Nw.use rfl (hG.2.2.2.2.2 ⟨"java/lang/RuntimeException", "<init>", "(Ljava/lang/String;)V"⟩ (by decide +kernel))) (vx_c (va_Nw.use rfl (hG.2.2.2.2.2 ⟨"java/lang/Exception", "<init>", "(Ljava/lang/String;)V"⟩ (by decide +kernel))) (vx_c (va_Nw.use rfl (hG.2.2.2.2.2 ⟨"java/lang/Throwable", "<init>", "(Ljava/lang/String;)V"⟩ (by decide +kernel))) (vx_n)))))) (by decide +kernel) hZU hZN hS (hl.1.trans hml.symm) dX0_impact_24 dX0_impact_27 dX0_impact_28 dX0_impact_30 dX0_impact_33 (fun x hx => (htab x hx).elim) (Nat.le_of_ble_eq_true rfl) (Nat.le_of_ble_eq_true rfl) (Nat.le_of_ble_eq_true rfl) (Nat.le_of_ble_eq_true rfl) hlocks (fun t ha hsz hk => ⟨(), trivial, ⟨Or.inl ⟨rfl, kd_1 (by unfold ok_imp; omega)⟩, hP.kept (fun k q hq => hk q.1 (hP k q hq).lt), va_K.moved ha hK, hD⟩, Nat.le_trans hS.1 hsz, fun q h1 h2 => (hk q (Nat.lt_of_lt_of_le h1 hS.1)).trans (hS.2.1 q h1 h2)⟩) hS.2.2 (Nat.le_of_ble_eq_true rfl) (Nat.le_of_ble_eq_true rfl)
set_option maxHeartbeats 4000000 in
set_option maxRecDepth 100000 in
theorem c_X0_table (l : Launch) (hL : l.stackTraces = false) (dC : Nat → ClassId) (dI : Nat → Nat → Nat) (z0 : Nat) (sa : Nat → Nat) (sz : Nat) (hz : z0 ≤ sz) (x a1 a2 a3 a4 : Nat) (cI : ClassId) (S F X Y : Nat → Int32) (n : Nat) (ar sl : Int32) (mu ml : Int64) (ck : Int32) (ic : Nat) (ds js ps ss : Int64) (tc : Nat) (p1 p2 : Int32) (htc : tc ≤ 8) : vx_Met l yX0_table wsX0_table ({ frames := 6, cells := 1, slots := 6, locals := 91 }) (va_Pc [.ref x, .int p1, .int p2] (fun U => U.heap.size = sz ∧ va_P (dC, dI) vwCl (wX x a1 a2 a3 a4 cI S F X Y n ar sl mu ml ck ic ds js ps ss tc) U.heap ∧ va_K (dC, dI) vwCl [(cI, .int)] U ∧ va_D (fun q => z0 ≤ q) (wX x a1 a2 a3 a4 cI S F X Y n ar sl mu ml ck ic ds js ps ss tc) ∧ gl_ok z0 sa U)) (va_Qi (fun r (_ : Unit) => kd4 (ok_tab tc X p1 p2) (tc < 8) True True = 0 ∧ r = nI (tc + 1)) (fun (_ : Unit) t => at_w dC dI cI (va_A (wX x a1 a2 a3 a4 cI S F X Y n ar sl mu ml ck ic ds js ps ss tc) sz) (wX x a1 a2 a3 a4 cI S F (upd X tc p1) (upd Y tc p2) n ar sl mu ml ck ic ds js ps ss (tc + 1)) t) (va_A (wX x a1 a2 a3 a4 cI S F X Y n ar sl mu ml ck ic ds js ps ss tc) sz)) (vx_X (fun _ : Unit => True) (fun E _ t => ((E = "java/lang/IllegalArgumentException" ∧ kd4 (ok_tab tc X p1 p2) (tc < 8) True True = 1) ∨ (E = "java/lang/UnsupportedOperationException" ∧ kd4 (ok_tab tc X p1 p2) (tc < 8) True True = 2)) ∧ at_w dC dI cI (va_A (wX x a1 a2 a3 a4 cI S F X Y n ar sl mu ml ck ic ds js ps ss tc) sz) (wX x a1 a2 a3 a4 cI S F X Y n ar sl mu ml ck ic ds js ps ss tc) t) (va_A (wX x a1 a2 a3 a4 cI S F X Y n ar sl mu ml ck ic ds js ps ss tc) sz)) 1 6 (va_A (wX x a1 a2 a3 a4 cI S F X Y n ar sl mu ml ck ic ds js ps ss tc) sz) := by
  refine vx_ofW (cc := cX0_table) (maxL := 3) (ret := (some .int)) (by decide) rfl ?_
  intro p e s m args below meth c s₁ B hml htab hv
  obtain ⟨rfl, hsz, hP, hK, hD0, hG⟩ := hv
  have hx := B.exec
  have hb := B.bytes
  have hr := B.returns
  have hts := atoms_spec (ws := wsX0_table) B.pre
  have hown : s.vm.findClass RX0 = some m.cls := findClass_of_methodNamed B.named
  have hlocks := B.notSynchronized
  have hinX0 : ∀ w ∈ wsX00, w ∈ wsX0_table := fun w h => List.mem_cons_of_mem _ (inX0 w h)
  have f135 := hts _ (List.mem_cons_of_mem _ wl_X0_135)
  have f16 := hts _ (List.mem_cons_of_mem _ wl_X0_16)
  have f19 := hts _ (List.mem_cons_of_mem _ wl_X0_19)
  subst hsz
  have hD := hD0.self (sz := s.heap.size)
  have hAz := az_of hD0 hz
  generalize hAe : va_A (wX x a1 a2 a3 a4 cI S F X Y n ar sl mu ml ck ic ds js ps ss tc) s.heap.size = A at hD hAz ⊢
  have hA : ∀ q : Nat, s.heap.size ≤ q → A q := fun q h => by rw [← hAe]; exact Or.inr h
  have hS : va_S A s.heap s.heap [] := va_S.rf
  have hZU := hG.1.narrow hAz
  have hZN := hG.2.1.narrow hAz
  have hl := lv_entry ([.ref x, .int p1, .int p2]) (n := 3) (Nat.le_of_ble_eq_true rfl)
  rw [lg_entry_eq]
  generalize (lg_sl ([.ref x, .int p1, .int p2]) ++ List.replicate (3 - (lg_sl ([.ref x, .int p1, .int p2])).length) Slot.unset).toArray = ls at hl ⊢
  have hl : lv_has ls 3 [(0, .ref x), (1, .int p1), (2, .int p2)] := hl
  refine lv_iload_n hx hb dX0_table_0 rfl (lv_at hl 1 rfl) ?_
  refine lv_iconst (v := 0) hx hb dX0_table_1 (by decide) ?_
  refine lv_sipush (v := 2000) hx hb dX0_table_2 (by decide) ?_
  refine vp_callSi (W.runS (As := [.int p1, .int 0, .int 2000]) (rest := []) ⟨hx, hb, hml, hown, hts⟩ (c_X0_isWithin l p1 0 2000 0 2000 (by decide) (by decide)) (va_cwS 3 hts (gS wl_X0_23 ws_X0_isWithin wi_X0 wc_X0_isWithin) rfl rfl rfl (by decide +kernel) ⟨Nat.le_of_ble_eq_true rfl, Nat.le_of_ble_eq_true rfl⟩) ⟨fun _ _ _ _ q => q, fun U hU hW => ⟨rfl, trivial⟩⟩ rfl rfl hl.1 rfl (lv_room (Nat.le_of_ble_eq_true rfl)) dX0_table_5 ⟨Nat.le_of_ble_eq_true rfl, Nat.le_of_ble_eq_true rfl⟩) (fun r5 h5 => ?_)
  subst h5
  refine lv_if_eq (tgt := 22) hx hb dX0_table_8 (by decide) (fun c8 => ?_) (fun c8 => ?_)
  · -- taken at 8
    have c8 := bI_eq0.mp c8
    exact vx_throwS (own := RX0) (cls := "java/lang/IllegalArgumentException") (names := ["java/lang/RuntimeException", "java/lang/Exception"]) hx hb hL hown (by decide +kernel) (by decide +kernel) (hts _ (List.mem_cons_of_mem _ wl_X0_27)) (hts _ (List.mem_cons_of_mem _ wi_IllegalArgument)) (hG.2.2.1 (133, "a table's values are 0 to 2,000") (by decide +kernel)) (vx_hat (L := vx_atS RX0 31 "java/lang/IllegalArgumentException" ["java/lang/RuntimeException", "java/lang/Exception"]) (B := [.castable "java/lang/IllegalArgumentException" "java/lang/IllegalArgumentException", .declares ⟨"java/lang/RuntimeException", "<init>", "(Ljava/lang/String;)V"⟩, .declares ⟨"java/lang/Exception", "<init>", "(Ljava/lang/String;)V"⟩, .declares ⟨"java/lang/Throwable", "<init>", "(Ljava/lang/String;)V"⟩]) (fun w hw => hts w (List.mem_cons_of_mem _ (xa_IllegalArgument w hw))) (by decide +kernel) (vx_c (va_Nw.use rfl (hG.2.2.2.1 ("java/lang/IllegalArgumentException", "java/lang/IllegalArgumentException") (by decide +kernel))) (vx_c (va_Nw.use rfl (hG.2.2.2.2.2 ⟨"java/lang/RuntimeException", "<init>", "(Ljava/lang/String;)V"⟩ (by decide +kernel))) (vx_c (va_Nw.use rfl (hG.2.2.2.2.2 ⟨"java/lang/Exception", "<init>", "(Ljava/lang/String;)V"⟩ (by decide +kernel))) (vx_c (va_Nw.use rfl (hG.2.2.2.2.2 ⟨"java/lang/Throwable", "<init>", "(Ljava/lang/String;)V"⟩ (by decide +kernel))) (vx_n)))))) (by decide +kernel) hZU hZN hS (hl.1.trans hml.symm) dX0_table_22 dX0_table_25 dX0_table_26 dX0_table_28 dX0_table_31 (fun x hx => (htab x hx).elim) (Nat.le_of_ble_eq_true rfl) (Nat.le_of_ble_eq_true rfl) (Nat.le_of_ble_eq_true rfl) (Nat.le_of_ble_eq_true rfl) hlocks (fun t ha hsz hk => ⟨(), trivial, ⟨Or.inl ⟨rfl, kd_1 (by unfold ok_tab; omega)⟩, hP.kept (fun k q hq => hk q.1 (hP k q hq).lt), va_K.moved ha hK, hD⟩, Nat.le_trans hS.1 hsz, fun q h1 h2 => (hk q (Nat.lt_of_lt_of_le h1 hS.1)).trans (hS.2.1 q h1 h2)⟩) hS.2.2 (Nat.le_of_ble_eq_true rfl) (Nat.le_of_ble_eq_true rfl)
  · -- not taken at 8
    have c8 := bI_ne0.mp c8
    refine lv_iload_n hx hb dX0_table_11 rfl (lv_at hl 2 rfl) ?_
    refine lv_iconst (v := 0) hx hb dX0_table_12 (by decide) ?_
    refine lv_sipush (v := 2000) hx hb dX0_table_13 (by decide) ?_
    refine vp_callSi (W.runS (As := [.int p2, .int 0, .int 2000]) (rest := []) ⟨hx, hb, hml, hown, hts⟩ (c_X0_isWithin l p2 0 2000 0 2000 (by decide) (by decide)) (va_cwS 3 hts (gS wl_X0_23 ws_X0_isWithin wi_X0 wc_X0_isWithin) rfl rfl rfl (by decide +kernel) ⟨Nat.le_of_ble_eq_true rfl, Nat.le_of_ble_eq_true rfl⟩) ⟨fun _ _ _ _ q => q, fun U hU hW => ⟨rfl, trivial⟩⟩ rfl rfl hl.1 rfl (lv_room (Nat.le_of_ble_eq_true rfl)) dX0_table_16 ⟨Nat.le_of_ble_eq_true rfl, Nat.le_of_ble_eq_true rfl⟩) (fun r16 h16 => ?_)
    subst h16
    refine lv_if_ne (tgt := 32) hx hb dX0_table_19 (by decide) (fun c19 => ?_) (fun c19 => ?_)
    · -- taken at 19
      have c19 := bI_ne0.mp c19
      refine lv_aload_n hx hb dX0_table_32 rfl (lv_at hl 0 rfl) ?_
      refine va_get (D := (dC, dI)) (ci := 0) (v := .int (nI tc)) (C := RX0) (T := TX0) (N := 16) hx hb hts hinX0 hown hK hP 0 rfl rfl 15 (by decide) f135 (fun _ h9 => h9) rfl dX0_table_33 ?_
      refine lv_if_le (tgt := 64) hx hb dX0_table_36 (by decide) (fun c36 => ?_) (fun c36 => ?_)
      · -- taken at 36
        have c36 : tc ≤ 0 := (nI_leI (a := tc) (b := 0) (by omega) (by omega)).mp c36
        refine lv_aload_n hx hb dX0_table_64 rfl (lv_at hl 0 rfl) ?_
        refine va_get (D := (dC, dI)) (ci := 0) (v := .int (nI tc)) (C := RX0) (T := TX0) (N := 16) hx hb hts hinX0 hown hK hP 0 rfl rfl 15 (by decide) f135 (fun _ h9 => h9) rfl dX0_table_65 ?_
        refine lv_bipush (v := 8) hx hb dX0_table_68 (by decide) ?_
        refine lv_icmp_lt (tgt := 83) hx hb dX0_table_70 (by decide) (fun c70 => ?_) (fun c70 => ?_)
        · -- taken at 70
          have c70 : tc < 8 := (nI_ltI (a := tc) (b := 8) (by omega) (by omega)).mp c70
          refine lv_aload_n hx hb dX0_table_83 rfl (lv_at hl 0 rfl) ?_
          refine va_get (D := (dC, dI)) (ci := 0) (v := .ref a3) (C := RX0) (T := TX0) (N := 16) hx hb hts hinX0 hown hK hP 0 rfl rfl 13 (by decide) f16 (fun _ h9 => h9) rfl dX0_table_84 ?_
          refine lv_aload_n hx hb dX0_table_87 rfl (lv_at hl 0 rfl) ?_
          refine va_get (D := (dC, dI)) (ci := 0) (v := .int (nI tc)) (C := RX0) (T := TX0) (N := 16) hx hb hts hinX0 hown hK hP 0 rfl rfl 15 (by decide) f135 (fun _ h9 => h9) rfl dX0_table_88 ?_
          refine lv_iload_n hx hb dX0_table_91 rfl (lv_at hl 1 rfl) ?_
          refine va_iast (D := (dC, dI)) hx hb hK hP hD hS 3 0 rfl rfl (vp_in_nI (show tc < 8 by omega) (by decide)) dX0_table_92 (fun H locs hP hD hS => ?_)
          rw [show (nI tc : Int32).toNatClampNeg = tc from nI_clamp (show tc < 2 ^ 31 by omega)] at hP hD
          have hP : va_P (dC, dI) vwCl (wX x a1 a2 a3 a4 cI S F (upd X tc p1) Y n ar sl mu ml ck ic ds js ps ss tc) H := hP
          have hD : va_D A (wX x a1 a2 a3 a4 cI S F (upd X tc p1) Y n ar sl mu ml ck ic ds js ps ss tc) := hD
          refine lv_aload_n hx hb dX0_table_93 rfl (lv_at hl 0 rfl) ?_
          refine va_get (D := (dC, dI)) (ci := 0) (v := .ref a4) (C := RX0) (T := TX0) (N := 16) hx hb hts hinX0 hown hK hP 0 rfl rfl 14 (by decide) f19 (fun _ h9 => h9) rfl dX0_table_94 ?_
          refine lv_aload_n hx hb dX0_table_97 rfl (lv_at hl 0 rfl) ?_
          refine va_get (D := (dC, dI)) (ci := 0) (v := .int (nI tc)) (C := RX0) (T := TX0) (N := 16) hx hb hts hinX0 hown hK hP 0 rfl rfl 15 (by decide) f135 (fun _ h9 => h9) rfl dX0_table_98 ?_
          refine lv_iload_n hx hb dX0_table_101 rfl (lv_at hl 2 rfl) ?_
          refine va_iast (D := (dC, dI)) hx hb hK hP hD hS 4 0 rfl rfl (vp_in_nI (show tc < 8 by omega) (by decide)) dX0_table_102 (fun H locs hP hD hS => ?_)
          rw [show (nI tc : Int32).toNatClampNeg = tc from nI_clamp (show tc < 2 ^ 31 by omega)] at hP hD
          have hP : va_P (dC, dI) vwCl (wX x a1 a2 a3 a4 cI S F (upd X tc p1) (upd Y tc p2) n ar sl mu ml ck ic ds js ps ss tc) H := hP
          have hD : va_D A (wX x a1 a2 a3 a4 cI S F (upd X tc p1) (upd Y tc p2) n ar sl mu ml ck ic ds js ps ss tc) := hD
          refine lv_aload_n hx hb dX0_table_103 rfl (lv_at hl 0 rfl) ?_
          refine lv_dup hx hb dX0_table_104 rfl ?_
          refine va_get (D := (dC, dI)) (ci := 0) (v := .int (nI tc)) (C := RX0) (T := TX0) (N := 16) hx hb hts hinX0 hown hK hP 0 rfl rfl 15 (by decide) f135 (fun _ h9 => h9) rfl dX0_table_105 ?_
          refine lv_iconst (v := 1) hx hb dX0_table_108 (by decide) ?_
          refine lv_iadd hx hb dX0_table_109 ?_
          refine W.eq (congrArg (fun z => F0 m 110 ls (.int z :: [.ref x])) (nI_1 tc)) ?_
          refine va_put (D := (dC, dI)) (ci := 0) (v := .int (nI (tc + 1))) (ty := .int) (C := RX0) (T := TX0) (N := 16) hx hb hts hinX0 tyX0 tyX0_ok nmX0 hown hK hP hD hS 0 rfl rfl 15 (by decide) f135 (fun _ h9 => h9) rfl (by decide +kernel) (rfl) (rfl) (Nat.le_of_ble_eq_true rfl) dX0_table_110 (fun H locs hP hD hS => ?_)
          have hP : va_P (dC, dI) vwCl (wX x a1 a2 a3 a4 cI S F (upd X tc p1) (upd Y tc p2) n ar sl mu ml ck ic ds js ps ss (tc + 1)) H := hP
          have hD : va_D A (wX x a1 a2 a3 a4 cI S F (upd X tc p1) (upd Y tc p2) n ar sl mu ml ck ic ds js ps ss (tc + 1)) := hD
          refine lv_aload_n hx hb dX0_table_113 rfl (lv_at hl 0 rfl) ?_
          refine va_get (D := (dC, dI)) (ci := 0) (v := .int (nI (tc + 1))) (C := RX0) (T := TX0) (N := 16) hx hb hts hinX0 hown hK hP 0 rfl rfl 15 (by decide) f135 (fun _ h9 => h9) rfl dX0_table_114 ?_
          refine vx_ret ?_
          refine W.widen (k := 1) (n := 6) (Nat.le_of_ble_eq_true rfl) (Nat.le_of_ble_eq_true rfl) ?_
          exact W.iret (v := nI (tc + 1)) hx hb hr (fun t ht hW => ⟨⟨nI (tc + 1), (), rfl, ⟨kd_0 (by unfold ok_tab; omega) (by omega) trivial trivial, rfl⟩, ⟨by rw [ht]; exact hP, va_K.moved hW.alike hK, hD⟩⟩, hS.F ht⟩) hS.2.2 dX0_table_117
        · -- not taken at 70
          have c70 : ¬ tc < 8 := fun q9 => c70 ((nI_ltI (a := tc) (b := 8) (by omega) (by omega)).mpr q9)
          exact vx_throwS (own := RX0) (cls := "java/lang/UnsupportedOperationException") (names := ["java/lang/RuntimeException", "java/lang/Exception"]) hx hb hL hown (by decide +kernel) (by decide +kernel) (hts _ (List.mem_cons_of_mem _ wl_X0_40)) (hts _ (List.mem_cons_of_mem _ wi_UnsupportedOperation)) (hG.2.2.1 (140, "there is room for 8 table rows") (by decide +kernel)) (vx_hat (L := vx_atS RX0 44 "java/lang/UnsupportedOperationException" ["java/lang/RuntimeException", "java/lang/Exception"]) (B := [.castable "java/lang/UnsupportedOperationException" "java/lang/UnsupportedOperationException", .declares ⟨"java/lang/RuntimeException", "<init>", "(Ljava/lang/String;)V"⟩, .declares ⟨"java/lang/Exception", "<init>", "(Ljava/lang/String;)V"⟩, .declares ⟨"java/lang/Throwable", "<init>", "(Ljava/lang/String;)V"⟩]) (fun w hw => hts w (List.mem_cons_of_mem _ (xa_UnsupportedOperation w hw))) (by decide +kernel) (vx_c (va_Nw.use rfl (hG.2.2.2.1 ("java/lang/UnsupportedOperationException", "java/lang/UnsupportedOperationException") (by decide +kernel))) (vx_c (va_Nw.use rfl (hG.2.2.2.2.2 ⟨"java/lang/RuntimeException", "<init>", "(Ljava/lang/String;)V"⟩ (by decide +kernel))) (vx_c (va_Nw.use rfl (hG.2.2.2.2.2 ⟨"java/lang/Exception", "<init>", "(Ljava/lang/String;)V"⟩ (by decide +kernel))) (vx_c (va_Nw.use rfl (hG.2.2.2.2.2 ⟨"java/lang/Throwable", "<init>", "(Ljava/lang/String;)V"⟩ (by decide +kernel))) (vx_n)))))) (by decide +kernel) hZU hZN hS (hl.1.trans hml.symm) dX0_table_73 dX0_table_76 dX0_table_77 dX0_table_79 dX0_table_82 (fun x hx => (htab x hx).elim) (Nat.le_of_ble_eq_true rfl) (Nat.le_of_ble_eq_true rfl) (Nat.le_of_ble_eq_true rfl) (Nat.le_of_ble_eq_true rfl) hlocks (fun t ha hsz hk => ⟨(), trivial, ⟨Or.inr (⟨rfl, kd_2 (by unfold ok_tab; omega) (by omega)⟩), hP.kept (fun k q hq => hk q.1 (hP k q hq).lt), va_K.moved ha hK, hD⟩, Nat.le_trans hS.1 hsz, fun q h1 h2 => (hk q (Nat.lt_of_lt_of_le h1 hS.1)).trans (hS.2.1 q h1 h2)⟩) hS.2.2 (Nat.le_of_ble_eq_true rfl) (Nat.le_of_ble_eq_true rfl)
      · -- not taken at 36
        have c36 : ¬ tc ≤ 0 := fun q9 => c36 ((nI_leI (a := tc) (b := 0) (by omega) (by omega)).mpr q9)
        refine lv_iload_n hx hb dX0_table_39 rfl (lv_at hl 1 rfl) ?_
        refine lv_aload_n hx hb dX0_table_40 rfl (lv_at hl 0 rfl) ?_
        refine va_get (D := (dC, dI)) (ci := 0) (v := .ref a3) (C := RX0) (T := TX0) (N := 16) hx hb hts hinX0 hown hK hP 0 rfl rfl 13 (by decide) f16 (fun _ h9 => h9) rfl dX0_table_41 ?_
        refine lv_aload_n hx hb dX0_table_44 rfl (lv_at hl 0 rfl) ?_
        refine va_get (D := (dC, dI)) (ci := 0) (v := .int (nI tc)) (C := RX0) (T := TX0) (N := 16) hx hb hts hinX0 hown hK hP 0 rfl rfl 15 (by decide) f135 (fun _ h9 => h9) rfl dX0_table_45 ?_
        refine lv_iconst (v := 1) hx hb dX0_table_48 (by decide) ?_
        refine lv_isub hx hb dX0_table_49 ?_
        refine va_iald (D := (dC, dI)) hx hb hK hP 3 0 rfl rfl (by rw [nI_p1 (show 1 ≤ tc by omega)]; exact vp_in_nI (show tc - 1 < 8 by omega) (by decide)) dX0_table_50 ?_
        refine W.eq (congrArg (fun z => F0 m 51 ls (.int z :: [.int p1])) (congrArg X (show ((nI tc) - 1).toNatClampNeg = tc - 1 from by rw [nI_p1 (show 1 ≤ tc by omega)]; exact nI_clamp (show tc - 1 < 2 ^ 31 by omega)))) ?_
        refine lv_icmp_gt (tgt := 64) hx hb dX0_table_51 (by decide) (fun c51 => ?_) (fun c51 => ?_)
        · -- taken at 51
          have c51 : (X (tc - 1)).toInt < p1.toInt := (Int32.lt_iff_toInt_lt).mp c51
          refine lv_aload_n hx hb dX0_table_64 rfl (lv_at hl 0 rfl) ?_
          refine va_get (D := (dC, dI)) (ci := 0) (v := .int (nI tc)) (C := RX0) (T := TX0) (N := 16) hx hb hts hinX0 hown hK hP 0 rfl rfl 15 (by decide) f135 (fun _ h9 => h9) rfl dX0_table_65 ?_
          refine lv_bipush (v := 8) hx hb dX0_table_68 (by decide) ?_
          refine lv_icmp_lt (tgt := 83) hx hb dX0_table_70 (by decide) (fun c70 => ?_) (fun c70 => ?_)
          · -- taken at 70
            have c70 : tc < 8 := (nI_ltI (a := tc) (b := 8) (by omega) (by omega)).mp c70
            refine lv_aload_n hx hb dX0_table_83 rfl (lv_at hl 0 rfl) ?_
            refine va_get (D := (dC, dI)) (ci := 0) (v := .ref a3) (C := RX0) (T := TX0) (N := 16) hx hb hts hinX0 hown hK hP 0 rfl rfl 13 (by decide) f16 (fun _ h9 => h9) rfl dX0_table_84 ?_
            refine lv_aload_n hx hb dX0_table_87 rfl (lv_at hl 0 rfl) ?_
            refine va_get (D := (dC, dI)) (ci := 0) (v := .int (nI tc)) (C := RX0) (T := TX0) (N := 16) hx hb hts hinX0 hown hK hP 0 rfl rfl 15 (by decide) f135 (fun _ h9 => h9) rfl dX0_table_88 ?_
            refine lv_iload_n hx hb dX0_table_91 rfl (lv_at hl 1 rfl) ?_
            refine va_iast (D := (dC, dI)) hx hb hK hP hD hS 3 0 rfl rfl (vp_in_nI (show tc < 8 by omega) (by decide)) dX0_table_92 (fun H locs hP hD hS => ?_)
            rw [show (nI tc : Int32).toNatClampNeg = tc from nI_clamp (show tc < 2 ^ 31 by omega)] at hP hD
            have hP : va_P (dC, dI) vwCl (wX x a1 a2 a3 a4 cI S F (upd X tc p1) Y n ar sl mu ml ck ic ds js ps ss tc) H := hP
            have hD : va_D A (wX x a1 a2 a3 a4 cI S F (upd X tc p1) Y n ar sl mu ml ck ic ds js ps ss tc) := hD
            refine lv_aload_n hx hb dX0_table_93 rfl (lv_at hl 0 rfl) ?_
            refine va_get (D := (dC, dI)) (ci := 0) (v := .ref a4) (C := RX0) (T := TX0) (N := 16) hx hb hts hinX0 hown hK hP 0 rfl rfl 14 (by decide) f19 (fun _ h9 => h9) rfl dX0_table_94 ?_
            refine lv_aload_n hx hb dX0_table_97 rfl (lv_at hl 0 rfl) ?_
            refine va_get (D := (dC, dI)) (ci := 0) (v := .int (nI tc)) (C := RX0) (T := TX0) (N := 16) hx hb hts hinX0 hown hK hP 0 rfl rfl 15 (by decide) f135 (fun _ h9 => h9) rfl dX0_table_98 ?_
            refine lv_iload_n hx hb dX0_table_101 rfl (lv_at hl 2 rfl) ?_
            refine va_iast (D := (dC, dI)) hx hb hK hP hD hS 4 0 rfl rfl (vp_in_nI (show tc < 8 by omega) (by decide)) dX0_table_102 (fun H locs hP hD hS => ?_)
            rw [show (nI tc : Int32).toNatClampNeg = tc from nI_clamp (show tc < 2 ^ 31 by omega)] at hP hD
            have hP : va_P (dC, dI) vwCl (wX x a1 a2 a3 a4 cI S F (upd X tc p1) (upd Y tc p2) n ar sl mu ml ck ic ds js ps ss tc) H := hP
            have hD : va_D A (wX x a1 a2 a3 a4 cI S F (upd X tc p1) (upd Y tc p2) n ar sl mu ml ck ic ds js ps ss tc) := hD
            refine lv_aload_n hx hb dX0_table_103 rfl (lv_at hl 0 rfl) ?_
            refine lv_dup hx hb dX0_table_104 rfl ?_
            refine va_get (D := (dC, dI)) (ci := 0) (v := .int (nI tc)) (C := RX0) (T := TX0) (N := 16) hx hb hts hinX0 hown hK hP 0 rfl rfl 15 (by decide) f135 (fun _ h9 => h9) rfl dX0_table_105 ?_
            refine lv_iconst (v := 1) hx hb dX0_table_108 (by decide) ?_
            refine lv_iadd hx hb dX0_table_109 ?_
            refine W.eq (congrArg (fun z => F0 m 110 ls (.int z :: [.ref x])) (nI_1 tc)) ?_
            refine va_put (D := (dC, dI)) (ci := 0) (v := .int (nI (tc + 1))) (ty := .int) (C := RX0) (T := TX0) (N := 16) hx hb hts hinX0 tyX0 tyX0_ok nmX0 hown hK hP hD hS 0 rfl rfl 15 (by decide) f135 (fun _ h9 => h9) rfl (by decide +kernel) (rfl) (rfl) (Nat.le_of_ble_eq_true rfl) dX0_table_110 (fun H locs hP hD hS => ?_)
            have hP : va_P (dC, dI) vwCl (wX x a1 a2 a3 a4 cI S F (upd X tc p1) (upd Y tc p2) n ar sl mu ml ck ic ds js ps ss (tc + 1)) H := hP
            have hD : va_D A (wX x a1 a2 a3 a4 cI S F (upd X tc p1) (upd Y tc p2) n ar sl mu ml ck ic ds js ps ss (tc + 1)) := hD
            refine lv_aload_n hx hb dX0_table_113 rfl (lv_at hl 0 rfl) ?_
            refine va_get (D := (dC, dI)) (ci := 0) (v := .int (nI (tc + 1))) (C := RX0) (T := TX0) (N := 16) hx hb hts hinX0 hown hK hP 0 rfl rfl 15 (by decide) f135 (fun _ h9 => h9) rfl dX0_table_114 ?_
            refine vx_ret ?_
            refine W.widen (k := 1) (n := 6) (Nat.le_of_ble_eq_true rfl) (Nat.le_of_ble_eq_true rfl) ?_
            exact W.iret (v := nI (tc + 1)) hx hb hr (fun t ht hW => ⟨⟨nI (tc + 1), (), rfl, ⟨kd_0 (by unfold ok_tab; omega) (by omega) trivial trivial, rfl⟩, ⟨by rw [ht]; exact hP, va_K.moved hW.alike hK, hD⟩⟩, hS.F ht⟩) hS.2.2 dX0_table_117
          · -- not taken at 70
            have c70 : ¬ tc < 8 := fun q9 => c70 ((nI_ltI (a := tc) (b := 8) (by omega) (by omega)).mpr q9)
            exact vx_throwS (own := RX0) (cls := "java/lang/UnsupportedOperationException") (names := ["java/lang/RuntimeException", "java/lang/Exception"]) hx hb hL hown (by decide +kernel) (by decide +kernel) (hts _ (List.mem_cons_of_mem _ wl_X0_40)) (hts _ (List.mem_cons_of_mem _ wi_UnsupportedOperation)) (hG.2.2.1 (140, "there is room for 8 table rows") (by decide +kernel)) (vx_hat (L := vx_atS RX0 44 "java/lang/UnsupportedOperationException" ["java/lang/RuntimeException", "java/lang/Exception"]) (B := [.castable "java/lang/UnsupportedOperationException" "java/lang/UnsupportedOperationException", .declares ⟨"java/lang/RuntimeException", "<init>", "(Ljava/lang/String;)V"⟩, .declares ⟨"java/lang/Exception", "<init>", "(Ljava/lang/String;)V"⟩, .declares ⟨"java/lang/Throwable", "<init>", "(Ljava/lang/String;)V"⟩]) (fun w hw => hts w (List.mem_cons_of_mem _ (xa_UnsupportedOperation w hw))) (by decide +kernel) (vx_c (va_Nw.use rfl (hG.2.2.2.1 ("java/lang/UnsupportedOperationException", "java/lang/UnsupportedOperationException") (by decide +kernel))) (vx_c (va_Nw.use rfl (hG.2.2.2.2.2 ⟨"java/lang/RuntimeException", "<init>", "(Ljava/lang/String;)V"⟩ (by decide +kernel))) (vx_c (va_Nw.use rfl (hG.2.2.2.2.2 ⟨"java/lang/Exception", "<init>", "(Ljava/lang/String;)V"⟩ (by decide +kernel))) (vx_c (va_Nw.use rfl (hG.2.2.2.2.2 ⟨"java/lang/Throwable", "<init>", "(Ljava/lang/String;)V"⟩ (by decide +kernel))) (vx_n)))))) (by decide +kernel) hZU hZN hS (hl.1.trans hml.symm) dX0_table_73 dX0_table_76 dX0_table_77 dX0_table_79 dX0_table_82 (fun x hx => (htab x hx).elim) (Nat.le_of_ble_eq_true rfl) (Nat.le_of_ble_eq_true rfl) (Nat.le_of_ble_eq_true rfl) (Nat.le_of_ble_eq_true rfl) hlocks (fun t ha hsz hk => ⟨(), trivial, ⟨Or.inr (⟨rfl, kd_2 (by unfold ok_tab; omega) (by omega)⟩), hP.kept (fun k q hq => hk q.1 (hP k q hq).lt), va_K.moved ha hK, hD⟩, Nat.le_trans hS.1 hsz, fun q h1 h2 => (hk q (Nat.lt_of_lt_of_le h1 hS.1)).trans (hS.2.1 q h1 h2)⟩) hS.2.2 (Nat.le_of_ble_eq_true rfl) (Nat.le_of_ble_eq_true rfl)
        · -- not taken at 51
          have c51 : ¬ (X (tc - 1)).toInt < p1.toInt := fun q9 => c51 ((Int32.lt_iff_toInt_lt).mpr q9)
          exact vx_throwS (own := RX0) (cls := "java/lang/IllegalArgumentException") (names := ["java/lang/RuntimeException", "java/lang/Exception"]) hx hb hL hown (by decide +kernel) (by decide +kernel) (hts _ (List.mem_cons_of_mem _ wl_X0_27)) (hts _ (List.mem_cons_of_mem _ wi_IllegalArgument)) (hG.2.2.1 (138, "x must rise") (by decide +kernel)) (vx_hat (L := vx_atS RX0 31 "java/lang/IllegalArgumentException" ["java/lang/RuntimeException", "java/lang/Exception"]) (B := [.castable "java/lang/IllegalArgumentException" "java/lang/IllegalArgumentException", .declares ⟨"java/lang/RuntimeException", "<init>", "(Ljava/lang/String;)V"⟩, .declares ⟨"java/lang/Exception", "<init>", "(Ljava/lang/String;)V"⟩, .declares ⟨"java/lang/Throwable", "<init>", "(Ljava/lang/String;)V"⟩]) (fun w hw => hts w (List.mem_cons_of_mem _ (xa_IllegalArgument w hw))) (by decide +kernel) (vx_c (va_Nw.use rfl (hG.2.2.2.1 ("java/lang/IllegalArgumentException", "java/lang/IllegalArgumentException") (by decide +kernel))) (vx_c (va_Nw.use rfl (hG.2.2.2.2.2 ⟨"java/lang/RuntimeException", "<init>", "(Ljava/lang/String;)V"⟩ (by decide +kernel))) (vx_c (va_Nw.use rfl (hG.2.2.2.2.2 ⟨"java/lang/Exception", "<init>", "(Ljava/lang/String;)V"⟩ (by decide +kernel))) (vx_c (va_Nw.use rfl (hG.2.2.2.2.2 ⟨"java/lang/Throwable", "<init>", "(Ljava/lang/String;)V"⟩ (by decide +kernel))) (vx_n)))))) (by decide +kernel) hZU hZN hS (hl.1.trans hml.symm) dX0_table_54 dX0_table_57 dX0_table_58 dX0_table_60 dX0_table_63 (fun x hx => (htab x hx).elim) (Nat.le_of_ble_eq_true rfl) (Nat.le_of_ble_eq_true rfl) (Nat.le_of_ble_eq_true rfl) (Nat.le_of_ble_eq_true rfl) hlocks (fun t ha hsz hk => ⟨(), trivial, ⟨Or.inl ⟨rfl, kd_1 (by unfold ok_tab; omega)⟩, hP.kept (fun k q hq => hk q.1 (hP k q hq).lt), va_K.moved ha hK, hD⟩, Nat.le_trans hS.1 hsz, fun q h1 h2 => (hk q (Nat.lt_of_lt_of_le h1 hS.1)).trans (hS.2.1 q h1 h2)⟩) hS.2.2 (Nat.le_of_ble_eq_true rfl) (Nat.le_of_ble_eq_true rfl)
    · -- not taken at 19
      have c19 := bI_eq0.mp c19
      exact vx_throwS (own := RX0) (cls := "java/lang/IllegalArgumentException") (names := ["java/lang/RuntimeException", "java/lang/Exception"]) hx hb hL hown (by decide +kernel) (by decide +kernel) (hts _ (List.mem_cons_of_mem _ wl_X0_27)) (hts _ (List.mem_cons_of_mem _ wi_IllegalArgument)) (hG.2.2.1 (133, "a table's values are 0 to 2,000") (by decide +kernel)) (vx_hat (L := vx_atS RX0 31 "java/lang/IllegalArgumentException" ["java/lang/RuntimeException", "java/lang/Exception"]) (B := [.castable "java/lang/IllegalArgumentException" "java/lang/IllegalArgumentException", .declares ⟨"java/lang/RuntimeException", "<init>", "(Ljava/lang/String;)V"⟩, .declares ⟨"java/lang/Exception", "<init>", "(Ljava/lang/String;)V"⟩, .declares ⟨"java/lang/Throwable", "<init>", "(Ljava/lang/String;)V"⟩]) (fun w hw => hts w (List.mem_cons_of_mem _ (xa_IllegalArgument w hw))) (by decide +kernel) (vx_c (va_Nw.use rfl (hG.2.2.2.1 ("java/lang/IllegalArgumentException", "java/lang/IllegalArgumentException") (by decide +kernel))) (vx_c (va_Nw.use rfl (hG.2.2.2.2.2 ⟨"java/lang/RuntimeException", "<init>", "(Ljava/lang/String;)V"⟩ (by decide +kernel))) (vx_c (va_Nw.use rfl (hG.2.2.2.2.2 ⟨"java/lang/Exception", "<init>", "(Ljava/lang/String;)V"⟩ (by decide +kernel))) (vx_c (va_Nw.use rfl (hG.2.2.2.2.2 ⟨"java/lang/Throwable", "<init>", "(Ljava/lang/String;)V"⟩ (by decide +kernel))) (vx_n)))))) (by decide +kernel) hZU hZN hS (hl.1.trans hml.symm) dX0_table_22 dX0_table_25 dX0_table_26 dX0_table_28 dX0_table_31 (fun x hx => (htab x hx).elim) (Nat.le_of_ble_eq_true rfl) (Nat.le_of_ble_eq_true rfl) (Nat.le_of_ble_eq_true rfl) (Nat.le_of_ble_eq_true rfl) hlocks (fun t ha hsz hk => ⟨(), trivial, ⟨Or.inl ⟨rfl, kd_1 (by unfold ok_tab; omega)⟩, hP.kept (fun k q hq => hk q.1 (hP k q hq).lt), va_K.moved ha hK, hD⟩, Nat.le_trans hS.1 hsz, fun q h1 h2 => (hk q (Nat.lt_of_lt_of_le h1 hS.1)).trans (hS.2.1 q h1 h2)⟩) hS.2.2 (Nat.le_of_ble_eq_true rfl) (Nat.le_of_ble_eq_true rfl)
set_option maxHeartbeats 4000000 in
set_option maxRecDepth 100000 in
theorem c_X0_machine (l : Launch) (hL : l.stackTraces = false) (dC : Nat → ClassId) (dI : Nat → Nat → Nat) (z0 : Nat) (sa : Nat → Nat) (sz : Nat) (hz : z0 ≤ sz) (x a1 a2 a3 a4 : Nat) (cI : ClassId) (S F X Y : Nat → Int32) (n : Nat) (ar sl : Int32) (mu ml : Int64) (ck : Int32) (ic : Nat) (ds js ps ss : Int64) (tc : Nat) (p1 p2 : Int32) : vx_Met l yX0_machine wsX0_machine ({ frames := 6, cells := 1, slots := 6, locals := 91 }) (va_Pc [.ref x, .int p1, .int p2] (fun U => U.heap.size = sz ∧ va_P (dC, dI) vwCl (wX x a1 a2 a3 a4 cI S F X Y n ar sl mu ml ck ic ds js ps ss tc) U.heap ∧ va_K (dC, dI) vwCl [(cI, .int)] U ∧ va_D (fun q => z0 ≤ q) (wX x a1 a2 a3 a4 cI S F X Y n ar sl mu ml ck ic ds js ps ss tc) ∧ gl_ok z0 sa U)) (va_Qi (fun r (_ : Unit) => kd4 (ok_mac p1 p2) True True True = 0 ∧ r = bI (mfail p1 p2)) (fun (_ : Unit) t => at_w dC dI cI (va_A (wX x a1 a2 a3 a4 cI S F X Y n ar sl mu ml ck ic ds js ps ss tc) sz) (wX x a1 a2 a3 a4 cI S F X Y n ar sl mu ml (bI (mfail p1 p2)) ic ds js ps ss tc) t) (va_A (wX x a1 a2 a3 a4 cI S F X Y n ar sl mu ml ck ic ds js ps ss tc) sz)) (vx_X (fun _ : Unit => True) (fun E _ t => ((E = "java/lang/IllegalArgumentException" ∧ kd4 (ok_mac p1 p2) True True True = 1)) ∧ at_w dC dI cI (va_A (wX x a1 a2 a3 a4 cI S F X Y n ar sl mu ml ck ic ds js ps ss tc) sz) (wX x a1 a2 a3 a4 cI S F X Y n ar sl mu ml ck ic ds js ps ss tc) t) (va_A (wX x a1 a2 a3 a4 cI S F X Y n ar sl mu ml ck ic ds js ps ss tc) sz)) 1 6 (va_A (wX x a1 a2 a3 a4 cI S F X Y n ar sl mu ml ck ic ds js ps ss tc) sz) := by
  refine vx_ofW (cc := cX0_machine) (maxL := 3) (ret := (some .boolean)) (by decide) rfl ?_
  intro p e s m args below meth c s₁ B hml htab hv
  obtain ⟨rfl, hsz, hP, hK, hD0, hG⟩ := hv
  have hx := B.exec
  have hb := B.bytes
  have hr := B.returns
  have hts := atoms_spec (ws := wsX0_machine) B.pre
  have hown : s.vm.findClass RX0 = some m.cls := findClass_of_methodNamed B.named
  have hlocks := B.notSynchronized
  have hinX0 : ∀ w ∈ wsX00, w ∈ wsX0_machine := fun w h => List.mem_cons_of_mem _ (inX0 w h)
  have k22 := hts _ (List.mem_cons_of_mem _ wl_X0_22)
  have k165 := hts _ (List.mem_cons_of_mem _ wl_X0_165)
  have kst165 := hts _ (List.mem_cons_of_mem _ w_sabs)
  have kinM := hts _ (List.mem_cons_of_mem _ wi_J)
  have kcode165 := hts _ (List.mem_cons_of_mem _ w_cabs)
  have f170 := hts _ (List.mem_cons_of_mem _ wl_X0_170)
  subst hsz
  have hD := hD0.self (sz := s.heap.size)
  have hAz := az_of hD0 hz
  generalize hAe : va_A (wX x a1 a2 a3 a4 cI S F X Y n ar sl mu ml ck ic ds js ps ss tc) s.heap.size = A at hD hAz ⊢
  have hA : ∀ q : Nat, s.heap.size ≤ q → A q := fun q h => by rw [← hAe]; exact Or.inr h
  have hS : va_S A s.heap s.heap [] := va_S.rf
  have hZU := hG.1.narrow hAz
  have hZN := hG.2.1.narrow hAz
  have hl := lv_entry ([.ref x, .int p1, .int p2]) (n := 3) (Nat.le_of_ble_eq_true rfl)
  rw [lg_entry_eq]
  generalize (lg_sl ([.ref x, .int p1, .int p2]) ++ List.replicate (3 - (lg_sl ([.ref x, .int p1, .int p2])).length) Slot.unset).toArray = ls at hl ⊢
  have hl : lv_has ls 3 [(0, .ref x), (1, .int p1), (2, .int p2)] := hl
  refine lv_iload_n hx hb dX0_machine_0 rfl (lv_at hl 1 rfl) ?_
  refine lv_iconst (v := 1) hx hb dX0_machine_1 (by decide) ?_
  refine lv_ldc (v := 1000000) hx hb hown k22 dX0_machine_2 ?_
  refine vp_callSi (W.runS (As := [.int p1, .int 1, .int 1000000]) (rest := []) ⟨hx, hb, hml, hown, hts⟩ (c_X0_isWithin l p1 1 1000000 1 1000000 (by decide) (by decide)) (va_cwS 3 hts (gS wl_X0_23 ws_X0_isWithin wi_X0 wc_X0_isWithin) rfl rfl rfl (by decide +kernel) ⟨Nat.le_of_ble_eq_true rfl, Nat.le_of_ble_eq_true rfl⟩) ⟨fun _ _ _ _ q => q, fun U hU hW => ⟨rfl, trivial⟩⟩ rfl rfl hl.1 rfl (lv_room (Nat.le_of_ble_eq_true rfl)) dX0_machine_4 ⟨Nat.le_of_ble_eq_true rfl, Nat.le_of_ble_eq_true rfl⟩) (fun r4 h4 => ?_)
  subst h4
  refine lv_if_eq (tgt := 20) hx hb dX0_machine_7 (by decide) (fun c7 => ?_) (fun c7 => ?_)
  · -- taken at 7
    have c7 := bI_eq0.mp c7
    exact vx_throwS (own := RX0) (cls := "java/lang/IllegalArgumentException") (names := ["java/lang/RuntimeException", "java/lang/Exception"]) hx hb hL hown (by decide +kernel) (by decide +kernel) (hts _ (List.mem_cons_of_mem _ wl_X0_27)) (hts _ (List.mem_cons_of_mem _ wi_IllegalArgument)) (hG.2.2.1 (163, "a check's forces are 1 to 1,000,000") (by decide +kernel)) (vx_hat (L := vx_atS RX0 31 "java/lang/IllegalArgumentException" ["java/lang/RuntimeException", "java/lang/Exception"]) (B := [.castable "java/lang/IllegalArgumentException" "java/lang/IllegalArgumentException", .declares ⟨"java/lang/RuntimeException", "<init>", "(Ljava/lang/String;)V"⟩, .declares ⟨"java/lang/Exception", "<init>", "(Ljava/lang/String;)V"⟩, .declares ⟨"java/lang/Throwable", "<init>", "(Ljava/lang/String;)V"⟩]) (fun w hw => hts w (List.mem_cons_of_mem _ (xa_IllegalArgument w hw))) (by decide +kernel) (vx_c (va_Nw.use rfl (hG.2.2.2.1 ("java/lang/IllegalArgumentException", "java/lang/IllegalArgumentException") (by decide +kernel))) (vx_c (va_Nw.use rfl (hG.2.2.2.2.2 ⟨"java/lang/RuntimeException", "<init>", "(Ljava/lang/String;)V"⟩ (by decide +kernel))) (vx_c (va_Nw.use rfl (hG.2.2.2.2.2 ⟨"java/lang/Exception", "<init>", "(Ljava/lang/String;)V"⟩ (by decide +kernel))) (vx_c (va_Nw.use rfl (hG.2.2.2.2.2 ⟨"java/lang/Throwable", "<init>", "(Ljava/lang/String;)V"⟩ (by decide +kernel))) (vx_n)))))) (by decide +kernel) hZU hZN hS (hl.1.trans hml.symm) dX0_machine_20 dX0_machine_23 dX0_machine_24 dX0_machine_26 dX0_machine_29 (fun x hx => (htab x hx).elim) (Nat.le_of_ble_eq_true rfl) (Nat.le_of_ble_eq_true rfl) (Nat.le_of_ble_eq_true rfl) (Nat.le_of_ble_eq_true rfl) hlocks (fun t ha hsz hk => ⟨(), trivial, ⟨⟨rfl, kd_1 (by unfold ok_mac; omega)⟩, hP.kept (fun k q hq => hk q.1 (hP k q hq).lt), va_K.moved ha hK, hD⟩, Nat.le_trans hS.1 hsz, fun q h1 h2 => (hk q (Nat.lt_of_lt_of_le h1 hS.1)).trans (hS.2.1 q h1 h2)⟩) hS.2.2 (Nat.le_of_ble_eq_true rfl) (Nat.le_of_ble_eq_true rfl)
  · -- not taken at 7
    have c7 := bI_ne0.mp c7
    refine lv_iload_n hx hb dX0_machine_10 rfl (lv_at hl 2 rfl) ?_
    refine lv_iconst (v := 1) hx hb dX0_machine_11 (by decide) ?_
    refine lv_ldc (v := 1000000) hx hb hown k22 dX0_machine_12 ?_
    refine vp_callSi (W.runS (As := [.int p2, .int 1, .int 1000000]) (rest := []) ⟨hx, hb, hml, hown, hts⟩ (c_X0_isWithin l p2 1 1000000 1 1000000 (by decide) (by decide)) (va_cwS 3 hts (gS wl_X0_23 ws_X0_isWithin wi_X0 wc_X0_isWithin) rfl rfl rfl (by decide +kernel) ⟨Nat.le_of_ble_eq_true rfl, Nat.le_of_ble_eq_true rfl⟩) ⟨fun _ _ _ _ q => q, fun U hU hW => ⟨rfl, trivial⟩⟩ rfl rfl hl.1 rfl (lv_room (Nat.le_of_ble_eq_true rfl)) dX0_machine_14 ⟨Nat.le_of_ble_eq_true rfl, Nat.le_of_ble_eq_true rfl⟩) (fun r14 h14 => ?_)
    subst h14
    refine lv_if_ne (tgt := 30) hx hb dX0_machine_17 (by decide) (fun c17 => ?_) (fun c17 => ?_)
    · -- taken at 17
      have c17 := bI_ne0.mp c17
      have hok : ok_mac p1 p2 := by unfold ok_mac; omega
      have e9 := mac_e hok
      have e8 := mac_a hok
      have J49 : ∀ (ls : Array Slot), lv_has ls 3 [(0, .ref x), (1, .int p1), (2, .int p2)] → W p l e (headSpec wsX0_machine ({ frames := 6, cells := 1, slots := 6, locals := 91 })).room s m ([.ref x, .int p1, .int p2] : List Value).toArray below meth c s.heap [] 0 0 (vx_MQ below (va_Qi (fun r (_ : Unit) => kd4 (ok_mac p1 p2) True True True = 0 ∧ r = bI (mfail p1 p2)) (fun (_ : Unit) t => at_w dC dI cI A (wX x a1 a2 a3 a4 cI S F X Y n ar sl mu ml (bI (mfail p1 p2)) ic ds js ps ss tc) t) A) (vx_X (fun _ : Unit => True) (fun E _ t => ((E = "java/lang/IllegalArgumentException" ∧ kd4 (ok_mac p1 p2) True True True = 1)) ∧ at_w dC dI cI A (wX x a1 a2 a3 a4 cI S F X Y n ar sl mu ml ck ic ds js ps ss tc) t) A) ([.ref x, .int p1, .int p2] : List Value).toArray s 1 6 A) (F0 m 49 ls [.int (bI (mfail p1 p2)), .ref x]) := by
        intro ls hl
        refine va_put (D := (dC, dI)) (ci := 0) (v := .int (bI (mfail p1 p2))) (ty := .boolean) (C := RX0) (T := TX0) (N := 16) hx hb hts hinX0 tyX0 tyX0_ok nmX0 hown hK hP hD hS 0 rfl rfl 7 (by decide) f170 (fun _ h9 => h9) rfl (by decide +kernel) (bI_nar) (bI_fit) (Nat.le_of_ble_eq_true rfl) dX0_machine_49 (fun H locs hP hD hS => ?_)
        have hP : va_P (dC, dI) vwCl (wX x a1 a2 a3 a4 cI S F X Y n ar sl mu ml (bI (mfail p1 p2)) ic ds js ps ss tc) H := hP
        have hD : va_D A (wX x a1 a2 a3 a4 cI S F X Y n ar sl mu ml (bI (mfail p1 p2)) ic ds js ps ss tc) := hD
        refine lv_aload_n hx hb dX0_machine_52 rfl (lv_at hl 0 rfl) ?_
        refine va_get (D := (dC, dI)) (ci := 0) (v := .int (bI (mfail p1 p2))) (C := RX0) (T := TX0) (N := 16) hx hb hts hinX0 hown hK hP 0 rfl rfl 7 (by decide) f170 (fun _ h9 => h9) rfl dX0_machine_53 ?_
        refine vx_ret ?_
        refine W.widen (k := 1) (n := 6) (Nat.le_of_ble_eq_true rfl) (Nat.le_of_ble_eq_true rfl) ?_
        exact W.zret (v := bI (mfail p1 p2)) hx hb hr bI_nar (fun t ht hW => ⟨⟨bI (mfail p1 p2), (), rfl, ⟨kd_0 hok trivial trivial trivial, rfl⟩, ⟨by rw [ht]; exact hP, va_K.moved hW.alike hK, hD⟩⟩, hS.F ht⟩) hS.2.2 dX0_machine_56
      refine lv_aload_n hx hb dX0_machine_30 rfl (lv_at hl 0 rfl) ?_
      refine lv_iload_n hx hb dX0_machine_31 rfl (lv_at hl 1 rfl) ?_
      refine lv_iload_n hx hb dX0_machine_32 rfl (lv_at hl 2 rfl) ?_
      refine lv_isub hx hb dX0_machine_33 ?_
      refine va_mabs hx hb (by rw [hml]; exact hl.1.symm) hown k165 kst165 kinM kcode165 (Nat.le_of_ble_eq_true rfl) (Nat.le_of_ble_eq_true rfl) (Nat.le_of_ble_eq_true rfl) (Nat.le_of_ble_eq_true rfl) dX0_machine_34 ?_
      refine lv_bipush (v := 100) hx hb dX0_machine_37 (by decide) ?_
      refine lv_imul hx hb dX0_machine_39 ?_
      refine lv_iload_n hx hb dX0_machine_40 rfl (lv_at hl 1 rfl) ?_
      refine lv_icmp_le (tgt := 48) hx hb dX0_machine_41 (by decide) (fun c41 => ?_) (fun c41 => ?_)
      · -- taken at 41
        have c41 : ((if 0 ≤ (p1 - p2) then (p1 - p2) else 0 - (p1 - p2)) * 100).toInt ≤ p1.toInt := (Int32.le_iff_toInt_le).mp c41
        refine lv_iconst (v := 0) hx hb dX0_machine_48 (by decide) ?_
        refine W.eq (congrArg (fun z => F0 m 49 ls (.int z :: [.ref x])) ((bI_0 (c := mfail p1 p2) (by unfold mfail; omega)).symm)) ?_
        exact J49 ls (lv_sub hl [0, 1, 2] rfl)
      · -- not taken at 41
        have c41 : ¬ ((if 0 ≤ (p1 - p2) then (p1 - p2) else 0 - (p1 - p2)) * 100).toInt ≤ p1.toInt := fun q9 => c41 ((Int32.le_iff_toInt_le).mpr q9)
        refine lv_iconst (v := 1) hx hb dX0_machine_44 (by decide) ?_
        refine lv_goto (tgt := 49) hx hb dX0_machine_45 (by decide) ?_
        refine W.eq (congrArg (fun z => F0 m 49 ls (.int z :: [.ref x])) ((bI_1 (c := mfail p1 p2) (by unfold mfail; omega)).symm)) ?_
        exact J49 ls (lv_sub hl [0, 1, 2] rfl)
    · -- not taken at 17
      have c17 := bI_eq0.mp c17
      exact vx_throwS (own := RX0) (cls := "java/lang/IllegalArgumentException") (names := ["java/lang/RuntimeException", "java/lang/Exception"]) hx hb hL hown (by decide +kernel) (by decide +kernel) (hts _ (List.mem_cons_of_mem _ wl_X0_27)) (hts _ (List.mem_cons_of_mem _ wi_IllegalArgument)) (hG.2.2.1 (163, "a check's forces are 1 to 1,000,000") (by decide +kernel)) (vx_hat (L := vx_atS RX0 31 "java/lang/IllegalArgumentException" ["java/lang/RuntimeException", "java/lang/Exception"]) (B := [.castable "java/lang/IllegalArgumentException" "java/lang/IllegalArgumentException", .declares ⟨"java/lang/RuntimeException", "<init>", "(Ljava/lang/String;)V"⟩, .declares ⟨"java/lang/Exception", "<init>", "(Ljava/lang/String;)V"⟩, .declares ⟨"java/lang/Throwable", "<init>", "(Ljava/lang/String;)V"⟩]) (fun w hw => hts w (List.mem_cons_of_mem _ (xa_IllegalArgument w hw))) (by decide +kernel) (vx_c (va_Nw.use rfl (hG.2.2.2.1 ("java/lang/IllegalArgumentException", "java/lang/IllegalArgumentException") (by decide +kernel))) (vx_c (va_Nw.use rfl (hG.2.2.2.2.2 ⟨"java/lang/RuntimeException", "<init>", "(Ljava/lang/String;)V"⟩ (by decide +kernel))) (vx_c (va_Nw.use rfl (hG.2.2.2.2.2 ⟨"java/lang/Exception", "<init>", "(Ljava/lang/String;)V"⟩ (by decide +kernel))) (vx_c (va_Nw.use rfl (hG.2.2.2.2.2 ⟨"java/lang/Throwable", "<init>", "(Ljava/lang/String;)V"⟩ (by decide +kernel))) (vx_n)))))) (by decide +kernel) hZU hZN hS (hl.1.trans hml.symm) dX0_machine_20 dX0_machine_23 dX0_machine_24 dX0_machine_26 dX0_machine_29 (fun x hx => (htab x hx).elim) (Nat.le_of_ble_eq_true rfl) (Nat.le_of_ble_eq_true rfl) (Nat.le_of_ble_eq_true rfl) (Nat.le_of_ble_eq_true rfl) hlocks (fun t ha hsz hk => ⟨(), trivial, ⟨⟨rfl, kd_1 (by unfold ok_mac; omega)⟩, hP.kept (fun k q hq => hk q.1 (hP k q hq).lt), va_K.moved ha hK, hD⟩, Nat.le_trans hS.1 hsz, fun q h1 h2 => (hk q (Nat.lt_of_lt_of_le h1 hS.1)).trans (hS.2.1 q h1 h2)⟩) hS.2.2 (Nat.le_of_ble_eq_true rfl) (Nat.le_of_ble_eq_true rfl)
set_option maxHeartbeats 4000000 in
set_option maxRecDepth 100000 in
theorem c_X0_clear (l : Launch) (dC : Nat → ClassId) (dI : Nat → Nat → Nat) (sz : Nat) (x a1 a2 a3 a4 : Nat) (cI : ClassId) (S F X Y : Nat → Int32) (n : Nat) (ar sl : Int32) (mu ml : Int64) (ck : Int32) (ic : Nat) (ds js ps ss : Int64) (tc : Nat) : Met l yX0_clear wsX0_clear ({ frames := 0, cells := 0, slots := 0, locals := 0 }) (va_Pc [.ref x] (fun U => U.heap.size = sz ∧ va_P (dC, dI) vwCl (wX x a1 a2 a3 a4 cI S F X Y n ar sl mu ml ck ic ds js ps ss tc) U.heap ∧ va_K (dC, dI) vwCl [(cI, .int)] U ∧ va_D (fun _ => True) (wX x a1 a2 a3 a4 cI S F X Y n ar sl mu ml ck ic ds js ps ss tc))) (va_Qv (fun (_ : Unit) => True) (fun (_ : Unit) t => at_w dC dI cI (va_A (wX x a1 a2 a3 a4 cI S F X Y n ar sl mu ml ck ic ds js ps ss tc) sz) (wX x a1 a2 a3 a4 cI S F X Y 0 0 0 0 0 0 ic ds js ps ss tc) t) (va_A (wX x a1 a2 a3 a4 cI S F X Y n ar sl mu ml ck ic ds js ps ss tc) sz)) 0 0 (va_A (wX x a1 a2 a3 a4 cI S F X Y n ar sl mu ml ck ic ds js ps ss tc) sz) := by
  refine Met.ofW (cc := cX0_clear) (maxL := 1) (ret := none) (by decide) rfl ?_
  intro p e s m args below meth c s₁ B hml hv
  obtain ⟨rfl, hsz, hP, hK, hD0⟩ := hv
  have hx := B.exec
  have hb := B.bytes
  have hr := B.returns
  have hts := atoms_spec (ws := wsX0_clear) B.pre
  have hown : s.vm.findClass RX0 = some m.cls := findClass_of_methodNamed B.named
  have hlocks := B.notSynchronized
  have hinX0 : ∀ w ∈ wsX00, w ∈ wsX0_clear := fun w h => List.mem_cons_of_mem _ (inX0 w h)
  have f34 := hts _ (List.mem_cons_of_mem _ wl_X0_34)
  have f47 := hts _ (List.mem_cons_of_mem _ wl_X0_47)
  have f50 := hts _ (List.mem_cons_of_mem _ wl_X0_50)
  have f68 := hts _ (List.mem_cons_of_mem _ wl_X0_68)
  have f72 := hts _ (List.mem_cons_of_mem _ wl_X0_72)
  have f170 := hts _ (List.mem_cons_of_mem _ wl_X0_170)
  subst hsz
  have hD := hD0.self (sz := s.heap.size)
  generalize hAe : va_A (wX x a1 a2 a3 a4 cI S F X Y n ar sl mu ml ck ic ds js ps ss tc) s.heap.size = A at hD ⊢
  have hA : ∀ q : Nat, s.heap.size ≤ q → A q := fun q h => by rw [← hAe]; exact Or.inr h
  have hS : va_S A s.heap s.heap [] := va_S.rf
  have hl := lv_entry ([.ref x]) (n := 1) (Nat.le_of_ble_eq_true rfl)
  rw [lg_entry_eq]
  generalize (lg_sl ([.ref x]) ++ List.replicate (1 - (lg_sl ([.ref x])).length) Slot.unset).toArray = ls at hl ⊢
  have hl : lv_has ls 1 [(0, .ref x)] := hl
  refine lv_aload_n hx hb dX0_clear_0 rfl (lv_at hl 0 rfl) ?_
  refine lv_iconst (v := 0) hx hb dX0_clear_1 (by decide) ?_
  refine va_put (D := (dC, dI)) (ci := 0) (v := .int 0) (ty := .int) (C := RX0) (T := TX0) (N := 16) hx hb hts hinX0 tyX0 tyX0_ok nmX0 hown hK hP hD hS 0 rfl rfl 2 (by decide) f34 (fun _ h9 => h9) rfl (by decide +kernel) (rfl) (rfl) (Nat.le_of_ble_eq_true rfl) dX0_clear_2 (fun H locs hP hD hS => ?_)
  have hP : va_P (dC, dI) vwCl (wX x a1 a2 a3 a4 cI S F X Y 0 ar sl mu ml ck ic ds js ps ss tc) H := hP
  have hD : va_D A (wX x a1 a2 a3 a4 cI S F X Y 0 ar sl mu ml ck ic ds js ps ss tc) := hD
  refine lv_aload_n hx hb dX0_clear_5 rfl (lv_at hl 0 rfl) ?_
  refine lv_iconst (v := 0) hx hb dX0_clear_6 (by decide) ?_
  refine va_put (D := (dC, dI)) (ci := 0) (v := .int 0) (ty := .int) (C := RX0) (T := TX0) (N := 16) hx hb hts hinX0 tyX0 tyX0_ok nmX0 hown hK hP hD hS 0 rfl rfl 3 (by decide) f47 (fun _ h9 => h9) rfl (by decide +kernel) (rfl) (rfl) (Nat.le_of_ble_eq_true rfl) dX0_clear_7 (fun H locs hP hD hS => ?_)
  have hP : va_P (dC, dI) vwCl (wX x a1 a2 a3 a4 cI S F X Y 0 0 sl mu ml ck ic ds js ps ss tc) H := hP
  have hD : va_D A (wX x a1 a2 a3 a4 cI S F X Y 0 0 sl mu ml ck ic ds js ps ss tc) := hD
  refine lv_aload_n hx hb dX0_clear_10 rfl (lv_at hl 0 rfl) ?_
  refine lv_iconst (v := 0) hx hb dX0_clear_11 (by decide) ?_
  refine va_put (D := (dC, dI)) (ci := 0) (v := .int 0) (ty := .int) (C := RX0) (T := TX0) (N := 16) hx hb hts hinX0 tyX0 tyX0_ok nmX0 hown hK hP hD hS 0 rfl rfl 4 (by decide) f50 (fun _ h9 => h9) rfl (by decide +kernel) (rfl) (rfl) (Nat.le_of_ble_eq_true rfl) dX0_clear_12 (fun H locs hP hD hS => ?_)
  have hP : va_P (dC, dI) vwCl (wX x a1 a2 a3 a4 cI S F X Y 0 0 0 mu ml ck ic ds js ps ss tc) H := hP
  have hD : va_D A (wX x a1 a2 a3 a4 cI S F X Y 0 0 0 mu ml ck ic ds js ps ss tc) := hD
  refine lv_aload_n hx hb dX0_clear_15 rfl (lv_at hl 0 rfl) ?_
  refine lv_lconst (v := 0) hx hb dX0_clear_16 (by decide) ?_
  refine va_put (D := (dC, dI)) (ci := 0) (v := .long 0) (ty := .long) (C := RX0) (T := TX0) (N := 16) hx hb hts hinX0 tyX0 tyX0_ok nmX0 hown hK hP hD hS 0 rfl rfl 5 (by decide) f68 (fun _ h9 => h9) rfl (by decide +kernel) (rfl) (rfl) (Nat.le_of_ble_eq_true rfl) dX0_clear_17 (fun H locs hP hD hS => ?_)
  have hP : va_P (dC, dI) vwCl (wX x a1 a2 a3 a4 cI S F X Y 0 0 0 0 ml ck ic ds js ps ss tc) H := hP
  have hD : va_D A (wX x a1 a2 a3 a4 cI S F X Y 0 0 0 0 ml ck ic ds js ps ss tc) := hD
  refine lv_aload_n hx hb dX0_clear_20 rfl (lv_at hl 0 rfl) ?_
  refine lv_lconst (v := 0) hx hb dX0_clear_21 (by decide) ?_
  refine va_put (D := (dC, dI)) (ci := 0) (v := .long 0) (ty := .long) (C := RX0) (T := TX0) (N := 16) hx hb hts hinX0 tyX0 tyX0_ok nmX0 hown hK hP hD hS 0 rfl rfl 6 (by decide) f72 (fun _ h9 => h9) rfl (by decide +kernel) (rfl) (rfl) (Nat.le_of_ble_eq_true rfl) dX0_clear_22 (fun H locs hP hD hS => ?_)
  have hP : va_P (dC, dI) vwCl (wX x a1 a2 a3 a4 cI S F X Y 0 0 0 0 0 ck ic ds js ps ss tc) H := hP
  have hD : va_D A (wX x a1 a2 a3 a4 cI S F X Y 0 0 0 0 0 ck ic ds js ps ss tc) := hD
  refine lv_aload_n hx hb dX0_clear_25 rfl (lv_at hl 0 rfl) ?_
  refine lv_iconst (v := 0) hx hb dX0_clear_26 (by decide) ?_
  refine va_put (D := (dC, dI)) (ci := 0) (v := .int 0) (ty := .boolean) (C := RX0) (T := TX0) (N := 16) hx hb hts hinX0 tyX0 tyX0_ok nmX0 hown hK hP hD hS 0 rfl rfl 7 (by decide) f170 (fun _ h9 => h9) rfl (by decide +kernel) (rfl) (rfl) (Nat.le_of_ble_eq_true rfl) dX0_clear_27 (fun H locs hP hD hS => ?_)
  have hP : va_P (dC, dI) vwCl (wX x a1 a2 a3 a4 cI S F X Y 0 0 0 0 0 0 ic ds js ps ss tc) H := hP
  have hD : va_D A (wX x a1 a2 a3 a4 cI S F X Y 0 0 0 0 0 0 ic ds js ps ss tc) := hD
  exact W.vret hx hb hr (fun t ht hW => ⟨⟨(), rfl, trivial, ⟨by rw [ht]; exact hP, va_K.moved hW.alike hK, hD⟩⟩, hS.F ht⟩) hS.2.2 dX0_clear_30
set_option maxHeartbeats 4000000 in
set_option maxRecDepth 100000 in
theorem c_X0_invalid (l : Launch) (dC : Nat → ClassId) (dI : Nat → Nat → Nat) (x a1 a2 a3 a4 : Nat) (cI : ClassId) (S F X Y : Nat → Int32) (n : Nat) (ar sl : Int32) (mu ml : Int64) (ck : Int32) (ic : Nat) (ds js ps ss : Int64) (tc : Nat) (hn : n ≤ 40) (hFb : ∀ j, j < n → 0 ≤ (F j).toInt ∧ (F j).toInt ≤ 1000000) : Met l yX0_invalid wsX0_invalid ({ frames := 1, cells := 0, slots := 0, locals := 22 }) (va_Pc [.ref x] (fun U => va_P (dC, dI) vwCl (wX x a1 a2 a3 a4 cI S F X Y n ar sl mu ml ck ic ds js ps ss tc) U.heap ∧ va_K (dC, dI) vwCl [(cI, .int)] U)) (vp_Si (fun r => ivs F n ar.toInt (¬ ck.toInt = 0) r)) 0 0 (fun _ => False) := by
  refine Met.ofW (cc := cX0_invalid) (maxL := 2) (ret := (some .int)) (by decide) rfl ?_
  intro p e s m args below meth c s₁ B hml hv
  obtain ⟨rfl, hP, hK⟩ := hv
  have hx := B.exec
  have hb := B.bytes
  have hr := B.returns
  have hts := atoms_spec (ws := wsX0_invalid) B.pre
  have hown : s.vm.findClass RX0 = some m.cls := findClass_of_methodNamed B.named
  have hlocks := B.notSynchronized
  have hinX0 : ∀ w ∈ wsX00, w ∈ wsX0_invalid := fun w h => List.mem_cons_of_mem _ (inX0 w h)
  have f47 := hts _ (List.mem_cons_of_mem _ wl_X0_47)
  have f34 := hts _ (List.mem_cons_of_mem _ wl_X0_34)
  have f170 := hts _ (List.mem_cons_of_mem _ wl_X0_170)
  have hl := lv_entry ([.ref x]) (n := 2) (Nat.le_of_ble_eq_true rfl)
  rw [lg_entry_eq]
  generalize (lg_sl ([.ref x]) ++ List.replicate (2 - (lg_sl ([.ref x])).length) Slot.unset).toArray = ls at hl ⊢
  have hl : lv_has ls 2 [(0, .ref x)] := hl
  refine lv_aload_n hx hb dX0_invalid_0 rfl (lv_at hl 0 rfl) ?_
  refine va_get (D := (dC, dI)) (ci := 0) (v := .int ar) (C := RX0) (T := TX0) (N := 16) hx hb hts hinX0 hown hK hP 0 rfl rfl 3 (by decide) f47 (fun _ h9 => h9) rfl dX0_invalid_1 ?_
  refine lv_if_ne (tgt := 9) hx hb dX0_invalid_4 (by decide) (fun c4 => ?_) (fun c4 => ?_)
  · -- taken at 4
    have c4 : ¬ ar.toInt = 0 := fun q9 => c4 ((Int32.toInt_inj.symm).mpr q9)
    refine lv_aload_n hx hb dX0_invalid_9 rfl (lv_at hl 0 rfl) ?_
    refine va_get (D := (dC, dI)) (ci := 0) (v := .int (nI n)) (C := RX0) (T := TX0) (N := 16) hx hb hts hinX0 hown hK hP 0 rfl rfl 2 (by decide) f34 (fun _ h9 => h9) rfl dX0_invalid_10 ?_
    refine lv_iconst (v := 5) hx hb dX0_invalid_13 (by decide) ?_
    refine lv_icmp_ge (tgt := 19) hx hb dX0_invalid_14 (by decide) (fun c14 => ?_) (fun c14 => ?_)
    · -- taken at 14
      have c14 : 5 ≤ n := (nI_leI (a := 5) (b := n) (by omega) (by omega)).mp c14
      have hpk := pkf_lt F (k := n) (by omega)
      refine lv_aload_n hx hb dX0_invalid_19 rfl (lv_at hl 0 rfl) ?_
      refine vp_callSi (W.runV (As := []) (rest := []) ⟨hx, hb, hml, hown, hts⟩ (c_X0_firstRowOfGreatestForce l dC dI x a1 a2 a3 a4 cI S F X Y n ar sl mu ml ck ic ds js ps ss tc hn (by omega)) (cwV 0 hts (gV wl_X0_102 wi_X0_firstRowOfGreatestForce wv_X0_firstRowOfGreatestForce wi_X0 wc_X0_firstRowOfGreatestForce) rfl rfl rfl (by decide +kernel) ⟨Nat.le_of_ble_eq_true rfl, Nat.le_of_ble_eq_true rfl⟩) ⟨fun a U g mk q => ⟨q.1, q.2.1, va_K.moved (u := U) (U := U.calling g mk a) (Vm.Alike.refl U.vm) q.2.2⟩, va_recv hK hP (ci := 0) (q0 := 0) rfl rfl, fun U hU hW => ⟨rfl, by rw [hU]; exact hP, va_K.moved hW.alike hK⟩⟩ rfl rfl hl.1 rfl (lv_room (Nat.le_of_ble_eq_true rfl)) dX0_invalid_20 ⟨Nat.le_of_ble_eq_true rfl, Nat.le_of_ble_eq_true rfl⟩) (fun r20 h20 => ?_)
      subst h20
      refine lv_istore_n (lv' := [(1, .int (nI (pk F n))), (0, .ref x)]) hx hb dX0_invalid_23 rfl hl (by decide) rfl (fun ls hl => ?_)
      refine lv_iload_n hx hb dX0_invalid_24 rfl (lv_at hl 0 rfl) ?_
      refine lv_if_ne (tgt := 30) hx hb dX0_invalid_25 (by decide) (fun c25 => ?_) (fun c25 => ?_)
      · -- taken at 25
        have c25 : ¬ (pk F n) = 0 := fun q9 => c25 ((nI_eq (a := (pk F n)) (b := 0) (by omega) (by omega)).mpr q9)
        refine lv_iload_n hx hb dX0_invalid_30 rfl (lv_at hl 0 rfl) ?_
        refine lv_aload_n hx hb dX0_invalid_31 rfl (lv_at hl 1 rfl) ?_
        refine va_get (D := (dC, dI)) (ci := 0) (v := .int (nI n)) (C := RX0) (T := TX0) (N := 16) hx hb hts hinX0 hown hK hP 0 rfl rfl 2 (by decide) f34 (fun _ h9 => h9) rfl dX0_invalid_32 ?_
        refine lv_iconst (v := 1) hx hb dX0_invalid_35 (by decide) ?_
        refine lv_isub hx hb dX0_invalid_36 ?_
        refine W.eq (congrArg (fun z => F0 m 37 ls (.int z :: [.int (nI (pk F n))])) (nI_p1 (by omega))) ?_
        refine lv_icmp_eq (tgt := 50) hx hb dX0_invalid_37 (by decide) (fun c37 => ?_) (fun c37 => ?_)
        · -- taken at 37
          have c37 : (pk F n) = (n - 1) := (nI_eq (a := (pk F n)) (b := (n - 1)) (by omega) (by omega)).mp c37
          refine lv_aload_n hx hb dX0_invalid_50 rfl (lv_at hl 1 rfl) ?_
          refine va_get (D := (dC, dI)) (ci := 0) (v := .int ck) (C := RX0) (T := TX0) (N := 16) hx hb hts hinX0 hown hK hP 0 rfl rfl 7 (by decide) f170 (fun _ h9 => h9) rfl dX0_invalid_51 ?_
          refine lv_if_eq (tgt := 61) hx hb dX0_invalid_54 (by decide) (fun c54 => ?_) (fun c54 => ?_)
          · -- taken at 54
            have c54 : ck.toInt = 0 := (Int32.toInt_inj.symm).mp c54
            refine lv_iconst (v := 0) hx hb dX0_invalid_61 (by decide) ?_
            exact W.iret (v := 0) hx hb hr (fun t ht hW => ⟨0, rfl, Or.inr (Or.inr (Or.inr (Or.inr (Or.inr ⟨c4, by omega, c25, by first | exact Or.inl c37 | exact iv_c5 h42 c45, fun q => q c54, rfl⟩)))), ht⟩) t_nil dX0_invalid_62
          · -- not taken at 54
            have c54 : ¬ ck.toInt = 0 := fun q9 => c54 ((Int32.toInt_inj.symm).mpr q9)
            refine lv_iconst (v := 5) hx hb dX0_invalid_57 (by decide) ?_
            refine lv_goto (tgt := 62) hx hb dX0_invalid_58 (by decide) ?_
            exact W.iret (v := 5) hx hb hr (fun t ht hW => ⟨5, rfl, Or.inr (Or.inr (Or.inr (Or.inr (Or.inl ⟨c4, by omega, c25, by first | exact Or.inl c37 | exact iv_c5 h42 c45, c54, rfl⟩)))), ht⟩) t_nil dX0_invalid_62
        · -- not taken at 37
          have c37 : ¬ (pk F n) = (n - 1) := fun q9 => c37 ((nI_eq (a := (pk F n)) (b := (n - 1)) (by omega) (by omega)).mpr q9)
          refine lv_aload_n hx hb dX0_invalid_40 rfl (lv_at hl 1 rfl) ?_
          refine lv_iload_n hx hb dX0_invalid_41 rfl (lv_at hl 0 rfl) ?_
          refine vp_callSi (W.runV (As := [.int (nI (pk F n))]) (rest := []) ⟨hx, hb, hml, hown, hts⟩ (c_X0_fallsBelowHalfBehind l dC dI x a1 a2 a3 a4 cI S F X Y n ar sl mu ml ck ic ds js ps ss tc (pk F n) hn (by omega) hFb) (cwV 1 hts (gV wl_X0_174 wi_X0_fallsBelowHalfBehind wv_X0_fallsBelowHalfBehind wi_X0 wc_X0_fallsBelowHalfBehind) rfl rfl rfl (by decide +kernel) ⟨Nat.le_of_ble_eq_true rfl, Nat.le_of_ble_eq_true rfl⟩) ⟨fun a U g mk q => ⟨q.1, q.2.1, va_K.moved (u := U) (U := U.calling g mk a) (Vm.Alike.refl U.vm) q.2.2⟩, va_recv hK hP (ci := 0) (q0 := 0) rfl rfl, fun U hU hW => ⟨rfl, by rw [hU]; exact hP, va_K.moved hW.alike hK⟩⟩ rfl rfl hl.1 rfl (lv_room (Nat.le_of_ble_eq_true rfl)) dX0_invalid_42 ⟨Nat.le_of_ble_eq_true rfl, Nat.le_of_ble_eq_true rfl⟩) (fun r42 h42 => ?_)
          refine lv_if_ne (tgt := 50) hx hb dX0_invalid_45 (by decide) (fun c45 => ?_) (fun c45 => ?_)
          · -- taken at 45
            have c45 : ¬ r42.toInt = 0 := fun q9 => c45 ((Int32.toInt_inj.symm).mpr q9)
            refine lv_aload_n hx hb dX0_invalid_50 rfl (lv_at hl 1 rfl) ?_
            refine va_get (D := (dC, dI)) (ci := 0) (v := .int ck) (C := RX0) (T := TX0) (N := 16) hx hb hts hinX0 hown hK hP 0 rfl rfl 7 (by decide) f170 (fun _ h9 => h9) rfl dX0_invalid_51 ?_
            refine lv_if_eq (tgt := 61) hx hb dX0_invalid_54 (by decide) (fun c54 => ?_) (fun c54 => ?_)
            · -- taken at 54
              have c54 : ck.toInt = 0 := (Int32.toInt_inj.symm).mp c54
              refine lv_iconst (v := 0) hx hb dX0_invalid_61 (by decide) ?_
              exact W.iret (v := 0) hx hb hr (fun t ht hW => ⟨0, rfl, Or.inr (Or.inr (Or.inr (Or.inr (Or.inr ⟨c4, by omega, c25, by first | exact Or.inl c37 | exact iv_c5 h42 c45, fun q => q c54, rfl⟩)))), ht⟩) t_nil dX0_invalid_62
            · -- not taken at 54
              have c54 : ¬ ck.toInt = 0 := fun q9 => c54 ((Int32.toInt_inj.symm).mpr q9)
              refine lv_iconst (v := 5) hx hb dX0_invalid_57 (by decide) ?_
              refine lv_goto (tgt := 62) hx hb dX0_invalid_58 (by decide) ?_
              exact W.iret (v := 5) hx hb hr (fun t ht hW => ⟨5, rfl, Or.inr (Or.inr (Or.inr (Or.inr (Or.inl ⟨c4, by omega, c25, by first | exact Or.inl c37 | exact iv_c5 h42 c45, c54, rfl⟩)))), ht⟩) t_nil dX0_invalid_62
          · -- not taken at 45
            have c45 : r42.toInt = 0 := (Int32.toInt_inj.symm).mp c45
            refine lv_iconst (v := 4) hx hb dX0_invalid_48 (by decide) ?_
            exact W.iret (v := 4) hx hb hr (fun t ht hW => ⟨4, rfl, Or.inr (Or.inr (Or.inr (Or.inl ⟨c4, by omega, c25, iv_c4 c37 h42 c45, rfl⟩))), ht⟩) t_nil dX0_invalid_49
      · -- not taken at 25
        have c25 : (pk F n) = 0 := (nI_eq (a := (pk F n)) (b := 0) (by omega) (by omega)).mp c25
        refine lv_iconst (v := 3) hx hb dX0_invalid_28 (by decide) ?_
        exact W.iret (v := 3) hx hb hr (fun t ht hW => ⟨3, rfl, Or.inr (Or.inr (Or.inl ⟨c4, by omega, c25, rfl⟩)), ht⟩) t_nil dX0_invalid_29
    · -- not taken at 14
      have c14 : ¬ 5 ≤ n := fun q9 => c14 ((nI_leI (a := 5) (b := n) (by omega) (by omega)).mpr q9)
      refine lv_iconst (v := 2) hx hb dX0_invalid_17 (by decide) ?_
      exact W.iret (v := 2) hx hb hr (fun t ht hW => ⟨2, rfl, Or.inr (Or.inl ⟨c4, by omega, rfl⟩), ht⟩) t_nil dX0_invalid_18
  · -- not taken at 4
    have c4 : ar.toInt = 0 := (Int32.toInt_inj.symm).mp c4
    refine lv_iconst (v := 1) hx hb dX0_invalid_7 (by decide) ?_
    exact W.iret (v := 1) hx hb hr (fun t ht hW => ⟨1, rfl, Or.inl ⟨c4, rfl⟩, ht⟩) t_nil dX0_invalid_8
