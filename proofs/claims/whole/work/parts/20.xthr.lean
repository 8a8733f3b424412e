set_option maxHeartbeats 4000000 in
set_option maxRecDepth 100000 in
theorem c_X0_refuseNoSuchPart (l : Launch) (hL : l.stackTraces = false) (z0 : Nat) (sa : Nat → Nat) (sz : Nat) (hz : z0 ≤ sz) (p1 : Int32) : vx_Met l yX0_refuseNoSuchPart wsX0_refuseNoSuchPart ({ frames := 6, cells := 1, slots := 6, locals := 91 }) (va_Pc [.int p1] (fun U => U.heap.size = sz ∧ gl_ok z0 sa U)) (va_Qv (fun (_ : Unit) => 0 ≤ p1.toInt ∧ p1.toInt ≤ 1) (fun (_ : Unit) (_ : State) => True) (va_A [] sz)) (vx_X (fun _ : Unit => True) (fun E _ t => ((E = "java/lang/IndexOutOfBoundsException" ∧ ¬ (0 ≤ p1.toInt ∧ p1.toInt ≤ 1))) ∧ True) (va_A [] sz)) 1 6 (va_A [] sz) := by
  refine vx_ofW (cc := cX0_refuseNoSuchPart) (maxL := 1) (ret := none) (by decide) rfl ?_
  intro p e s m args below meth c s₁ B hml htab hv
  obtain ⟨rfl, hsz, hG⟩ := hv
  have hx := B.exec
  have hb := B.bytes
  have hr := B.returns
  have hts := atoms_spec (ws := wsX0_refuseNoSuchPart) B.pre
  have hown : s.vm.findClass RX0 = some m.cls := findClass_of_methodNamed B.named
  have hlocks := B.notSynchronized
  have hP : va_P ((fun _ => (0 : ClassId)), (fun _ _ => 0)) vwCl [] s.heap := nil_P
  have hD0 : va_D (fun q => z0 ≤ q) [] := nil_D
  subst hsz
  have hD := hD0.self (sz := s.heap.size)
  have hAz := az_of hD0 hz
  generalize hAe : va_A [] s.heap.size = A at hD hAz ⊢
  have hA : ∀ q : Nat, s.heap.size ≤ q → A q := fun q h => by rw [← hAe]; exact Or.inr h
  have hS : va_S A s.heap s.heap [] := va_S.rf
  have hZU := hG.1.narrow hAz
  have hZN := hG.2.1.narrow hAz
  have hl := lv_entry ([.int p1]) (n := 1) (Nat.le_of_ble_eq_true rfl)
  rw [lg_entry_eq]
  generalize (lg_sl ([.int p1]) ++ List.replicate (1 - (lg_sl ([.int p1])).length) Slot.unset).toArray = ls at hl ⊢
  have hl : lv_has ls 1 [(0, .int p1)] := hl
  refine lv_iload_n hx hb dX0_refuseNoSuchPart_0 rfl (lv_at hl 0 rfl) ?_
  refine lv_iconst (v := 0) hx hb dX0_refuseNoSuchPart_1 (by decide) ?_
  refine lv_iconst (v := 1) hx hb dX0_refuseNoSuchPart_2 (by decide) ?_
  refine vp_callSi (W.runS (As := [.int p1, .int 0, .int 1]) (rest := []) ⟨hx, hb, hml, hown, hts⟩ (c_X0_isWithin l p1 0 1 0 1 (by decide) (by decide)) (va_cwS 3 hts (gS wl_X0_23 ws_X0_isWithin wi_X0 wc_X0_isWithin) rfl rfl rfl (by decide +kernel) ⟨Nat.le_of_ble_eq_true rfl, Nat.le_of_ble_eq_true rfl⟩) ⟨fun _ _ _ _ q => q, fun U hU hW => ⟨rfl, trivial⟩⟩ rfl rfl hl.1 rfl (lv_room (Nat.le_of_ble_eq_true rfl)) dX0_refuseNoSuchPart_3 ⟨Nat.le_of_ble_eq_true rfl, Nat.le_of_ble_eq_true rfl⟩) (fun r3 h3 => ?_)
  subst h3
  refine lv_if_ne (tgt := 19) hx hb dX0_refuseNoSuchPart_6 (by decide) (fun c6 => ?_) (fun c6 => ?_)
  · -- taken at 6
    have c6 := bI_ne0.mp c6
    refine vx_ret ?_
    refine W.widen (k := 1) (n := 6) (Nat.le_of_ble_eq_true rfl) (Nat.le_of_ble_eq_true rfl) ?_
    exact W.vret hx hb hr (fun t ht hW => ⟨⟨(), rfl, c6, trivial⟩, hS.F ht⟩) hS.2.2 dX0_refuseNoSuchPart_19
  · -- not taken at 6
    have c6 := bI_eq0.mp c6
    exact vx_throwS (own := RX0) (cls := "java/lang/IndexOutOfBoundsException") (names := ["java/lang/RuntimeException", "java/lang/Exception"]) hx hb hL hown (by decide +kernel) (by decide +kernel) (hts _ (List.mem_cons_of_mem _ wl_X0_95)) (hts _ (List.mem_cons_of_mem _ wi_IndexOutOfBounds)) (hG.2.2.1 (178, "a fraction's parts are 0 and 1") (by decide +kernel)) (vx_hat (L := vx_atS RX0 99 "java/lang/IndexOutOfBoundsException" ["java/lang/RuntimeException", "java/lang/Exception"]) (B := [.castable "java/lang/IndexOutOfBoundsException" "java/lang/IndexOutOfBoundsException", .declares ⟨"java/lang/RuntimeException", "<init>", "(Ljava/lang/String;)V"⟩, .declares ⟨"java/lang/Exception", "<init>", "(Ljava/lang/String;)V"⟩, .declares ⟨"java/lang/Throwable", "<init>", "(Ljava/lang/String;)V"⟩]) (fun w hw => hts w (List.mem_cons_of_mem _ (xa_IndexOutOfBounds w hw))) (by decide +kernel) (vx_c (va_Nw.use rfl (hG.2.2.2.1 ("java/lang/IndexOutOfBoundsException", "java/lang/IndexOutOfBoundsException") (by decide +kernel))) (vx_c (va_Nw.use rfl (hG.2.2.2.2.2 ⟨"java/lang/RuntimeException", "<init>", "(Ljava/lang/String;)V"⟩ (by decide +kernel))) (vx_c (va_Nw.use rfl (hG.2.2.2.2.2 ⟨"java/lang/Exception", "<init>", "(Ljava/lang/String;)V"⟩ (by decide +kernel))) (vx_c (va_Nw.use rfl (hG.2.2.2.2.2 ⟨"java/lang/Throwable", "<init>", "(Ljava/lang/String;)V"⟩ (by decide +kernel))) (vx_n)))))) (by decide +kernel) hZU hZN hS (hl.1.trans hml.symm) dX0_refuseNoSuchPart_9 dX0_refuseNoSuchPart_12 dX0_refuseNoSuchPart_13 dX0_refuseNoSuchPart_15 dX0_refuseNoSuchPart_18 (fun x hx => (htab x hx).elim) (Nat.le_of_ble_eq_true rfl) (Nat.le_of_ble_eq_true rfl) (Nat.le_of_ble_eq_true rfl) (Nat.le_of_ble_eq_true rfl) hlocks (fun t ha hsz hk => ⟨(), trivial, ⟨⟨rfl, c6⟩, trivial⟩, Nat.le_trans hS.1 hsz, fun q h1 h2 => (hk q (Nat.lt_of_lt_of_le h1 hS.1)).trans (hS.2.1 q h1 h2)⟩) hS.2.2 (Nat.le_of_ble_eq_true rfl) (Nat.le_of_ble_eq_true rfl)
set_option maxHeartbeats 4000000 in
set_option maxRecDepth 100000 in
theorem c_X0_refuseNoSuchRule (l : Launch) (hL : l.stackTraces = false) (z0 : Nat) (sa : Nat → Nat) (sz : Nat) (hz : z0 ≤ sz) (p1 : Int32) : vx_Met l yX0_refuseNoSuchRule wsX0_refuseNoSuchRule ({ frames := 6, cells := 1, slots := 6, locals := 91 }) (va_Pc [.int p1] (fun U => U.heap.size = sz ∧ gl_ok z0 sa U)) (va_Qv (fun (_ : Unit) => 0 ≤ p1.toInt ∧ p1.toInt ≤ 2) (fun (_ : Unit) (_ : State) => True) (va_A [] sz)) (vx_X (fun _ : Unit => True) (fun E _ t => ((E = "java/lang/IndexOutOfBoundsException" ∧ ¬ (0 ≤ p1.toInt ∧ p1.toInt ≤ 2))) ∧ True) (va_A [] sz)) 1 6 (va_A [] sz) := by
  refine vx_ofW (cc := cX0_refuseNoSuchRule) (maxL := 1) (ret := none) (by decide) rfl ?_
  intro p e s m args below meth c s₁ B hml htab hv
  obtain ⟨rfl, hsz, hG⟩ := hv
  have hx := B.exec
  have hb := B.bytes
  have hr := B.returns
  have hts := atoms_spec (ws := wsX0_refuseNoSuchRule) B.pre
  have hown : s.vm.findClass RX0 = some m.cls := findClass_of_methodNamed B.named
  have hlocks := B.notSynchronized
  have hP : va_P ((fun _ => (0 : ClassId)), (fun _ _ => 0)) vwCl [] s.heap := nil_P
  have hD0 : va_D (fun q => z0 ≤ q) [] := nil_D
  subst hsz
  have hD := hD0.self (sz := s.heap.size)
  have hAz := az_of hD0 hz
  generalize hAe : va_A [] s.heap.size = A at hD hAz ⊢
  have hA : ∀ q : Nat, s.heap.size ≤ q → A q := fun q h => by rw [← hAe]; exact Or.inr h
  have hS : va_S A s.heap s.heap [] := va_S.rf
  have hZU := hG.1.narrow hAz
  have hZN := hG.2.1.narrow hAz
  have hl := lv_entry ([.int p1]) (n := 1) (Nat.le_of_ble_eq_true rfl)
  rw [lg_entry_eq]
  generalize (lg_sl ([.int p1]) ++ List.replicate (1 - (lg_sl ([.int p1])).length) Slot.unset).toArray = ls at hl ⊢
  have hl : lv_has ls 1 [(0, .int p1)] := hl
  refine lv_iload_n hx hb dX0_refuseNoSuchRule_0 rfl (lv_at hl 0 rfl) ?_
  refine lv_iconst (v := 0) hx hb dX0_refuseNoSuchRule_1 (by decide) ?_
  refine lv_iconst (v := 2) hx hb dX0_refuseNoSuchRule_2 (by decide) ?_
  refine vp_callSi (W.runS (As := [.int p1, .int 0, .int 2]) (rest := []) ⟨hx, hb, hml, hown, hts⟩ (c_X0_isWithin l p1 0 2 0 2 (by decide) (by decide)) (va_cwS 3 hts (gS wl_X0_23 ws_X0_isWithin wi_X0 wc_X0_isWithin) rfl rfl rfl (by decide +kernel) ⟨Nat.le_of_ble_eq_true rfl, Nat.le_of_ble_eq_true rfl⟩) ⟨fun _ _ _ _ q => q, fun U hU hW => ⟨rfl, trivial⟩⟩ rfl rfl hl.1 rfl (lv_room (Nat.le_of_ble_eq_true rfl)) dX0_refuseNoSuchRule_3 ⟨Nat.le_of_ble_eq_true rfl, Nat.le_of_ble_eq_true rfl⟩) (fun r3 h3 => ?_)
  subst h3
  refine lv_if_ne (tgt := 19) hx hb dX0_refuseNoSuchRule_6 (by decide) (fun c6 => ?_) (fun c6 => ?_)
  · -- taken at 6
    have c6 := bI_ne0.mp c6
    refine vx_ret ?_
    refine W.widen (k := 1) (n := 6) (Nat.le_of_ble_eq_true rfl) (Nat.le_of_ble_eq_true rfl) ?_
    exact W.vret hx hb hr (fun t ht hW => ⟨⟨(), rfl, c6, trivial⟩, hS.F ht⟩) hS.2.2 dX0_refuseNoSuchRule_19
  · -- not taken at 6
    have c6 := bI_eq0.mp c6
    exact vx_throwS (own := RX0) (cls := "java/lang/IndexOutOfBoundsException") (names := ["java/lang/RuntimeException", "java/lang/Exception"]) hx hb hL hown (by decide +kernel) (by decide +kernel) (hts _ (List.mem_cons_of_mem _ wl_X0_95)) (hts _ (List.mem_cons_of_mem _ wi_IndexOutOfBounds)) (hG.2.2.1 (180, "the rules are 0, 1 and 2") (by decide +kernel)) (vx_hat (L := vx_atS RX0 99 "java/lang/IndexOutOfBoundsException" ["java/lang/RuntimeException", "java/lang/Exception"]) (B := [.castable "java/lang/IndexOutOfBoundsException" "java/lang/IndexOutOfBoundsException", .declares ⟨"java/lang/RuntimeException", "<init>", "(Ljava/lang/String;)V"⟩, .declares ⟨"java/lang/Exception", "<init>", "(Ljava/lang/String;)V"⟩, .declares ⟨"java/lang/Throwable", "<init>", "(Ljava/lang/String;)V"⟩]) (fun w hw => hts w (List.mem_cons_of_mem _ (xa_IndexOutOfBounds w hw))) (by decide +kernel) (vx_c (va_Nw.use rfl (hG.2.2.2.1 ("java/lang/IndexOutOfBoundsException", "java/lang/IndexOutOfBoundsException") (by decide +kernel))) (vx_c (va_Nw.use rfl (hG.2.2.2.2.2 ⟨"java/lang/RuntimeException", "<init>", "(Ljava/lang/String;)V"⟩ (by decide +kernel))) (vx_c (va_Nw.use rfl (hG.2.2.2.2.2 ⟨"java/lang/Exception", "<init>", "(Ljava/lang/String;)V"⟩ (by decide +kernel))) (vx_c (va_Nw.use rfl (hG.2.2.2.2.2 ⟨"java/lang/Throwable", "<init>", "(Ljava/lang/String;)V"⟩ (by decide +kernel))) (vx_n)))))) (by decide +kernel) hZU hZN hS (hl.1.trans hml.symm) dX0_refuseNoSuchRule_9 dX0_refuseNoSuchRule_12 dX0_refuseNoSuchRule_13 dX0_refuseNoSuchRule_15 dX0_refuseNoSuchRule_18 (fun x hx => (htab x hx).elim) (Nat.le_of_ble_eq_true rfl) (Nat.le_of_ble_eq_true rfl) (Nat.le_of_ble_eq_true rfl) (Nat.le_of_ble_eq_true rfl) hlocks (fun t ha hsz hk => ⟨(), trivial, ⟨⟨rfl, c6⟩, trivial⟩, Nat.le_trans hS.1 hsz, fun q h1 h2 => (hk q (Nat.lt_of_lt_of_le h1 hS.1)).trans (hS.2.1 q h1 h2)⟩) hS.2.2 (Nat.le_of_ble_eq_true rfl) (Nat.le_of_ble_eq_true rfl)
set_option maxHeartbeats 4000000 in
set_option maxRecDepth 100000 in
theorem c_X0_row (l : Launch) (hL : l.stackTraces = false) (dC : Nat → ClassId) (dI : Nat → Nat → Nat) (z0 : Nat) (sa : Nat → Nat) (sz : Nat) (hz : z0 ≤ sz) (x a1 a2 a3 a4 : Nat) (cI : ClassId) (S F X Y : Nat → Int32) (n : Nat) (ar sl : Int32) (mu ml : Int64) (ck : Int32) (ic : Nat) (ds js ps ss : Int64) (tc : Nat) (p1 p2 : Int32) (hn : n ≤ 40) : vx_Met l yX0_row wsX0_row ({ frames := 6, cells := 1, slots := 6, locals := 91 }) (va_Pc [.ref x, .int p1, .int p2] (fun U => U.heap.size = sz ∧ va_P (dC, dI) vwCl (wX x a1 a2 a3 a4 cI S F X Y n ar sl mu ml ck ic ds js ps ss tc) U.heap ∧ va_K (dC, dI) vwCl [(cI, .int)] U ∧ va_D (fun q => z0 ≤ q) (wX x a1 a2 a3 a4 cI S F X Y n ar sl mu ml ck ic ds js ps ss tc) ∧ gl_ok z0 sa U)) (va_Qi (fun r (_ : Unit) => kd4 (ok_row n S p1 p2) (n < 40) True True = 0 ∧ r = nI (n + 1)) (fun (_ : Unit) t => at_w dC dI cI (va_A (wX x a1 a2 a3 a4 cI S F X Y n ar sl mu ml ck ic ds js ps ss tc) sz) (wX x a1 a2 a3 a4 cI (upd S n p1) (upd F n p2) X Y (n + 1) ar sl mu ml ck ic ds js ps ss tc) t) (va_A (wX x a1 a2 a3 a4 cI S F X Y n ar sl mu ml ck ic ds js ps ss tc) sz)) (vx_X (fun _ : Unit => True) (fun E _ t => ((E = "java/lang/IllegalArgumentException" ∧ kd4 (ok_row n S p1 p2) (n < 40) True True = 1) ∨ (E = "java/lang/UnsupportedOperationException" ∧ kd4 (ok_row n S p1 p2) (n < 40) True True = 2)) ∧ at_w dC dI cI (va_A (wX x a1 a2 a3 a4 cI S F X Y n ar sl mu ml ck ic ds js ps ss tc) sz) (wX x a1 a2 a3 a4 cI S F X Y n ar sl mu ml ck ic ds js ps ss tc) t) (va_A (wX x a1 a2 a3 a4 cI S F X Y n ar sl mu ml ck ic ds js ps ss tc) sz)) 1 6 (va_A (wX x a1 a2 a3 a4 cI S F X Y n ar sl mu ml ck ic ds js ps ss tc) sz) := by
  refine vx_ofW (cc := cX0_row) (maxL := 3) (ret := (some .int)) (by decide) rfl ?_
  intro p e s m args below meth c s₁ B hml htab hv
  obtain ⟨rfl, hsz, hP, hK, hD0, hG⟩ := hv
  have hx := B.exec
  have hb := B.bytes
  have hr := B.returns
  have hts := atoms_spec (ws := wsX0_row) B.pre
  have hown : s.vm.findClass RX0 = some m.cls := findClass_of_methodNamed B.named
  have hlocks := B.notSynchronized
  have hinX0 : ∀ w ∈ wsX00, w ∈ wsX0_row := fun w h => List.mem_cons_of_mem _ (inX0 w h)
  have k22 := hts _ (List.mem_cons_of_mem _ wl_X0_22)
  have f34 := hts _ (List.mem_cons_of_mem _ wl_X0_34)
  have f9 := hts _ (List.mem_cons_of_mem _ wl_X0_9)
  have f13 := hts _ (List.mem_cons_of_mem _ wl_X0_13)
  subst hsz
  have hD := hD0.self (sz := s.heap.size)
  have hAz := az_of hD0 hz
  generalize hAe : va_A (wX x a1 a2 a3 a4 cI S F X Y n ar sl mu ml ck ic ds js ps ss tc) s.heap.size = A at hD hAz ⊢
  have hA : ∀ q : Nat, s.heap.size ≤ q → A q := fun q h => by rw [← hAe]; exact Or.inr h
  have hS : va_S A s.heap s.heap [] := va_S.rf
  have hZU := hG.1.narrow hAz
  have hZN := hG.2.1.narrow hAz
  have hl := lv_entry ([.ref x, .int p1, .int p2]) (n := 3) (Nat.le_of_ble_eq_true rfl)
  rw [lg_entry_eq]
  generalize (lg_sl ([.ref x, .int p1, .int p2]) ++ List.replicate (3 - (lg_sl ([.ref x, .int p1, .int p2])).length) Slot.unset).toArray = ls at hl ⊢
  have hl : lv_has ls 3 [(0, .ref x), (1, .int p1), (2, .int p2)] := hl
  refine lv_iload_n hx hb dX0_row_0 rfl (lv_at hl 1 rfl) ?_
  refine lv_iconst (v := 0) hx hb dX0_row_1 (by decide) ?_
  refine lv_ldc (v := 1000000) hx hb hown k22 dX0_row_2 ?_
  refine vp_callSi (W.runS (As := [.int p1, .int 0, .int 1000000]) (rest := []) ⟨hx, hb, hml, hown, hts⟩ (c_X0_isWithin l p1 0 1000000 0 1000000 (by decide) (by decide)) (va_cwS 3 hts (gS wl_X0_23 ws_X0_isWithin wi_X0 wc_X0_isWithin) rfl rfl rfl (by decide +kernel) ⟨Nat.le_of_ble_eq_true rfl, Nat.le_of_ble_eq_true rfl⟩) ⟨fun _ _ _ _ q => q, fun U hU hW => ⟨rfl, trivial⟩⟩ rfl rfl hl.1 rfl (lv_room (Nat.le_of_ble_eq_true rfl)) dX0_row_4 ⟨Nat.le_of_ble_eq_true rfl, Nat.le_of_ble_eq_true rfl⟩) (fun r4 h4 => ?_)
  subst h4
  refine lv_if_eq (tgt := 20) hx hb dX0_row_7 (by decide) (fun c7 => ?_) (fun c7 => ?_)
  · -- taken at 7
    have c7 := bI_eq0.mp c7
    exact vx_throwS (own := RX0) (cls := "java/lang/IllegalArgumentException") (names := ["java/lang/RuntimeException", "java/lang/Exception"]) hx hb hL hown (by decide +kernel) (by decide +kernel) (hts _ (List.mem_cons_of_mem _ wl_X0_27)) (hts _ (List.mem_cons_of_mem _ wi_IllegalArgument)) (hG.2.2.1 (29, "strain and force are 0 to 1,000,000") (by decide +kernel)) (vx_hat (L := vx_atS RX0 31 "java/lang/IllegalArgumentException" ["java/lang/RuntimeException", "java/lang/Exception"]) (B := [.castable "java/lang/IllegalArgumentException" "java/lang/IllegalArgumentException", .declares ⟨"java/lang/RuntimeException", "<init>", "(Ljava/lang/String;)V"⟩, .declares ⟨"java/lang/Exception", "<init>", "(Ljava/lang/String;)V"⟩, .declares ⟨"java/lang/Throwable", "<init>", "(Ljava/lang/String;)V"⟩]) (fun w hw => hts w (List.mem_cons_of_mem _ (xa_IllegalArgument w hw))) (by decide +kernel) (vx_c (va_Nw.use rfl (hG.2.2.2.1 ("java/lang/IllegalArgumentException", "java/lang/IllegalArgumentException") (by decide +kernel))) (vx_c (va_Nw.use rfl (hG.2.2.2.2.2 ⟨"java/lang/RuntimeException", "<init>", "(Ljava/lang/String;)V"⟩ (by decide +kernel))) (vx_c (va_Nw.use rfl (hG.2.2.2.2.2 ⟨"java/lang/Exception", "<init>", "(Ljava/lang/String;)V"⟩ (by decide +kernel))) (vx_c (va_Nw.use rfl (hG.2.2.2.2.2 ⟨"java/lang/Throwable", "<init>", "(Ljava/lang/String;)V"⟩ (by decide +kernel))) (vx_n)))))) (by decide +kernel) hZU hZN hS (hl.1.trans hml.symm) dX0_row_20 dX0_row_23 dX0_row_24 dX0_row_26 dX0_row_29 (fun x hx => (htab x hx).elim) (Nat.le_of_ble_eq_true rfl) (Nat.le_of_ble_eq_true rfl) (Nat.le_of_ble_eq_true rfl) (Nat.le_of_ble_eq_true rfl) hlocks (fun t ha hsz hk => ⟨(), trivial, ⟨Or.inl ⟨rfl, kd_1 (by unfold ok_row; omega)⟩, hP.kept (fun k q hq => hk q.1 (hP k q hq).lt), va_K.moved ha hK, hD⟩, Nat.le_trans hS.1 hsz, fun q h1 h2 => (hk q (Nat.lt_of_lt_of_le h1 hS.1)).trans (hS.2.1 q h1 h2)⟩) hS.2.2 (Nat.le_of_ble_eq_true rfl) (Nat.le_of_ble_eq_true rfl)
  · -- not taken at 7
    have c7 := bI_ne0.mp c7
    refine lv_iload_n hx hb dX0_row_10 rfl (lv_at hl 2 rfl) ?_
    refine lv_iconst (v := 0) hx hb dX0_row_11 (by decide) ?_
    refine lv_ldc (v := 1000000) hx hb hown k22 dX0_row_12 ?_
    refine vp_callSi (W.runS (As := [.int p2, .int 0, .int 1000000]) (rest := []) ⟨hx, hb, hml, hown, hts⟩ (c_X0_isWithin l p2 0 1000000 0 1000000 (by decide) (by decide)) (va_cwS 3 hts (gS wl_X0_23 ws_X0_isWithin wi_X0 wc_X0_isWithin) rfl rfl rfl (by decide +kernel) ⟨Nat.le_of_ble_eq_true rfl, Nat.le_of_ble_eq_true rfl⟩) ⟨fun _ _ _ _ q => q, fun U hU hW => ⟨rfl, trivial⟩⟩ rfl rfl hl.1 rfl (lv_room (Nat.le_of_ble_eq_true rfl)) dX0_row_14 ⟨Nat.le_of_ble_eq_true rfl, Nat.le_of_ble_eq_true rfl⟩) (fun r14 h14 => ?_)
    subst h14
    refine lv_if_ne (tgt := 30) hx hb dX0_row_17 (by decide) (fun c17 => ?_) (fun c17 => ?_)
    · -- taken at 17
      have c17 := bI_ne0.mp c17
      refine lv_aload_n hx hb dX0_row_30 rfl (lv_at hl 0 rfl) ?_
      refine va_get (D := (dC, dI)) (ci := 0) (v := .int (nI n)) (C := RX0) (T := TX0) (N := 16) hx hb hts hinX0 hown hK hP 0 rfl rfl 2 (by decide) f34 (fun _ h9 => h9) rfl dX0_row_31 ?_
      refine lv_if_le (tgt := 62) hx hb dX0_row_34 (by decide) (fun c34 => ?_) (fun c34 => ?_)
      · -- taken at 34
        have c34 : n ≤ 0 := (nI_leI (a := n) (b := 0) (by omega) (by omega)).mp c34
        refine lv_aload_n hx hb dX0_row_62 rfl (lv_at hl 0 rfl) ?_
        refine va_get (D := (dC, dI)) (ci := 0) (v := .int (nI n)) (C := RX0) (T := TX0) (N := 16) hx hb hts hinX0 hown hK hP 0 rfl rfl 2 (by decide) f34 (fun _ h9 => h9) rfl dX0_row_63 ?_
        refine lv_bipush (v := 40) hx hb dX0_row_66 (by decide) ?_
        refine lv_icmp_lt (tgt := 81) hx hb dX0_row_68 (by decide) (fun c68 => ?_) (fun c68 => ?_)
        · -- taken at 68
          have c68 : n < 40 := (nI_ltI (a := n) (b := 40) (by omega) (by omega)).mp c68
          refine lv_aload_n hx hb dX0_row_81 rfl (lv_at hl 0 rfl) ?_
          refine va_get (D := (dC, dI)) (ci := 0) (v := .ref a1) (C := RX0) (T := TX0) (N := 16) hx hb hts hinX0 hown hK hP 0 rfl rfl 0 (by decide) f9 (fun _ h9 => h9) rfl dX0_row_82 ?_
          refine lv_aload_n hx hb dX0_row_85 rfl (lv_at hl 0 rfl) ?_
          refine va_get (D := (dC, dI)) (ci := 0) (v := .int (nI n)) (C := RX0) (T := TX0) (N := 16) hx hb hts hinX0 hown hK hP 0 rfl rfl 2 (by decide) f34 (fun _ h9 => h9) rfl dX0_row_86 ?_
          refine lv_iload_n hx hb dX0_row_89 rfl (lv_at hl 1 rfl) ?_
          refine va_iast (D := (dC, dI)) hx hb hK hP hD hS 1 0 rfl rfl (vp_in_nI (show n < 40 by omega) (by decide)) dX0_row_90 (fun H locs hP hD hS => ?_)
          rw [show (nI n : Int32).toNatClampNeg = n from nI_clamp (show n < 2 ^ 31 by omega)] at hP hD
          have hP : va_P (dC, dI) vwCl (wX x a1 a2 a3 a4 cI (upd S n p1) F X Y n ar sl mu ml ck ic ds js ps ss tc) H := hP
          have hD : va_D A (wX x a1 a2 a3 a4 cI (upd S n p1) F X Y n ar sl mu ml ck ic ds js ps ss tc) := hD
          refine lv_aload_n hx hb dX0_row_91 rfl (lv_at hl 0 rfl) ?_
          refine va_get (D := (dC, dI)) (ci := 0) (v := .ref a2) (C := RX0) (T := TX0) (N := 16) hx hb hts hinX0 hown hK hP 0 rfl rfl 1 (by decide) f13 (fun _ h9 => h9) rfl dX0_row_92 ?_
          refine lv_aload_n hx hb dX0_row_95 rfl (lv_at hl 0 rfl) ?_
          refine va_get (D := (dC, dI)) (ci := 0) (v := .int (nI n)) (C := RX0) (T := TX0) (N := 16) hx hb hts hinX0 hown hK hP 0 rfl rfl 2 (by decide) f34 (fun _ h9 => h9) rfl dX0_row_96 ?_
          refine lv_iload_n hx hb dX0_row_99 rfl (lv_at hl 2 rfl) ?_
          refine va_iast (D := (dC, dI)) hx hb hK hP hD hS 2 0 rfl rfl (vp_in_nI (show n < 40 by omega) (by decide)) dX0_row_100 (fun H locs hP hD hS => ?_)
          rw [show (nI n : Int32).toNatClampNeg = n from nI_clamp (show n < 2 ^ 31 by omega)] at hP hD
          have hP : va_P (dC, dI) vwCl (wX x a1 a2 a3 a4 cI (upd S n p1) (upd F n p2) X Y n ar sl mu ml ck ic ds js ps ss tc) H := hP
          have hD : va_D A (wX x a1 a2 a3 a4 cI (upd S n p1) (upd F n p2) X Y n ar sl mu ml ck ic ds js ps ss tc) := hD
          refine lv_aload_n hx hb dX0_row_101 rfl (lv_at hl 0 rfl) ?_
          refine lv_dup hx hb dX0_row_102 rfl ?_
          refine va_get (D := (dC, dI)) (ci := 0) (v := .int (nI n)) (C := RX0) (T := TX0) (N := 16) hx hb hts hinX0 hown hK hP 0 rfl rfl 2 (by decide) f34 (fun _ h9 => h9) rfl dX0_row_103 ?_
          refine lv_iconst (v := 1) hx hb dX0_row_106 (by decide) ?_
          refine lv_iadd hx hb dX0_row_107 ?_
          refine W.eq (congrArg (fun z => F0 m 108 ls (.int z :: [.ref x])) (nI_1 n)) ?_
          refine va_put (D := (dC, dI)) (ci := 0) (v := .int (nI (n + 1))) (ty := .int) (C := RX0) (T := TX0) (N := 16) hx hb hts hinX0 tyX0 tyX0_ok nmX0 hown hK hP hD hS 0 rfl rfl 2 (by decide) f34 (fun _ h9 => h9) rfl (by decide +kernel) (rfl) (rfl) (Nat.le_of_ble_eq_true rfl) dX0_row_108 (fun H locs hP hD hS => ?_)
          have hP : va_P (dC, dI) vwCl (wX x a1 a2 a3 a4 cI (upd S n p1) (upd F n p2) X Y (n + 1) ar sl mu ml ck ic ds js ps ss tc) H := hP
          have hD : va_D A (wX x a1 a2 a3 a4 cI (upd S n p1) (upd F n p2) X Y (n + 1) ar sl mu ml ck ic ds js ps ss tc) := hD
          refine lv_aload_n hx hb dX0_row_111 rfl (lv_at hl 0 rfl) ?_
          refine va_get (D := (dC, dI)) (ci := 0) (v := .int (nI (n + 1))) (C := RX0) (T := TX0) (N := 16) hx hb hts hinX0 hown hK hP 0 rfl rfl 2 (by decide) f34 (fun _ h9 => h9) rfl dX0_row_112 ?_
          refine vx_ret ?_
          refine W.widen (k := 1) (n := 6) (Nat.le_of_ble_eq_true rfl) (Nat.le_of_ble_eq_true rfl) ?_
          exact W.iret (v := nI (n + 1)) hx hb hr (fun t ht hW => ⟨⟨nI (n + 1), (), rfl, ⟨kd_0 (by unfold ok_row; omega) (by omega) trivial trivial, rfl⟩, ⟨by rw [ht]; exact hP, va_K.moved hW.alike hK, hD⟩⟩, hS.F ht⟩) hS.2.2 dX0_row_115
        · -- not taken at 68
          have c68 : ¬ n < 40 := fun q9 => c68 ((nI_ltI (a := n) (b := 40) (by omega) (by omega)).mpr q9)
          exact vx_throwS (own := RX0) (cls := "java/lang/UnsupportedOperationException") (names := ["java/lang/RuntimeException", "java/lang/Exception"]) hx hb hL hown (by decide +kernel) (by decide +kernel) (hts _ (List.mem_cons_of_mem _ wl_X0_40)) (hts _ (List.mem_cons_of_mem _ wi_UnsupportedOperation)) (hG.2.2.1 (42, "there is room for 40 rows") (by decide +kernel)) (vx_hat (L := vx_atS RX0 44 "java/lang/UnsupportedOperationException" ["java/lang/RuntimeException", "java/lang/Exception"]) (B := [.castable "java/lang/UnsupportedOperationException" "java/lang/UnsupportedOperationException", .declares ⟨"java/lang/RuntimeException", "<init>", "(Ljava/lang/String;)V"⟩, .declares ⟨"java/lang/Exception", "<init>", "(Ljava/lang/String;)V"⟩, .declares ⟨"java/lang/Throwable", "<init>", "(Ljava/lang/String;)V"⟩]) (fun w hw => hts w (List.mem_cons_of_mem _ (xa_UnsupportedOperation w hw))) (by decide +kernel) (vx_c (va_Nw.use rfl (hG.2.2.2.1 ("java/lang/UnsupportedOperationException", "java/lang/UnsupportedOperationException") (by decide +kernel))) (vx_c (va_Nw.use rfl (hG.2.2.2.2.2 ⟨"java/lang/RuntimeException", "<init>", "(Ljava/lang/String;)V"⟩ (by decide +kernel))) (vx_c (va_Nw.use rfl (hG.2.2.2.2.2 ⟨"java/lang/Exception", "<init>", "(Ljava/lang/String;)V"⟩ (by decide +kernel))) (vx_c (va_Nw.use rfl (hG.2.2.2.2.2 ⟨"java/lang/Throwable", "<init>", "(Ljava/lang/String;)V"⟩ (by decide +kernel))) (vx_n)))))) (by decide +kernel) hZU hZN hS (hl.1.trans hml.symm) dX0_row_71 dX0_row_74 dX0_row_75 dX0_row_77 dX0_row_80 (fun x hx => (htab x hx).elim) (Nat.le_of_ble_eq_true rfl) (Nat.le_of_ble_eq_true rfl) (Nat.le_of_ble_eq_true rfl) (Nat.le_of_ble_eq_true rfl) hlocks (fun t ha hsz hk => ⟨(), trivial, ⟨Or.inr (⟨rfl, kd_2 (by unfold ok_row; omega) (by omega)⟩), hP.kept (fun k q hq => hk q.1 (hP k q hq).lt), va_K.moved ha hK, hD⟩, Nat.le_trans hS.1 hsz, fun q h1 h2 => (hk q (Nat.lt_of_lt_of_le h1 hS.1)).trans (hS.2.1 q h1 h2)⟩) hS.2.2 (Nat.le_of_ble_eq_true rfl) (Nat.le_of_ble_eq_true rfl)
      · -- not taken at 34
        have c34 : ¬ n ≤ 0 := fun q9 => c34 ((nI_leI (a := n) (b := 0) (by omega) (by omega)).mpr q9)
        refine lv_iload_n hx hb dX0_row_37 rfl (lv_at hl 1 rfl) ?_
        refine lv_aload_n hx hb dX0_row_38 rfl (lv_at hl 0 rfl) ?_
        refine va_get (D := (dC, dI)) (ci := 0) (v := .ref a1) (C := RX0) (T := TX0) (N := 16) hx hb hts hinX0 hown hK hP 0 rfl rfl 0 (by decide) f9 (fun _ h9 => h9) rfl dX0_row_39 ?_
        refine lv_aload_n hx hb dX0_row_42 rfl (lv_at hl 0 rfl) ?_
        refine va_get (D := (dC, dI)) (ci := 0) (v := .int (nI n)) (C := RX0) (T := TX0) (N := 16) hx hb hts hinX0 hown hK hP 0 rfl rfl 2 (by decide) f34 (fun _ h9 => h9) rfl dX0_row_43 ?_
        refine lv_iconst (v := 1) hx hb dX0_row_46 (by decide) ?_
        refine lv_isub hx hb dX0_row_47 ?_
        refine va_iald (D := (dC, dI)) hx hb hK hP 1 0 rfl rfl (by rw [nI_p1 (show 1 ≤ n by omega)]; exact vp_in_nI (show n - 1 < 40 by omega) (by decide)) dX0_row_48 ?_
        refine W.eq (congrArg (fun z => F0 m 49 ls (.int z :: [.int p1])) (congrArg S (show ((nI n) - 1).toNatClampNeg = n - 1 from by rw [nI_p1 (show 1 ≤ n by omega)]; exact nI_clamp (show n - 1 < 2 ^ 31 by omega)))) ?_
        refine lv_icmp_gt (tgt := 62) hx hb dX0_row_49 (by decide) (fun c49 => ?_) (fun c49 => ?_)
        · -- taken at 49
          have c49 : (S (n - 1)).toInt < p1.toInt := (Int32.lt_iff_toInt_lt).mp c49
          refine lv_aload_n hx hb dX0_row_62 rfl (lv_at hl 0 rfl) ?_
          refine va_get (D := (dC, dI)) (ci := 0) (v := .int (nI n)) (C := RX0) (T := TX0) (N := 16) hx hb hts hinX0 hown hK hP 0 rfl rfl 2 (by decide) f34 (fun _ h9 => h9) rfl dX0_row_63 ?_
          refine lv_bipush (v := 40) hx hb dX0_row_66 (by decide) ?_
          refine lv_icmp_lt (tgt := 81) hx hb dX0_row_68 (by decide) (fun c68 => ?_) (fun c68 => ?_)
          · -- taken at 68
            have c68 : n < 40 := (nI_ltI (a := n) (b := 40) (by omega) (by omega)).mp c68
            refine lv_aload_n hx hb dX0_row_81 rfl (lv_at hl 0 rfl) ?_
            refine va_get (D := (dC, dI)) (ci := 0) (v := .ref a1) (C := RX0) (T := TX0) (N := 16) hx hb hts hinX0 hown hK hP 0 rfl rfl 0 (by decide) f9 (fun _ h9 => h9) rfl dX0_row_82 ?_
            refine lv_aload_n hx hb dX0_row_85 rfl (lv_at hl 0 rfl) ?_
            refine va_get (D := (dC, dI)) (ci := 0) (v := .int (nI n)) (C := RX0) (T := TX0) (N := 16) hx hb hts hinX0 hown hK hP 0 rfl rfl 2 (by decide) f34 (fun _ h9 => h9) rfl dX0_row_86 ?_
            refine lv_iload_n hx hb dX0_row_89 rfl (lv_at hl 1 rfl) ?_
            refine va_iast (D := (dC, dI)) hx hb hK hP hD hS 1 0 rfl rfl (vp_in_nI (show n < 40 by omega) (by decide)) dX0_row_90 (fun H locs hP hD hS => ?_)
            rw [show (nI n : Int32).toNatClampNeg = n from nI_clamp (show n < 2 ^ 31 by omega)] at hP hD
            have hP : va_P (dC, dI) vwCl (wX x a1 a2 a3 a4 cI (upd S n p1) F X Y n ar sl mu ml ck ic ds js ps ss tc) H := hP
            have hD : va_D A (wX x a1 a2 a3 a4 cI (upd S n p1) F X Y n ar sl mu ml ck ic ds js ps ss tc) := hD
            refine lv_aload_n hx hb dX0_row_91 rfl (lv_at hl 0 rfl) ?_
            refine va_get (D := (dC, dI)) (ci := 0) (v := .ref a2) (C := RX0) (T := TX0) (N := 16) hx hb hts hinX0 hown hK hP 0 rfl rfl 1 (by decide) f13 (fun _ h9 => h9) rfl dX0_row_92 ?_
            refine lv_aload_n hx hb dX0_row_95 rfl (lv_at hl 0 rfl) ?_
            refine va_get (D := (dC, dI)) (ci := 0) (v := .int (nI n)) (C := RX0) (T := TX0) (N := 16) hx hb hts hinX0 hown hK hP 0 rfl rfl 2 (by decide) f34 (fun _ h9 => h9) rfl dX0_row_96 ?_
            refine lv_iload_n hx hb dX0_row_99 rfl (lv_at hl 2 rfl) ?_
            refine va_iast (D := (dC, dI)) hx hb hK hP hD hS 2 0 rfl rfl (vp_in_nI (show n < 40 by omega) (by decide)) dX0_row_100 (fun H locs hP hD hS => ?_)
            rw [show (nI n : Int32).toNatClampNeg = n from nI_clamp (show n < 2 ^ 31 by omega)] at hP hD
            have hP : va_P (dC, dI) vwCl (wX x a1 a2 a3 a4 cI (upd S n p1) (upd F n p2) X Y n ar sl mu ml ck ic ds js ps ss tc) H := hP
            have hD : va_D A (wX x a1 a2 a3 a4 cI (upd S n p1) (upd F n p2) X Y n ar sl mu ml ck ic ds js ps ss tc) := hD
            refine lv_aload_n hx hb dX0_row_101 rfl (lv_at hl 0 rfl) ?_
            refine lv_dup hx hb dX0_row_102 rfl ?_
            refine va_get (D := (dC, dI)) (ci := 0) (v := .int (nI n)) (C := RX0) (T := TX0) (N := 16) hx hb hts hinX0 hown hK hP 0 rfl rfl 2 (by decide) f34 (fun _ h9 => h9) rfl dX0_row_103 ?_
            refine lv_iconst (v := 1) hx hb dX0_row_106 (by decide) ?_
            refine lv_iadd hx hb dX0_row_107 ?_
            refine W.eq (congrArg (fun z => F0 m 108 ls (.int z :: [.ref x])) (nI_1 n)) ?_
            refine va_put (D := (dC, dI)) (ci := 0) (v := .int (nI (n + 1))) (ty := .int) (C := RX0) (T := TX0) (N := 16) hx hb hts hinX0 tyX0 tyX0_ok nmX0 hown hK hP hD hS 0 rfl rfl 2 (by decide) f34 (fun _ h9 => h9) rfl (by decide +kernel) (rfl) (rfl) (Nat.le_of_ble_eq_true rfl) dX0_row_108 (fun H locs hP hD hS => ?_)
            have hP : va_P (dC, dI) vwCl (wX x a1 a2 a3 a4 cI (upd S n p1) (upd F n p2) X Y (n + 1) ar sl mu ml ck ic ds js ps ss tc) H := hP
            have hD : va_D A (wX x a1 a2 a3 a4 cI (upd S n p1) (upd F n p2) X Y (n + 1) ar sl mu ml ck ic ds js ps ss tc) := hD
            refine lv_aload_n hx hb dX0_row_111 rfl (lv_at hl 0 rfl) ?_
            refine va_get (D := (dC, dI)) (ci := 0) (v := .int (nI (n + 1))) (C := RX0) (T := TX0) (N := 16) hx hb hts hinX0 hown hK hP 0 rfl rfl 2 (by decide) f34 (fun _ h9 => h9) rfl dX0_row_112 ?_
            refine vx_ret ?_
            refine W.widen (k := 1) (n := 6) (Nat.le_of_ble_eq_true rfl) (Nat.le_of_ble_eq_true rfl) ?_
            exact W.iret (v := nI (n + 1)) hx hb hr (fun t ht hW => ⟨⟨nI (n + 1), (), rfl, ⟨kd_0 (by unfold ok_row; omega) (by omega) trivial trivial, rfl⟩, ⟨by rw [ht]; exact hP, va_K.moved hW.alike hK, hD⟩⟩, hS.F ht⟩) hS.2.2 dX0_row_115
          · -- not taken at 68
            have c68 : ¬ n < 40 := fun q9 => c68 ((nI_ltI (a := n) (b := 40) (by omega) (by omega)).mpr q9)
            exact vx_throwS (own := RX0) (cls := "java/lang/UnsupportedOperationException") (names := ["java/lang/RuntimeException", "java/lang/Exception"]) hx hb hL hown (by decide +kernel) (by decide +kernel) (hts _ (List.mem_cons_of_mem _ wl_X0_40)) (hts _ (List.mem_cons_of_mem _ wi_UnsupportedOperation)) (hG.2.2.1 (42, "there is room for 40 rows") (by decide +kernel)) (vx_hat (L := vx_atS RX0 44 "java/lang/UnsupportedOperationException" ["java/lang/RuntimeException", "java/lang/Exception"]) (B := [.castable "java/lang/UnsupportedOperationException" "java/lang/UnsupportedOperationException", .declares ⟨"java/lang/RuntimeException", "<init>", "(Ljava/lang/String;)V"⟩, .declares ⟨"java/lang/Exception", "<init>", "(Ljava/lang/String;)V"⟩, .declares ⟨"java/lang/Throwable", "<init>", "(Ljava/lang/String;)V"⟩]) (fun w hw => hts w (List.mem_cons_of_mem _ (xa_UnsupportedOperation w hw))) (by decide +kernel) (vx_c (va_Nw.use rfl (hG.2.2.2.1 ("java/lang/UnsupportedOperationException", "java/lang/UnsupportedOperationException") (by decide +kernel))) (vx_c (va_Nw.use rfl (hG.2.2.2.2.2 ⟨"java/lang/RuntimeException", "<init>", "(Ljava/lang/String;)V"⟩ (by decide +kernel))) (vx_c (va_Nw.use rfl (hG.2.2.2.2.2 ⟨"java/lang/Exception", "<init>", "(Ljava/lang/String;)V"⟩ (by decide +kernel))) (vx_c (va_Nw.use rfl (hG.2.2.2.2.2 ⟨"java/lang/Throwable", "<init>", "(Ljava/lang/String;)V"⟩ (by decide +kernel))) (vx_n)))))) (by decide +kernel) hZU hZN hS (hl.1.trans hml.symm) dX0_row_71 dX0_row_74 dX0_row_75 dX0_row_77 dX0_row_80 (fun x hx => (htab x hx).elim) (Nat.le_of_ble_eq_true rfl) (Nat.le_of_ble_eq_true rfl) (Nat.le_of_ble_eq_true rfl) (Nat.le_of_ble_eq_true rfl) hlocks (fun t ha hsz hk => ⟨(), trivial, ⟨Or.inr (⟨rfl, kd_2 (by unfold ok_row; omega) (by omega)⟩), hP.kept (fun k q hq => hk q.1 (hP k q hq).lt), va_K.moved ha hK, hD⟩, Nat.le_trans hS.1 hsz, fun q h1 h2 => (hk q (Nat.lt_of_lt_of_le h1 hS.1)).trans (hS.2.1 q h1 h2)⟩) hS.2.2 (Nat.le_of_ble_eq_true rfl) (Nat.le_of_ble_eq_true rfl)
        · -- not taken at 49
          have c49 : ¬ (S (n - 1)).toInt < p1.toInt := fun q9 => c49 ((Int32.lt_iff_toInt_lt).mpr q9)
          exact vx_throwS (own := RX0) (cls := "java/lang/IllegalArgumentException") (names := ["java/lang/RuntimeException", "java/lang/Exception"]) hx hb hL hown (by decide +kernel) (by decide +kernel) (hts _ (List.mem_cons_of_mem _ wl_X0_27)) (hts _ (List.mem_cons_of_mem _ wi_IllegalArgument)) (hG.2.2.1 (38, "the strain must rise") (by decide +kernel)) (vx_hat (L := vx_atS RX0 31 "java/lang/IllegalArgumentException" ["java/lang/RuntimeException", "java/lang/Exception"]) (B := [.castable "java/lang/IllegalArgumentException" "java/lang/IllegalArgumentException", .declares ⟨"java/lang/RuntimeException", "<init>", "(Ljava/lang/String;)V"⟩, .declares ⟨"java/lang/Exception", "<init>", "(Ljava/lang/String;)V"⟩, .declares ⟨"java/lang/Throwable", "<init>", "(Ljava/lang/String;)V"⟩]) (fun w hw => hts w (List.mem_cons_of_mem _ (xa_IllegalArgument w hw))) (by decide +kernel) (vx_c (va_Nw.use rfl (hG.2.2.2.1 ("java/lang/IllegalArgumentException", "java/lang/IllegalArgumentException") (by decide +kernel))) (vx_c (va_Nw.use rfl (hG.2.2.2.2.2 ⟨"java/lang/RuntimeException", "<init>", "(Ljava/lang/String;)V"⟩ (by decide +kernel))) (vx_c (va_Nw.use rfl (hG.2.2.2.2.2 ⟨"java/lang/Exception", "<init>", "(Ljava/lang/String;)V"⟩ (by decide +kernel))) (vx_c (va_Nw.use rfl (hG.2.2.2.2.2 ⟨"java/lang/Throwable", "<init>", "(Ljava/lang/String;)V"⟩ (by decide +kernel))) (vx_n)))))) (by decide +kernel) hZU hZN hS (hl.1.trans hml.symm) dX0_row_52 dX0_row_55 dX0_row_56 dX0_row_58 dX0_row_61 (fun x hx => (htab x hx).elim) (Nat.le_of_ble_eq_true rfl) (Nat.le_of_ble_eq_true rfl) (Nat.le_of_ble_eq_true rfl) (Nat.le_of_ble_eq_true rfl) hlocks (fun t ha hsz hk => ⟨(), trivial, ⟨Or.inl ⟨rfl, kd_1 (by unfold ok_row; omega)⟩, hP.kept (fun k q hq => hk q.1 (hP k q hq).lt), va_K.moved ha hK, hD⟩, Nat.le_trans hS.1 hsz, fun q h1 h2 => (hk q (Nat.lt_of_lt_of_le h1 hS.1)).trans (hS.2.1 q h1 h2)⟩) hS.2.2 (Nat.le_of_ble_eq_true rfl) (Nat.le_of_ble_eq_true rfl)
    · -- not taken at 17
      have c17 := bI_eq0.mp c17
      exact vx_throwS (own := RX0) (cls := "java/lang/IllegalArgumentException") (names := ["java/lang/RuntimeException", "java/lang/Exception"]) hx hb hL hown (by decide +kernel) (by decide +kernel) (hts _ (List.mem_cons_of_mem _ wl_X0_27)) (hts _ (List.mem_cons_of_mem _ wi_IllegalArgument)) (hG.2.2.1 (29, "strain and force are 0 to 1,000,000") (by decide +kernel)) (vx_hat (L := vx_atS RX0 31 "java/lang/IllegalArgumentException" ["java/lang/RuntimeException", "java/lang/Exception"]) (B := [.castable "java/lang/IllegalArgumentException" "java/lang/IllegalArgumentException", .declares ⟨"java/lang/RuntimeException", "<init>", "(Ljava/lang/String;)V"⟩, .declares ⟨"java/lang/Exception", "<init>", "(Ljava/lang/String;)V"⟩, .declares ⟨"java/lang/Throwable", "<init>", "(Ljava/lang/String;)V"⟩]) (fun w hw => hts w (List.mem_cons_of_mem _ (xa_IllegalArgument w hw))) (by decide +kernel) (vx_c (va_Nw.use rfl (hG.2.2.2.1 ("java/lang/IllegalArgumentException", "java/lang/IllegalArgumentException") (by decide +kernel))) (vx_c (va_Nw.use rfl (hG.2.2.2.2.2 ⟨"java/lang/RuntimeException", "<init>", "(Ljava/lang/String;)V"⟩ (by decide +kernel))) (vx_c (va_Nw.use rfl (hG.2.2.2.2.2 ⟨"java/lang/Exception", "<init>", "(Ljava/lang/String;)V"⟩ (by decide +kernel))) (vx_c (va_Nw.use rfl (hG.2.2.2.2.2 ⟨"java/lang/Throwable", "<init>", "(Ljava/lang/String;)V"⟩ (by decide +kernel))) (vx_n)))))) (by decide +kernel) hZU hZN hS (hl.1.trans hml.symm) dX0_row_20 dX0_row_23 dX0_row_24 dX0_row_26 dX0_row_29 (fun x hx => (htab x hx).elim) (Nat.le_of_ble_eq_true rfl) (Nat.le_of_ble_eq_true rfl) (Nat.le_of_ble_eq_true rfl) (Nat.le_of_ble_eq_true rfl) hlocks (fun t ha hsz hk => ⟨(), trivial, ⟨Or.inl ⟨rfl, kd_1 (by unfold ok_row; omega)⟩, hP.kept (fun k q hq => hk q.1 (hP k q hq).lt), va_K.moved ha hK, hD⟩, Nat.le_trans hS.1 hsz, fun q h1 h2 => (hk q (Nat.lt_of_lt_of_le h1 hS.1)).trans (hS.2.1 q h1 h2)⟩) hS.2.2 (Nat.le_of_ble_eq_true rfl) (Nat.le_of_ble_eq_true rfl)
set_option maxHeartbeats 4000000 in
set_option maxRecDepth 100000 in
theorem c_X0_section (l : Launch) (hL : l.stackTraces = false) (dC : Nat → ClassId) (dI : Nat → Nat → Nat) (z0 : Nat) (sa : Nat → Nat) (sz : Nat) (hz : z0 ≤ sz) (x a1 a2 a3 a4 : Nat) (cI : ClassId) (S F X Y : Nat → Int32) (n : Nat) (ar sl : Int32) (mu ml : Int64) (ck : Int32) (ic : Nat) (ds js ps ss : Int64) (tc : Nat) (p1 p2 : Int32) : vx_Met l yX0_section wsX0_section ({ frames := 6, cells := 1, slots := 6, locals := 91 }) (va_Pc [.ref x, .int p1, .int p2] (fun U => U.heap.size = sz ∧ va_P (dC, dI) vwCl (wX x a1 a2 a3 a4 cI S F X Y n ar sl mu ml ck ic ds js ps ss tc) U.heap ∧ va_K (dC, dI) vwCl [(cI, .int)] U ∧ va_D (fun q => z0 ≤ q) (wX x a1 a2 a3 a4 cI S F X Y n ar sl mu ml ck ic ds js ps ss tc) ∧ gl_ok z0 sa U)) (va_Qv (fun (_ : Unit) => kd4 (ok_sec p1 p2) True True True = 0) (fun (_ : Unit) t => at_w dC dI cI (va_A (wX x a1 a2 a3 a4 cI S F X Y n ar sl mu ml ck ic ds js ps ss tc) sz) (wX x a1 a2 a3 a4 cI S F X Y n p1 p2 mu ml ck ic ds js ps ss tc) t) (va_A (wX x a1 a2 a3 a4 cI S F X Y n ar sl mu ml ck ic ds js ps ss tc) sz)) (vx_X (fun _ : Unit => True) (fun E _ t => ((E = "java/lang/IllegalArgumentException" ∧ kd4 (ok_sec p1 p2) True True True = 1)) ∧ at_w dC dI cI (va_A (wX x a1 a2 a3 a4 cI S F X Y n ar sl mu ml ck ic ds js ps ss tc) sz) (wX x a1 a2 a3 a4 cI S F X Y n ar sl mu ml ck ic ds js ps ss tc) t) (va_A (wX x a1 a2 a3 a4 cI S F X Y n ar sl mu ml ck ic ds js ps ss tc) sz)) 1 6 (va_A (wX x a1 a2 a3 a4 cI S F X Y n ar sl mu ml ck ic ds js ps ss tc) sz) := by
  refine vx_ofW (cc := cX0_section) (maxL := 3) (ret := none) (by decide) rfl ?_
  intro p e s m args below meth c s₁ B hml htab hv
  obtain ⟨rfl, hsz, hP, hK, hD0, hG⟩ := hv
  have hx := B.exec
  have hb := B.bytes
  have hr := B.returns
  have hts := atoms_spec (ws := wsX0_section) B.pre
  have hown : s.vm.findClass RX0 = some m.cls := findClass_of_methodNamed B.named
  have hlocks := B.notSynchronized
  have hinX0 : ∀ w ∈ wsX00, w ∈ wsX0_section := fun w h => List.mem_cons_of_mem _ (inX0 w h)
  have k22 := hts _ (List.mem_cons_of_mem _ wl_X0_22)
  have f47 := hts _ (List.mem_cons_of_mem _ wl_X0_47)
  have f50 := hts _ (List.mem_cons_of_mem _ wl_X0_50)
  subst hsz
  have hD := hD0.self (sz := s.heap.size)
  have hAz := az_of hD0 hz
  generalize hAe : va_A (wX x a1 a2 a3 a4 cI S F X Y n ar sl mu ml ck ic ds js ps ss tc) s.heap.size = A at hD hAz ⊢
  have hA : ∀ q : Nat, s.heap.size ≤ q → A q := fun q h => by rw [← hAe]; exact Or.inr h
  have hS : va_S A s.heap s.heap [] := va_S.rf
  have hZU := hG.1.narrow hAz
  have hZN := hG.2.1.narrow hAz
  have hl := lv_entry ([.ref x, .int p1, .int p2]) (n := 3) (Nat.le_of_ble_eq_true rfl)
  rw [lg_entry_eq]
  generalize (lg_sl ([.ref x, .int p1, .int p2]) ++ List.replicate (3 - (lg_sl ([.ref x, .int p1, .int p2])).length) Slot.unset).toArray = ls at hl ⊢
  have hl : lv_has ls 3 [(0, .ref x), (1, .int p1), (2, .int p2)] := hl
  refine lv_iload_n hx hb dX0_section_0 rfl (lv_at hl 1 rfl) ?_
  refine lv_iconst (v := 1) hx hb dX0_section_1 (by decide) ?_
  refine lv_sipush (v := 10000) hx hb dX0_section_2 (by decide) ?_
  refine vp_callSi (W.runS (As := [.int p1, .int 1, .int 10000]) (rest := []) ⟨hx, hb, hml, hown, hts⟩ (c_X0_isWithin l p1 1 10000 1 10000 (by decide) (by decide)) (va_cwS 3 hts (gS wl_X0_23 ws_X0_isWithin wi_X0 wc_X0_isWithin) rfl rfl rfl (by decide +kernel) ⟨Nat.le_of_ble_eq_true rfl, Nat.le_of_ble_eq_true rfl⟩) ⟨fun _ _ _ _ q => q, fun U hU hW => ⟨rfl, trivial⟩⟩ rfl rfl hl.1 rfl (lv_room (Nat.le_of_ble_eq_true rfl)) dX0_section_5 ⟨Nat.le_of_ble_eq_true rfl, Nat.le_of_ble_eq_true rfl⟩) (fun r5 h5 => ?_)
  subst h5
  refine lv_if_eq (tgt := 21) hx hb dX0_section_8 (by decide) (fun c8 => ?_) (fun c8 => ?_)
  · -- taken at 8
    have c8 := bI_eq0.mp c8
    exact vx_throwS (own := RX0) (cls := "java/lang/IllegalArgumentException") (names := ["java/lang/RuntimeException", "java/lang/Exception"]) hx hb hL hown (by decide +kernel) (by decide +kernel) (hts _ (List.mem_cons_of_mem _ wl_X0_27)) (hts _ (List.mem_cons_of_mem _ wi_IllegalArgument)) (hG.2.2.1 (45, "the area is 1 to 10,000, the slack 0 to 1,000,000") (by decide +kernel)) (vx_hat (L := vx_atS RX0 31 "java/lang/IllegalArgumentException" ["java/lang/RuntimeException", "java/lang/Exception"]) (B := [.castable "java/lang/IllegalArgumentException" "java/lang/IllegalArgumentException", .declares ⟨"java/lang/RuntimeException", "<init>", "(Ljava/lang/String;)V"⟩, .declares ⟨"java/lang/Exception", "<init>", "(Ljava/lang/String;)V"⟩, .declares ⟨"java/lang/Throwable", "<init>", "(Ljava/lang/String;)V"⟩]) (fun w hw => hts w (List.mem_cons_of_mem _ (xa_IllegalArgument w hw))) (by decide +kernel) (vx_c (va_Nw.use rfl (hG.2.2.2.1 ("java/lang/IllegalArgumentException", "java/lang/IllegalArgumentException") (by decide +kernel))) (vx_c (va_Nw.use rfl (hG.2.2.2.2.2 ⟨"java/lang/RuntimeException", "<init>", "(Ljava/lang/String;)V"⟩ (by decide +kernel))) (vx_c (va_Nw.use rfl (hG.2.2.2.2.2 ⟨"java/lang/Exception", "<init>", "(Ljava/lang/String;)V"⟩ (by decide +kernel))) (vx_c (va_Nw.use rfl (hG.2.2.2.2.2 ⟨"java/lang/Throwable", "<init>", "(Ljava/lang/String;)V"⟩ (by decide +kernel))) (vx_n)))))) (by decide +kernel) hZU hZN hS (hl.1.trans hml.symm) dX0_section_21 dX0_section_24 dX0_section_25 dX0_section_27 dX0_section_30 (fun x hx => (htab x hx).elim) (Nat.le_of_ble_eq_true rfl) (Nat.le_of_ble_eq_true rfl) (Nat.le_of_ble_eq_true rfl) (Nat.le_of_ble_eq_true rfl) hlocks (fun t ha hsz hk => ⟨(), trivial, ⟨⟨rfl, kd_1 (by unfold ok_sec; omega)⟩, hP.kept (fun k q hq => hk q.1 (hP k q hq).lt), va_K.moved ha hK, hD⟩, Nat.le_trans hS.1 hsz, fun q h1 h2 => (hk q (Nat.lt_of_lt_of_le h1 hS.1)).trans (hS.2.1 q h1 h2)⟩) hS.2.2 (Nat.le_of_ble_eq_true rfl) (Nat.le_of_ble_eq_true rfl)
  · -- not taken at 8
    have c8 := bI_ne0.mp c8
    refine lv_iload_n hx hb dX0_section_11 rfl (lv_at hl 2 rfl) ?_
    refine lv_iconst (v := 0) hx hb dX0_section_12 (by decide) ?_
    refine lv_ldc (v := 1000000) hx hb hown k22 dX0_section_13 ?_
    refine vp_callSi (W.runS (As := [.int p2, .int 0, .int 1000000]) (rest := []) ⟨hx, hb, hml, hown, hts⟩ (c_X0_isWithin l p2 0 1000000 0 1000000 (by decide) (by decide)) (va_cwS 3 hts (gS wl_X0_23 ws_X0_isWithin wi_X0 wc_X0_isWithin) rfl rfl rfl (by decide +kernel) ⟨Nat.le_of_ble_eq_true rfl, Nat.le_of_ble_eq_true rfl⟩) ⟨fun _ _ _ _ q => q, fun U hU hW => ⟨rfl, trivial⟩⟩ rfl rfl hl.1 rfl (lv_room (Nat.le_of_ble_eq_true rfl)) dX0_section_15 ⟨Nat.le_of_ble_eq_true rfl, Nat.le_of_ble_eq_true rfl⟩) (fun r15 h15 => ?_)
    subst h15
    refine lv_if_ne (tgt := 31) hx hb dX0_section_18 (by decide) (fun c18 => ?_) (fun c18 => ?_)
    · -- taken at 18
      have c18 := bI_ne0.mp c18
      refine lv_aload_n hx hb dX0_section_31 rfl (lv_at hl 0 rfl) ?_
      refine lv_iload_n hx hb dX0_section_32 rfl (lv_at hl 1 rfl) ?_
      refine va_put (D := (dC, dI)) (ci := 0) (v := .int p1) (ty := .int) (C := RX0) (T := TX0) (N := 16) hx hb hts hinX0 tyX0 tyX0_ok nmX0 hown hK hP hD hS 0 rfl rfl 3 (by decide) f47 (fun _ h9 => h9) rfl (by decide +kernel) (rfl) (rfl) (Nat.le_of_ble_eq_true rfl) dX0_section_33 (fun H locs hP hD hS => ?_)
      have hP : va_P (dC, dI) vwCl (wX x a1 a2 a3 a4 cI S F X Y n p1 sl mu ml ck ic ds js ps ss tc) H := hP
      have hD : va_D A (wX x a1 a2 a3 a4 cI S F X Y n p1 sl mu ml ck ic ds js ps ss tc) := hD
      refine lv_aload_n hx hb dX0_section_36 rfl (lv_at hl 0 rfl) ?_
      refine lv_iload_n hx hb dX0_section_37 rfl (lv_at hl 2 rfl) ?_
      refine va_put (D := (dC, dI)) (ci := 0) (v := .int p2) (ty := .int) (C := RX0) (T := TX0) (N := 16) hx hb hts hinX0 tyX0 tyX0_ok nmX0 hown hK hP hD hS 0 rfl rfl 4 (by decide) f50 (fun _ h9 => h9) rfl (by decide +kernel) (rfl) (rfl) (Nat.le_of_ble_eq_true rfl) dX0_section_38 (fun H locs hP hD hS => ?_)
      have hP : va_P (dC, dI) vwCl (wX x a1 a2 a3 a4 cI S F X Y n p1 p2 mu ml ck ic ds js ps ss tc) H := hP
      have hD : va_D A (wX x a1 a2 a3 a4 cI S F X Y n p1 p2 mu ml ck ic ds js ps ss tc) := hD
      refine vx_ret ?_
      refine W.widen (k := 1) (n := 6) (Nat.le_of_ble_eq_true rfl) (Nat.le_of_ble_eq_true rfl) ?_
      exact W.vret hx hb hr (fun t ht hW => ⟨⟨(), rfl, kd_0 (by unfold ok_sec; omega) trivial trivial trivial, ⟨by rw [ht]; exact hP, va_K.moved hW.alike hK, hD⟩⟩, hS.F ht⟩) hS.2.2 dX0_section_41
    · -- not taken at 18
      have c18 := bI_eq0.mp c18
      exact vx_throwS (own := RX0) (cls := "java/lang/IllegalArgumentException") (names := ["java/lang/RuntimeException", "java/lang/Exception"]) hx hb hL hown (by decide +kernel) (by decide +kernel) (hts _ (List.mem_cons_of_mem _ wl_X0_27)) (hts _ (List.mem_cons_of_mem _ wi_IllegalArgument)) (hG.2.2.1 (45, "the area is 1 to 10,000, the slack 0 to 1,000,000") (by decide +kernel)) (vx_hat (L := vx_atS RX0 31 "java/lang/IllegalArgumentException" ["java/lang/RuntimeException", "java/lang/Exception"]) (B := [.castable "java/lang/IllegalArgumentException" "java/lang/IllegalArgumentException", .declares ⟨"java/lang/RuntimeException", "<init>", "(Ljava/lang/String;)V"⟩, .declares ⟨"java/lang/Exception", "<init>", "(Ljava/lang/String;)V"⟩, .declares ⟨"java/lang/Throwable", "<init>", "(Ljava/lang/String;)V"⟩]) (fun w hw => hts w (List.mem_cons_of_mem _ (xa_IllegalArgument w hw))) (by decide +kernel) (vx_c (va_Nw.use rfl (hG.2.2.2.1 ("java/lang/IllegalArgumentException", "java/lang/IllegalArgumentException") (by decide +kernel))) (vx_c (va_Nw.use rfl (hG.2.2.2.2.2 ⟨"java/lang/RuntimeException", "<init>", "(Ljava/lang/String;)V"⟩ (by decide +kernel))) (vx_c (va_Nw.use rfl (hG.2.2.2.2.2 ⟨"java/lang/Exception", "<init>", "(Ljava/lang/String;)V"⟩ (by decide +kernel))) (vx_c (va_Nw.use rfl (hG.2.2.2.2.2 ⟨"java/lang/Throwable", "<init>", "(Ljava/lang/String;)V"⟩ (by decide +kernel))) (vx_n)))))) (by decide +kernel) hZU hZN hS (hl.1.trans hml.symm) dX0_section_21 dX0_section_24 dX0_section_25 dX0_section_27 dX0_section_30 (fun x hx => (htab x hx).elim) (Nat.le_of_ble_eq_true rfl) (Nat.le_of_ble_eq_true rfl) (Nat.le_of_ble_eq_true rfl) (Nat.le_of_ble_eq_true rfl) hlocks (fun t ha hsz hk => ⟨(), trivial, ⟨⟨rfl, kd_1 (by unfold ok_sec; omega)⟩, hP.kept (fun k q hq => hk q.1 (hP k q hq).lt), va_K.moved ha hK, hD⟩, Nat.le_trans hS.1 hsz, fun q h1 h2 => (hk q (Nat.lt_of_lt_of_le h1 hS.1)).trans (hS.2.1 q h1 h2)⟩) hS.2.2 (Nat.le_of_ble_eq_true rfl) (Nat.le_of_ble_eq_true rfl)
