set_option maxHeartbeats 4000000 in
set_option maxRecDepth 100000 in
theorem c_X1_stretch (l : Launch) (dC : Nat → ClassId) (dI : Nat → Nat → Nat) (sz : Nat) (m9 b1 b2 b3 b4 b5 b6 : Nat) (cI : ClassId) (S F D J X Y : Nat → Int32) (th : Int32) (n : Nat) (ar sl hd : Int32) (hu hw : Int64) (im tc : Nat) (fa : Int32) (up dn : Int64) (p1 p2 p3 : Int32) : Met l yX1_stretch wsX1_stretch ({ frames := 1, cells := 0, slots := 0, locals := 31 }) (va_Pc [.ref m9, .int p1, .int p2, .int p3] (fun U => U.heap.size = sz ∧ va_P (dC, dI) vwCl (wM m9 b1 b2 b3 b4 b5 b6 cI S F D J X Y th n ar sl hd hu hw im tc fa up dn) U.heap ∧ va_K (dC, dI) vwCl [(cI, .int)] U ∧ va_D (fun _ => True) (wM m9 b1 b2 b3 b4 b5 b6 cI S F D J X Y th n ar sl hd hu hw im tc fa up dn))) (va_Ql (fun r (u : Int64 × Int64) => kd4 (0 ≤ p3.toInt ∧ p3.toInt ≤ 1) (ok_len p1 p2) True True = 0 → r.toInt = fr (p2.toInt - p1.toInt) p1.toInt p3.toInt) (fun (u : Int64 × Int64) t => at_w dC dI cI (va_A (wM m9 b1 b2 b3 b4 b5 b6 cI S F D J X Y th n ar sl hd hu hw im tc fa up dn) sz) (wM m9 b1 b2 b3 b4 b5 b6 cI S F D J X Y (kd4 (0 ≤ p3.toInt ∧ p3.toInt ≤ 1) (ok_len p1 p2) True True) n ar sl hd hu hw im tc fa u.1 u.2) t) (va_A (wM m9 b1 b2 b3 b4 b5 b6 cI S F D J X Y th n ar sl hd hu hw im tc fa up dn) sz)) 0 0 (va_A (wM m9 b1 b2 b3 b4 b5 b6 cI S F D J X Y th n ar sl hd hu hw im tc fa up dn) sz) := by
  refine Met.ofW (cc := cX1_stretch) (maxL := 4) (ret := (some .long)) (by decide) rfl ?_
  intro p e s m args below meth c s₁ B hml hv
  obtain ⟨rfl, hsz, hP, hK, hD0⟩ := hv
  have hx := B.exec
  have hb := B.bytes
  have hr := B.returns
  have hts := atoms_spec (ws := wsX1_stretch) B.pre
  have hown : s.vm.findClass RX1 = some m.cls := findClass_of_methodNamed B.named
  have hlocks := B.notSynchronized
  have hinX1 : ∀ w ∈ wsX10, w ∈ wsX1_stretch := fun w h => List.mem_cons_of_mem _ (inX1 w h)
  have k39 := hts _ (List.mem_cons_of_mem _ wl_X1_39)
  subst hsz
  have hD := hD0.self (sz := s.heap.size)
  generalize hAe : va_A (wM m9 b1 b2 b3 b4 b5 b6 cI S F D J X Y th n ar sl hd hu hw im tc fa up dn) s.heap.size = A at hD ⊢
  have hA : ∀ q : Nat, s.heap.size ≤ q → A q := fun q h => by rw [← hAe]; exact Or.inr h
  have hS : va_S A s.heap s.heap [] := va_S.rf
  have hl := lv_entry ([.ref m9, .int p1, .int p2, .int p3]) (n := 4) (Nat.le_of_ble_eq_true rfl)
  rw [lg_entry_eq]
  generalize (lg_sl ([.ref m9, .int p1, .int p2, .int p3]) ++ List.replicate (4 - (lg_sl ([.ref m9, .int p1, .int p2, .int p3])).length) Slot.unset).toArray = ls at hl ⊢
  have hl : lv_has ls 4 [(0, .ref m9), (1, .int p1), (2, .int p2), (3, .int p3)] := hl
  have J32 : ∀ (ls : Array Slot), lv_has ls 4 [(0, .ref m9), (1, .int p1), (2, .int p2), (3, .int p3)] → W p l e (headSpec wsX1_stretch ({ frames := 1, cells := 0, slots := 0, locals := 31 })).room s m ([.ref m9, .int p1, .int p2, .int p3] : List Value).toArray below meth c s.heap [] 0 0 (MQ below (va_Ql (fun r (u : Int64 × Int64) => kd4 (0 ≤ p3.toInt ∧ p3.toInt ≤ 1) (ok_len p1 p2) True True = 0 → r.toInt = fr (p2.toInt - p1.toInt) p1.toInt p3.toInt) (fun (u : Int64 × Int64) t => at_w dC dI cI A (wM m9 b1 b2 b3 b4 b5 b6 cI S F D J X Y (kd4 (0 ≤ p3.toInt ∧ p3.toInt ≤ 1) (ok_len p1 p2) True True) n ar sl hd hu hw im tc fa u.1 u.2) t) A) ([.ref m9, .int p1, .int p2, .int p3] : List Value).toArray s 0 0 A) (F0 m 32 ls [.int (bI (ok_len p1 p2)), .int (bI (0 ≤ p3.toInt ∧ p3.toInt ≤ 1)), .ref m9]) := by
    intro ls hl
    refine lv_iconst (v := 1) hx hb dX1_stretch_32 (by decide) ?_
    refine lv_iconst (v := 1) hx hb dX1_stretch_33 (by decide) ?_
    have hFc := va_free (wc := (wM m9 b1 b2 b3 b4 b5 b6 cI S F D J X Y th n ar sl hd hu hw im tc fa up dn)) hD hS hA [0, 1, 2, 3, 4, 5, 6] rfl
    refine va_calli (va_runV (As := [.int (bI (0 ≤ p3.toInt ∧ p3.toInt ≤ 1)), .int (bI (ok_len p1 p2)), .int 1, .int 1]) (rest := []) ⟨hx, hb, hml, hown, hts⟩ (c_X1_goes l dC dI s.heap.size m9 b1 b2 b3 b4 b5 b6 cI S F D J X Y th n ar sl hd hu hw im tc fa up dn (0 ≤ p3.toInt ∧ p3.toInt ≤ 1) (ok_len p1 p2) True True) (cwV 4 hts (gV wl_X1_47 wi_X1_goes wv_X1_goes wi_X1 wc_X1_goes) rfl rfl rfl (by decide +kernel) ⟨Nat.le_of_ble_eq_true rfl, Nat.le_of_ble_eq_true rfl⟩) ⟨fun a U g mk q => ⟨q.1, q.2.1, q.2.2.1, va_K.moved (u := U) (U := U.calling g mk a) (Vm.Alike.refl U.vm) q.2.2.2.1, q.2.2.2.2⟩, va_recv hK hP (ci := 1) (q0 := 0) rfl rfl, fun U hU hW => ⟨rfl, by rw [hU], by rw [hU]; exact hP, va_K.moved hW.alike hK, hD.weaken (fun _ _ _ _ => trivial)⟩⟩ rfl rfl hl.1 rfl (lv_room (Nat.le_of_ble_eq_true rfl)) dX1_stretch_34 ⟨Nat.le_of_ble_eq_true rfl, Nat.le_of_ble_eq_true rfl⟩) hS (fun q _ h => hFc q h) hFc (fun r34 u34 t H1 locs ht hvm h34 hB hz1 hk1 hS => ?_)
    obtain ⟨hP1, hK1, hD1⟩ := hB
    rw [ht] at hP1
    obtain ⟨hP, hD⟩ := va_join (wr := []) (w1 := (wM m9 b1 b2 b3 b4 b5 b6 cI S F D J X Y (kd4 (0 ≤ p3.toInt ∧ p3.toInt ≤ 1) (ok_len p1 p2) True True) n ar sl hd hu hw im tc fa up dn)) hP hD [0, 1, 2, 3, 4, 5, 6] [] rfl rfl (by decide) (by decide) hk1 hFc hP1 hD1
    generalize H1 = H at hP hS ⊢
    have hP : va_P (dC, dI) vwCl (wM m9 b1 b2 b3 b4 b5 b6 cI S F D J X Y (kd4 (0 ≤ p3.toInt ∧ p3.toInt ≤ 1) (ok_len p1 p2) True True) n ar sl hd hu hw im tc fa up dn) H := hP
    have hD : va_D A (wM m9 b1 b2 b3 b4 b5 b6 cI S F D J X Y (kd4 (0 ≤ p3.toInt ∧ p3.toInt ≤ 1) (ok_len p1 p2) True True) n ar sl hd hu hw im tc fa up dn) := hD
    subst h34
    refine lv_if_ne (tgt := 42) hx hb dX1_stretch_37 (by decide) (fun c37 => ?_) (fun c37 => ?_)
    · -- taken at 37
      have c37 := bI_ne0.mp c37
      have e9 := str_e (kd_z c37).2.1
      refine lv_aload_n hx hb dX1_stretch_42 rfl (lv_at hl 0 rfl) ?_
      refine lv_iload_n hx hb dX1_stretch_43 rfl (lv_at hl 2 rfl) ?_
      refine lv_iload_n hx hb dX1_stretch_44 rfl (lv_at hl 1 rfl) ?_
      refine lv_isub hx hb dX1_stretch_45 ?_
      refine lv_i2l hx hb dX1_stretch_46 rfl ?_
      refine lv_iload_n hx hb dX1_stretch_47 rfl (lv_at hl 1 rfl) ?_
      refine lv_i2l hx hb dX1_stretch_48 rfl ?_
      refine lv_iload_n hx hb dX1_stretch_49 rfl (lv_at hl 3 rfl) ?_
      have hFc := va_free (wc := (wM m9 b1 b2 b3 b4 b5 b6 cI S F D J X Y (kd4 (0 ≤ p3.toInt ∧ p3.toInt ≤ 1) (ok_len p1 p2) True True) n ar sl hd hu hw im tc fa up dn)) hD hS hA [0, 1, 2, 3, 4, 5, 6] rfl
      refine va_calll (va_runV (As := [.long ((p2 - p1).toInt64), .long p1.toInt64, .int p3]) (rest := []) ⟨hx, hb, hml, hown, hts⟩ (c_X1_part l dC dI H.size m9 b1 b2 b3 b4 b5 b6 cI S F D J X Y (kd4 (0 ≤ p3.toInt ∧ p3.toInt ≤ 1) (ok_len p1 p2) True True) n ar sl hd hu hw im tc fa up dn ((p2 - p1).toInt64) p1.toInt64 p3 (by omega) (by omega)) (cwV 3 hts (gV wl_X1_57 wi_X1_part wv_X1_part wi_X1 wc_X1_part) rfl rfl rfl (by decide +kernel) ⟨Nat.le_of_ble_eq_true rfl, Nat.le_of_ble_eq_true rfl⟩) ⟨fun a U g mk q => ⟨q.1, q.2.1, q.2.2.1, va_K.moved (u := U) (U := U.calling g mk a) (Vm.Alike.refl U.vm) q.2.2.2.1, q.2.2.2.2⟩, va_recv hK hP (ci := 1) (q0 := 0) rfl rfl, fun U hU hW => ⟨rfl, by rw [hU], by rw [hU]; exact hP, va_K.moved hW.alike hK, hD.weaken (fun _ _ _ _ => trivial)⟩⟩ rfl rfl hl.1 rfl (lv_room (Nat.le_of_ble_eq_true rfl)) dX1_stretch_50 ⟨Nat.le_of_ble_eq_true rfl, Nat.le_of_ble_eq_true rfl⟩) hS (fun q _ h => hFc q h) hFc (fun r50 u50 t H1 locs ht hvm h50 hB hz1 hk1 hS => ?_)
      obtain ⟨hP1, hK1, hD1⟩ := hB
      rw [ht] at hP1
      obtain ⟨hP, hD⟩ := va_join (wr := []) (w1 := (wM m9 b1 b2 b3 b4 b5 b6 cI S F D J X Y (kd4 (0 ≤ p3.toInt ∧ p3.toInt ≤ 1) (ok_len p1 p2) True True) n ar sl hd hu hw im tc fa u50.1 u50.2)) hP hD [0, 1, 2, 3, 4, 5, 6] [] rfl rfl (by decide) (by decide) hk1 hFc hP1 hD1
      generalize H1 = H at hP hS ⊢
      have hP : va_P (dC, dI) vwCl (wM m9 b1 b2 b3 b4 b5 b6 cI S F D J X Y (kd4 (0 ≤ p3.toInt ∧ p3.toInt ≤ 1) (ok_len p1 p2) True True) n ar sl hd hu hw im tc fa u50.1 u50.2) H := hP
      have hD : va_D A (wM m9 b1 b2 b3 b4 b5 b6 cI S F D J X Y (kd4 (0 ≤ p3.toInt ∧ p3.toInt ≤ 1) (ok_len p1 p2) True True) n ar sl hd hu hw im tc fa u50.1 u50.2) := hD
      exact W.lret (v := r50) hx hb hr (fun t ht hW => ⟨⟨r50, (u50.1, u50.2), rfl, fun _ => by rw [h50.1, e9.1, e9.2.1], ⟨by rw [ht]; exact hP, va_K.moved hW.alike hK, hD⟩⟩, hS.F ht⟩) hS.2.2 dX1_stretch_53
    · -- not taken at 37
      have c37 := bI_eq0.mp c37
      refine lv_lconst (v := 0) hx hb dX1_stretch_40 (by decide) ?_
      exact W.lret (v := 0) hx hb hr (fun t ht hW => ⟨⟨0, (up, dn), rfl, fun q => absurd q c37, ⟨by rw [ht]; exact hP, va_K.moved hW.alike hK, hD⟩⟩, hS.F ht⟩) hS.2.2 dX1_stretch_41
  refine lv_aload_n hx hb dX1_stretch_0 rfl (lv_at hl 0 rfl) ?_
  refine lv_iload_n hx hb dX1_stretch_1 rfl (lv_at hl 3 rfl) ?_
  refine lv_iconst (v := 0) hx hb dX1_stretch_2 (by decide) ?_
  refine lv_iconst (v := 1) hx hb dX1_stretch_3 (by decide) ?_
  refine vp_callSi (W.runS (As := [.int p3, .int 0, .int 1]) (rest := [.ref m9]) ⟨hx, hb, hml, hown, hts⟩ (c_X1_in l p3 0 1 0 1 (by decide) (by decide)) (va_cwS 3 hts (gS wl_X1_40 ws_X1_in wi_X1 wc_X1_in) rfl rfl rfl (by decide +kernel) ⟨Nat.le_of_ble_eq_true rfl, Nat.le_of_ble_eq_true rfl⟩) ⟨fun _ _ _ _ q => q, fun U hU hW => ⟨rfl, trivial⟩⟩ rfl rfl hl.1 rfl (lv_room (Nat.le_of_ble_eq_true rfl)) dX1_stretch_4 ⟨Nat.le_of_ble_eq_true rfl, Nat.le_of_ble_eq_true rfl⟩) (fun r4 h4 => ?_)
  subst h4
  refine lv_iload_n hx hb dX1_stretch_7 rfl (lv_at hl 1 rfl) ?_
  refine lv_iconst (v := 1) hx hb dX1_stretch_8 (by decide) ?_
  refine lv_ldc (v := 1000000) hx hb hown k39 dX1_stretch_9 ?_
  refine vp_callSi (W.runS (As := [.int p1, .int 1, .int 1000000]) (rest := [.int (bI (0 ≤ p3.toInt ∧ p3.toInt ≤ 1)), .ref m9]) ⟨hx, hb, hml, hown, hts⟩ (c_X1_in l p1 1 1000000 1 1000000 (by decide) (by decide)) (va_cwS 3 hts (gS wl_X1_40 ws_X1_in wi_X1 wc_X1_in) rfl rfl rfl (by decide +kernel) ⟨Nat.le_of_ble_eq_true rfl, Nat.le_of_ble_eq_true rfl⟩) ⟨fun _ _ _ _ q => q, fun U hU hW => ⟨rfl, trivial⟩⟩ rfl rfl hl.1 rfl (lv_room (Nat.le_of_ble_eq_true rfl)) dX1_stretch_11 ⟨Nat.le_of_ble_eq_true rfl, Nat.le_of_ble_eq_true rfl⟩) (fun r11 h11 => ?_)
  subst h11
  refine lv_if_eq (tgt := 31) hx hb dX1_stretch_14 (by decide) (fun c14 => ?_) (fun c14 => ?_)
  · -- taken at 14
    have c14 := bI_eq0.mp c14
    refine lv_iconst (v := 0) hx hb dX1_stretch_31 (by decide) ?_
    refine W.eq (congrArg (fun z => F0 m 32 ls (.int z :: [.int (bI (0 ≤ p3.toInt ∧ p3.toInt ≤ 1)), .ref m9])) ((bI_0 (c := ok_len p1 p2) (by unfold ok_len; omega)).symm)) ?_
    exact J32 ls (lv_sub hl [0, 1, 2, 3] rfl)
  · -- not taken at 14
    have c14 := bI_ne0.mp c14
    refine lv_iload_n hx hb dX1_stretch_17 rfl (lv_at hl 2 rfl) ?_
    refine lv_iconst (v := 1) hx hb dX1_stretch_18 (by decide) ?_
    refine lv_ldc (v := 1000000) hx hb hown k39 dX1_stretch_19 ?_
    refine vp_callSi (W.runS (As := [.int p2, .int 1, .int 1000000]) (rest := [.int (bI (0 ≤ p3.toInt ∧ p3.toInt ≤ 1)), .ref m9]) ⟨hx, hb, hml, hown, hts⟩ (c_X1_in l p2 1 1000000 1 1000000 (by decide) (by decide)) (va_cwS 3 hts (gS wl_X1_40 ws_X1_in wi_X1 wc_X1_in) rfl rfl rfl (by decide +kernel) ⟨Nat.le_of_ble_eq_true rfl, Nat.le_of_ble_eq_true rfl⟩) ⟨fun _ _ _ _ q => q, fun U hU hW => ⟨rfl, trivial⟩⟩ rfl rfl hl.1 rfl (lv_room (Nat.le_of_ble_eq_true rfl)) dX1_stretch_21 ⟨Nat.le_of_ble_eq_true rfl, Nat.le_of_ble_eq_true rfl⟩) (fun r21 h21 => ?_)
    subst h21
    refine lv_if_eq (tgt := 31) hx hb dX1_stretch_24 (by decide) (fun c24 => ?_) (fun c24 => ?_)
    · -- taken at 24
      have c24 := bI_eq0.mp c24
      refine lv_iconst (v := 0) hx hb dX1_stretch_31 (by decide) ?_
      refine W.eq (congrArg (fun z => F0 m 32 ls (.int z :: [.int (bI (0 ≤ p3.toInt ∧ p3.toInt ≤ 1)), .ref m9])) ((bI_0 (c := ok_len p1 p2) (by unfold ok_len; omega)).symm)) ?_
      exact J32 ls (lv_sub hl [0, 1, 2, 3] rfl)
    · -- not taken at 24
      have c24 := bI_ne0.mp c24
      refine lv_iconst (v := 1) hx hb dX1_stretch_27 (by decide) ?_
      refine lv_goto (tgt := 32) hx hb dX1_stretch_28 (by decide) ?_
      refine W.eq (congrArg (fun z => F0 m 32 ls (.int z :: [.int (bI (0 ≤ p3.toInt ∧ p3.toInt ≤ 1)), .ref m9])) ((bI_1 (c := ok_len p1 p2) (by unfold ok_len; omega)).symm)) ?_
      exact J32 ls (lv_sub hl [0, 1, 2, 3] rfl)
set_option maxHeartbeats 4000000 in
set_option maxRecDepth 100000 in
theorem c_X1_round (l : Launch) (dC : Nat → ClassId) (dI : Nat → Nat → Nat) (sz : Nat) (m9 b1 b2 b3 b4 b5 b6 : Nat) (cI : ClassId) (S F D J X Y : Nat → Int32) (th : Int32) (n : Nat) (ar sl hd : Int32) (hu hw : Int64) (im tc : Nat) (fa : Int32) (up dn : Int64) (y1 y2 : Int64) (p5 : Int32) : Met l yX1_round wsX1_round ({ frames := 1, cells := 0, slots := 0, locals := 29 }) (va_Pc [.ref m9, .long y1, .long y2, .int p5] (fun U => U.heap.size = sz ∧ va_P (dC, dI) vwCl (wM m9 b1 b2 b3 b4 b5 b6 cI S F D J X Y th n ar sl hd hu hw im tc fa up dn) U.heap ∧ va_K (dC, dI) vwCl [(cI, .int)] U ∧ va_D (fun _ => True) (wM m9 b1 b2 b3 b4 b5 b6 cI S F D J X Y th n ar sl hd hu hw im tc fa up dn))) (va_Ql (fun r (_ : Unit) => kd4 (0 ≤ p5.toInt ∧ p5.toInt ≤ 2) (ok_rd y1 y2) True True = 0 → r.toInt = rnd y1.toInt y2.toInt p5.toInt) (fun (_ : Unit) t => at_w dC dI cI (va_A (wM m9 b1 b2 b3 b4 b5 b6 cI S F D J X Y th n ar sl hd hu hw im tc fa up dn) sz) (wM m9 b1 b2 b3 b4 b5 b6 cI S F D J X Y (kd4 (0 ≤ p5.toInt ∧ p5.toInt ≤ 2) (ok_rd y1 y2) True True) n ar sl hd hu hw im tc fa up dn) t) (va_A (wM m9 b1 b2 b3 b4 b5 b6 cI S F D J X Y th n ar sl hd hu hw im tc fa up dn) sz)) 0 0 (va_A (wM m9 b1 b2 b3 b4 b5 b6 cI S F D J X Y th n ar sl hd hu hw im tc fa up dn) sz) := by
  refine Met.ofW (cc := cX1_round) (maxL := 6) (ret := (some .long)) (by decide) rfl ?_
  intro p e s m args below meth c s₁ B hml hv
  obtain ⟨rfl, hsz, hP, hK, hD0⟩ := hv
  have hx := B.exec
  have hb := B.bytes
  have hr := B.returns
  have hts := atoms_spec (ws := wsX1_round) B.pre
  have hown : s.vm.findClass RX1 = some m.cls := findClass_of_methodNamed B.named
  have hlocks := B.notSynchronized
  have hinX1 : ∀ w ∈ wsX10, w ∈ wsX1_round := fun w h => List.mem_cons_of_mem _ (inX1 w h)
  have k92 := hts _ (List.mem_cons_of_mem _ wl_X1_92)
  have k98 := hts _ (List.mem_cons_of_mem _ wl_X1_98)
  subst hsz
  have hD := hD0.self (sz := s.heap.size)
  generalize hAe : va_A (wM m9 b1 b2 b3 b4 b5 b6 cI S F D J X Y th n ar sl hd hu hw im tc fa up dn) s.heap.size = A at hD ⊢
  have hA : ∀ q : Nat, s.heap.size ≤ q → A q := fun q h => by rw [← hAe]; exact Or.inr h
  have hS : va_S A s.heap s.heap [] := va_S.rf
  have hl := lv_entry ([.ref m9, .long y1, .long y2, .int p5]) (n := 6) (Nat.le_of_ble_eq_true rfl)
  rw [lg_entry_eq]
  generalize (lg_sl ([.ref m9, .long y1, .long y2, .int p5]) ++ List.replicate (6 - (lg_sl ([.ref m9, .long y1, .long y2, .int p5])).length) Slot.unset).toArray = ls at hl ⊢
  have hl : lv_has ls 6 [(0, .ref m9), (1, .long y1), (3, .long y2), (5, .int p5)] := hl
  have J37 : ∀ (ls : Array Slot), lv_has ls 6 [(0, .ref m9), (1, .long y1), (3, .long y2), (5, .int p5)] → W p l e (headSpec wsX1_round ({ frames := 1, cells := 0, slots := 0, locals := 29 })).room s m ([.ref m9, .long y1, .long y2, .int p5] : List Value).toArray below meth c s.heap [] 0 0 (MQ below (va_Ql (fun r (_ : Unit) => kd4 (0 ≤ p5.toInt ∧ p5.toInt ≤ 2) (ok_rd y1 y2) True True = 0 → r.toInt = rnd y1.toInt y2.toInt p5.toInt) (fun (_ : Unit) t => at_w dC dI cI A (wM m9 b1 b2 b3 b4 b5 b6 cI S F D J X Y (kd4 (0 ≤ p5.toInt ∧ p5.toInt ≤ 2) (ok_rd y1 y2) True True) n ar sl hd hu hw im tc fa up dn) t) A) ([.ref m9, .long y1, .long y2, .int p5] : List Value).toArray s 0 0 A) (F0 m 37 ls [.int (bI (ok_rd y1 y2)), .int (bI (0 ≤ p5.toInt ∧ p5.toInt ≤ 2)), .ref m9]) := by
    intro ls hl
    refine lv_iconst (v := 1) hx hb dX1_round_37 (by decide) ?_
    refine lv_iconst (v := 1) hx hb dX1_round_38 (by decide) ?_
    have hFc := va_free (wc := (wM m9 b1 b2 b3 b4 b5 b6 cI S F D J X Y th n ar sl hd hu hw im tc fa up dn)) hD hS hA [0, 1, 2, 3, 4, 5, 6] rfl
    refine va_calli (va_runV (As := [.int (bI (0 ≤ p5.toInt ∧ p5.toInt ≤ 2)), .int (bI (ok_rd y1 y2)), .int 1, .int 1]) (rest := []) ⟨hx, hb, hml, hown, hts⟩ (c_X1_goes l dC dI s.heap.size m9 b1 b2 b3 b4 b5 b6 cI S F D J X Y th n ar sl hd hu hw im tc fa up dn (0 ≤ p5.toInt ∧ p5.toInt ≤ 2) (ok_rd y1 y2) True True) (cwV 4 hts (gV wl_X1_47 wi_X1_goes wv_X1_goes wi_X1 wc_X1_goes) rfl rfl rfl (by decide +kernel) ⟨Nat.le_of_ble_eq_true rfl, Nat.le_of_ble_eq_true rfl⟩) ⟨fun a U g mk q => ⟨q.1, q.2.1, q.2.2.1, va_K.moved (u := U) (U := U.calling g mk a) (Vm.Alike.refl U.vm) q.2.2.2.1, q.2.2.2.2⟩, va_recv hK hP (ci := 1) (q0 := 0) rfl rfl, fun U hU hW => ⟨rfl, by rw [hU], by rw [hU]; exact hP, va_K.moved hW.alike hK, hD.weaken (fun _ _ _ _ => trivial)⟩⟩ rfl rfl hl.1 rfl (lv_room (Nat.le_of_ble_eq_true rfl)) dX1_round_39 ⟨Nat.le_of_ble_eq_true rfl, Nat.le_of_ble_eq_true rfl⟩) hS (fun q _ h => hFc q h) hFc (fun r39 u39 t H1 locs ht hvm h39 hB hz1 hk1 hS => ?_)
    obtain ⟨hP1, hK1, hD1⟩ := hB
    rw [ht] at hP1
    obtain ⟨hP, hD⟩ := va_join (wr := []) (w1 := (wM m9 b1 b2 b3 b4 b5 b6 cI S F D J X Y (kd4 (0 ≤ p5.toInt ∧ p5.toInt ≤ 2) (ok_rd y1 y2) True True) n ar sl hd hu hw im tc fa up dn)) hP hD [0, 1, 2, 3, 4, 5, 6] [] rfl rfl (by decide) (by decide) hk1 hFc hP1 hD1
    generalize H1 = H at hP hS ⊢
    have hP : va_P (dC, dI) vwCl (wM m9 b1 b2 b3 b4 b5 b6 cI S F D J X Y (kd4 (0 ≤ p5.toInt ∧ p5.toInt ≤ 2) (ok_rd y1 y2) True True) n ar sl hd hu hw im tc fa up dn) H := hP
    have hD : va_D A (wM m9 b1 b2 b3 b4 b5 b6 cI S F D J X Y (kd4 (0 ≤ p5.toInt ∧ p5.toInt ≤ 2) (ok_rd y1 y2) True True) n ar sl hd hu hw im tc fa up dn) := hD
    subst h39
    refine lv_if_ne (tgt := 47) hx hb dX1_round_42 (by decide) (fun c42 => ?_) (fun c42 => ?_)
    · -- taken at 42
      have c42 := bI_ne0.mp c42
      obtain ⟨e1, ⟨⟨e2, e3⟩, e4, e5⟩, -⟩ := kd_z c42
      refine lv_lload_n hx hb dX1_round_47 rfl (lv_at hl 1 rfl) ?_
      refine lv_lload_n hx hb dX1_round_48 rfl (lv_at hl 2 rfl) ?_
      refine lv_iload hx hb dX1_round_49 (lv_at hl 3 rfl) ?_
      refine vp_callSl (W.runS (As := [.long y1, .long y2, .int p5]) (rest := []) ⟨hx, hb, hml, hown, hts⟩ (c_X1_rounded l y1 y2 p5 e4 e5 e2 e3 e1) (va_cwS 3 hts (gS wl_X1_89 ws_X1_rounded wi_X1 wc_X1_rounded) rfl rfl rfl (by decide +kernel) ⟨Nat.le_of_ble_eq_true rfl, Nat.le_of_ble_eq_true rfl⟩) ⟨fun _ _ _ _ q => q, fun U hU hW => ⟨rfl, trivial⟩⟩ rfl rfl hl.1 rfl (lv_room (Nat.le_of_ble_eq_true rfl)) dX1_round_51 ⟨Nat.le_of_ble_eq_true rfl, Nat.le_of_ble_eq_true rfl⟩) (fun r51 h51 => ?_)
      exact W.lret (v := r51) hx hb hr (fun t ht hW => ⟨⟨r51, (), rfl, fun _ => h51, ⟨by rw [ht]; exact hP, va_K.moved hW.alike hK, hD⟩⟩, hS.F ht⟩) hS.2.2 dX1_round_54
    · -- not taken at 42
      have c42 := bI_eq0.mp c42
      refine lv_lconst (v := 0) hx hb dX1_round_45 (by decide) ?_
      exact W.lret (v := 0) hx hb hr (fun t ht hW => ⟨⟨0, (), rfl, fun q => absurd q c42, ⟨by rw [ht]; exact hP, va_K.moved hW.alike hK, hD⟩⟩, hS.F ht⟩) hS.2.2 dX1_round_46
  refine lv_aload_n hx hb dX1_round_0 rfl (lv_at hl 0 rfl) ?_
  refine lv_iload hx hb dX1_round_1 (lv_at hl 3 rfl) ?_
  refine lv_iconst (v := 0) hx hb dX1_round_3 (by decide) ?_
  refine lv_iconst (v := 2) hx hb dX1_round_4 (by decide) ?_
  refine vp_callSi (W.runS (As := [.int p5, .int 0, .int 2]) (rest := [.ref m9]) ⟨hx, hb, hml, hown, hts⟩ (c_X1_in l p5 0 2 0 2 (by decide) (by decide)) (va_cwS 3 hts (gS wl_X1_40 ws_X1_in wi_X1 wc_X1_in) rfl rfl rfl (by decide +kernel) ⟨Nat.le_of_ble_eq_true rfl, Nat.le_of_ble_eq_true rfl⟩) ⟨fun _ _ _ _ q => q, fun U hU hW => ⟨rfl, trivial⟩⟩ rfl rfl hl.1 rfl (lv_room (Nat.le_of_ble_eq_true rfl)) dX1_round_5 ⟨Nat.le_of_ble_eq_true rfl, Nat.le_of_ble_eq_true rfl⟩) (fun r5 h5 => ?_)
  subst h5
  refine lv_lload_n hx hb dX1_round_8 rfl (lv_at hl 2 rfl) ?_
  refine lv_lconst (v := 1) hx hb dX1_round_9 (by decide) ?_
  refine lv_ldc2 (v := 1000000000000) hx hb hown k92 dX1_round_10 ?_
  refine vp_callSi (W.runS (As := [.long y2, .long 1, .long 1000000000000]) (rest := [.int (bI (0 ≤ p5.toInt ∧ p5.toInt ≤ 2)), .ref m9]) ⟨hx, hb, hml, hown, hts⟩ (c_X1_in8 l y2 1 1000000000000 1 1000000000000 (by decide) (by decide)) (va_cwS 3 hts (gS wl_X1_94 ws_X1_in8 wi_X1 wc_X1_in8) rfl rfl rfl (by decide +kernel) ⟨Nat.le_of_ble_eq_true rfl, Nat.le_of_ble_eq_true rfl⟩) ⟨fun _ _ _ _ q => q, fun U hU hW => ⟨rfl, trivial⟩⟩ rfl rfl hl.1 rfl (lv_room (Nat.le_of_ble_eq_true rfl)) dX1_round_13 ⟨Nat.le_of_ble_eq_true rfl, Nat.le_of_ble_eq_true rfl⟩) (fun r13 h13 => ?_)
  subst h13
  refine lv_if_eq (tgt := 36) hx hb dX1_round_16 (by decide) (fun c16 => ?_) (fun c16 => ?_)
  · -- taken at 16
    have c16 := bI_eq0.mp c16
    refine lv_iconst (v := 0) hx hb dX1_round_36 (by decide) ?_
    refine W.eq (congrArg (fun z => F0 m 37 ls (.int z :: [.int (bI (0 ≤ p5.toInt ∧ p5.toInt ≤ 2)), .ref m9])) ((bI_0 (c := ok_rd y1 y2) (by unfold ok_rd; omega)).symm)) ?_
    exact J37 ls (lv_sub hl [0, 1, 2, 3] rfl)
  · -- not taken at 16
    have c16 := bI_ne0.mp c16
    refine lv_lload_n hx hb dX1_round_19 rfl (lv_at hl 1 rfl) ?_
    refine lv_ldc2 (v := (-1000000000000)) hx hb hown k98 dX1_round_20 ?_
    refine lv_ldc2 (v := 1000000000000) hx hb hown k92 dX1_round_23 ?_
    refine vp_callSi (W.runS (As := [.long y1, .long (-1000000000000), .long 1000000000000]) (rest := [.int (bI (0 ≤ p5.toInt ∧ p5.toInt ≤ 2)), .ref m9]) ⟨hx, hb, hml, hown, hts⟩ (c_X1_in8 l y1 (-1000000000000) 1000000000000 (-1000000000000) 1000000000000 (by decide) (by decide)) (va_cwS 3 hts (gS wl_X1_94 ws_X1_in8 wi_X1 wc_X1_in8) rfl rfl rfl (by decide +kernel) ⟨Nat.le_of_ble_eq_true rfl, Nat.le_of_ble_eq_true rfl⟩) ⟨fun _ _ _ _ q => q, fun U hU hW => ⟨rfl, trivial⟩⟩ rfl rfl hl.1 rfl (lv_room (Nat.le_of_ble_eq_true rfl)) dX1_round_26 ⟨Nat.le_of_ble_eq_true rfl, Nat.le_of_ble_eq_true rfl⟩) (fun r26 h26 => ?_)
    subst h26
    refine lv_if_eq (tgt := 36) hx hb dX1_round_29 (by decide) (fun c29 => ?_) (fun c29 => ?_)
    · -- taken at 29
      have c29 := bI_eq0.mp c29
      refine lv_iconst (v := 0) hx hb dX1_round_36 (by decide) ?_
      refine W.eq (congrArg (fun z => F0 m 37 ls (.int z :: [.int (bI (0 ≤ p5.toInt ∧ p5.toInt ≤ 2)), .ref m9])) ((bI_0 (c := ok_rd y1 y2) (by unfold ok_rd; omega)).symm)) ?_
      exact J37 ls (lv_sub hl [0, 1, 2, 3] rfl)
    · -- not taken at 29
      have c29 := bI_ne0.mp c29
      refine lv_iconst (v := 1) hx hb dX1_round_32 (by decide) ?_
      refine lv_goto (tgt := 37) hx hb dX1_round_33 (by decide) ?_
      refine W.eq (congrArg (fun z => F0 m 37 ls (.int z :: [.int (bI (0 ≤ p5.toInt ∧ p5.toInt ≤ 2)), .ref m9])) ((bI_1 (c := ok_rd y1 y2) (by unfold ok_rd; omega)).symm)) ?_
      exact J37 ls (lv_sub hl [0, 1, 2, 3] rfl)
set_option maxHeartbeats 4000000 in
set_option maxRecDepth 100000 in
theorem c_X1_machine (l : Launch) (dC : Nat → ClassId) (dI : Nat → Nat → Nat) (sz : Nat) (m9 b1 b2 b3 b4 b5 b6 : Nat) (cI : ClassId) (S F D J X Y : Nat → Int32) (th : Int32) (n : Nat) (ar sl hd : Int32) (hu hw : Int64) (im tc : Nat) (fa : Int32) (up dn : Int64) (p1 p2 : Int32) : Met l yX1_machine wsX1_machine ({ frames := 1, cells := 0, slots := 0, locals := 24 }) (va_Pc [.ref m9, .int p1, .int p2] (fun U => U.heap.size = sz ∧ va_P (dC, dI) vwCl (wM m9 b1 b2 b3 b4 b5 b6 cI S F D J X Y th n ar sl hd hu hw im tc fa up dn) U.heap ∧ va_K (dC, dI) vwCl [(cI, .int)] U ∧ va_D (fun _ => True) (wM m9 b1 b2 b3 b4 b5 b6 cI S F D J X Y th n ar sl hd hu hw im tc fa up dn))) (va_Qi (fun r (_ : Unit) => kd4 (ok_mac p1 p2) True True True = 0 → r = bI (mfail p1 p2)) (fun (_ : Unit) t => (kd4 (ok_mac p1 p2) True True True = 0 ∧ at_w dC dI cI (va_A (wM m9 b1 b2 b3 b4 b5 b6 cI S F D J X Y th n ar sl hd hu hw im tc fa up dn) sz) (wM m9 b1 b2 b3 b4 b5 b6 cI S F D J X Y (kd4 (ok_mac p1 p2) True True True) n ar sl hd hu hw im tc (bI (mfail p1 p2)) up dn) t) ∨ (¬ kd4 (ok_mac p1 p2) True True True = 0 ∧ at_w dC dI cI (va_A (wM m9 b1 b2 b3 b4 b5 b6 cI S F D J X Y th n ar sl hd hu hw im tc fa up dn) sz) (wM m9 b1 b2 b3 b4 b5 b6 cI S F D J X Y (kd4 (ok_mac p1 p2) True True True) n ar sl hd hu hw im tc fa up dn) t)) (va_A (wM m9 b1 b2 b3 b4 b5 b6 cI S F D J X Y th n ar sl hd hu hw im tc fa up dn) sz)) 0 0 (va_A (wM m9 b1 b2 b3 b4 b5 b6 cI S F D J X Y th n ar sl hd hu hw im tc fa up dn) sz) := by
  refine Met.ofW (cc := cX1_machine) (maxL := 4) (ret := (some .boolean)) (by decide) rfl ?_
  intro p e s m args below meth c s₁ B hml hv
  obtain ⟨rfl, hsz, hP, hK, hD0⟩ := hv
  have hx := B.exec
  have hb := B.bytes
  have hr := B.returns
  have hts := atoms_spec (ws := wsX1_machine) B.pre
  have hown : s.vm.findClass RX1 = some m.cls := findClass_of_methodNamed B.named
  have hlocks := B.notSynchronized
  have hinX1 : ∀ w ∈ wsX10, w ∈ wsX1_machine := fun w h => List.mem_cons_of_mem _ (inX1 w h)
  have k39 := hts _ (List.mem_cons_of_mem _ wl_X1_39)
  have f100 := hts _ (List.mem_cons_of_mem _ wl_X1_100)
  subst hsz
  have hD := hD0.self (sz := s.heap.size)
  generalize hAe : va_A (wM m9 b1 b2 b3 b4 b5 b6 cI S F D J X Y th n ar sl hd hu hw im tc fa up dn) s.heap.size = A at hD ⊢
  have hA : ∀ q : Nat, s.heap.size ≤ q → A q := fun q h => by rw [← hAe]; exact Or.inr h
  have hS : va_S A s.heap s.heap [] := va_S.rf
  have hl := lv_entry ([.ref m9, .int p1, .int p2]) (n := 4) (Nat.le_of_ble_eq_true rfl)
  rw [lg_entry_eq]
  generalize (lg_sl ([.ref m9, .int p1, .int p2]) ++ List.replicate (4 - (lg_sl ([.ref m9, .int p1, .int p2])).length) Slot.unset).toArray = ls at hl ⊢
  have hl : lv_has ls 4 [(0, .ref m9), (1, .int p1), (2, .int p2)] := hl
  have J26 : ∀ (ls : Array Slot), lv_has ls 4 [(0, .ref m9), (1, .int p1), (2, .int p2)] → W p l e (headSpec wsX1_machine ({ frames := 1, cells := 0, slots := 0, locals := 24 })).room s m ([.ref m9, .int p1, .int p2] : List Value).toArray below meth c s.heap [] 0 0 (MQ below (va_Qi (fun r (_ : Unit) => kd4 (ok_mac p1 p2) True True True = 0 → r = bI (mfail p1 p2)) (fun (_ : Unit) t => (kd4 (ok_mac p1 p2) True True True = 0 ∧ at_w dC dI cI A (wM m9 b1 b2 b3 b4 b5 b6 cI S F D J X Y (kd4 (ok_mac p1 p2) True True True) n ar sl hd hu hw im tc (bI (mfail p1 p2)) up dn) t) ∨ (¬ kd4 (ok_mac p1 p2) True True True = 0 ∧ at_w dC dI cI A (wM m9 b1 b2 b3 b4 b5 b6 cI S F D J X Y (kd4 (ok_mac p1 p2) True True True) n ar sl hd hu hw im tc fa up dn) t)) A) ([.ref m9, .int p1, .int p2] : List Value).toArray s 0 0 A) (F0 m 26 ls [.int (bI (ok_mac p1 p2)), .ref m9]) := by
    intro ls hl
    refine lv_iconst (v := 1) hx hb dX1_machine_26 (by decide) ?_
    refine lv_iconst (v := 1) hx hb dX1_machine_27 (by decide) ?_
    refine lv_iconst (v := 1) hx hb dX1_machine_28 (by decide) ?_
    have hFc := va_free (wc := (wM m9 b1 b2 b3 b4 b5 b6 cI S F D J X Y th n ar sl hd hu hw im tc fa up dn)) hD hS hA [0, 1, 2, 3, 4, 5, 6] rfl
    refine va_calli (va_runV (As := [.int (bI (ok_mac p1 p2)), .int 1, .int 1, .int 1]) (rest := []) ⟨hx, hb, hml, hown, hts⟩ (c_X1_goes l dC dI s.heap.size m9 b1 b2 b3 b4 b5 b6 cI S F D J X Y th n ar sl hd hu hw im tc fa up dn (ok_mac p1 p2) True True True) (cwV 4 hts (gV wl_X1_47 wi_X1_goes wv_X1_goes wi_X1 wc_X1_goes) rfl rfl rfl (by decide +kernel) ⟨Nat.le_of_ble_eq_true rfl, Nat.le_of_ble_eq_true rfl⟩) ⟨fun a U g mk q => ⟨q.1, q.2.1, q.2.2.1, va_K.moved (u := U) (U := U.calling g mk a) (Vm.Alike.refl U.vm) q.2.2.2.1, q.2.2.2.2⟩, va_recv hK hP (ci := 1) (q0 := 0) rfl rfl, fun U hU hW => ⟨rfl, by rw [hU], by rw [hU]; exact hP, va_K.moved hW.alike hK, hD.weaken (fun _ _ _ _ => trivial)⟩⟩ rfl rfl hl.1 rfl (lv_room (Nat.le_of_ble_eq_true rfl)) dX1_machine_29 ⟨Nat.le_of_ble_eq_true rfl, Nat.le_of_ble_eq_true rfl⟩) hS (fun q _ h => hFc q h) hFc (fun r29 u29 t H1 locs ht hvm h29 hB hz1 hk1 hS => ?_)
    obtain ⟨hP1, hK1, hD1⟩ := hB
    rw [ht] at hP1
    obtain ⟨hP, hD⟩ := va_join (wr := []) (w1 := (wM m9 b1 b2 b3 b4 b5 b6 cI S F D J X Y (kd4 (ok_mac p1 p2) True True True) n ar sl hd hu hw im tc fa up dn)) hP hD [0, 1, 2, 3, 4, 5, 6] [] rfl rfl (by decide) (by decide) hk1 hFc hP1 hD1
    generalize H1 = H at hP hS ⊢
    have hP : va_P (dC, dI) vwCl (wM m9 b1 b2 b3 b4 b5 b6 cI S F D J X Y (kd4 (ok_mac p1 p2) True True True) n ar sl hd hu hw im tc fa up dn) H := hP
    have hD : va_D A (wM m9 b1 b2 b3 b4 b5 b6 cI S F D J X Y (kd4 (ok_mac p1 p2) True True True) n ar sl hd hu hw im tc fa up dn) := hD
    subst h29
    refine lv_if_ne (tgt := 37) hx hb dX1_machine_32 (by decide) (fun c32 => ?_) (fun c32 => ?_)
    · -- taken at 32
      have c32 := bI_ne0.mp c32
      have e9 := mac_e (kd_z c32).1
      have J66 : ∀ (ls : Array Slot), lv_has ls 4 [(0, .ref m9), (1, .int p1), (2, .int p2)] → W p l e (headSpec wsX1_machine ({ frames := 1, cells := 0, slots := 0, locals := 24 })).room s m ([.ref m9, .int p1, .int p2] : List Value).toArray below meth c H locs 0 0 (MQ below (va_Qi (fun r (_ : Unit) => kd4 (ok_mac p1 p2) True True True = 0 → r = bI (mfail p1 p2)) (fun (_ : Unit) t => (kd4 (ok_mac p1 p2) True True True = 0 ∧ at_w dC dI cI A (wM m9 b1 b2 b3 b4 b5 b6 cI S F D J X Y (kd4 (ok_mac p1 p2) True True True) n ar sl hd hu hw im tc (bI (mfail p1 p2)) up dn) t) ∨ (¬ kd4 (ok_mac p1 p2) True True True = 0 ∧ at_w dC dI cI A (wM m9 b1 b2 b3 b4 b5 b6 cI S F D J X Y (kd4 (ok_mac p1 p2) True True True) n ar sl hd hu hw im tc fa up dn) t)) A) ([.ref m9, .int p1, .int p2] : List Value).toArray s 0 0 A) (F0 m 66 ls [.int (bI (mfail p1 p2)), .ref m9]) := by
        intro ls hl
        refine va_put (D := (dC, dI)) (ci := 1) (v := .int (bI (mfail p1 p2))) (ty := .boolean) (C := RX1) (T := TX1) (N := 18) hx hb hts hinX1 tyX1 tyX1_ok nmX1 hown hK hP hD hS 0 rfl rfl 15 (by decide) f100 (fun _ h9 => h9) rfl (by decide +kernel) (bI_nar) (bI_fit) (Nat.le_of_ble_eq_true rfl) dX1_machine_66 (fun H locs hP hD hS => ?_)
        have hP : va_P (dC, dI) vwCl (wM m9 b1 b2 b3 b4 b5 b6 cI S F D J X Y (kd4 (ok_mac p1 p2) True True True) n ar sl hd hu hw im tc (bI (mfail p1 p2)) up dn) H := hP
        have hD : va_D A (wM m9 b1 b2 b3 b4 b5 b6 cI S F D J X Y (kd4 (ok_mac p1 p2) True True True) n ar sl hd hu hw im tc (bI (mfail p1 p2)) up dn) := hD
        refine lv_aload_n hx hb dX1_machine_69 rfl (lv_at hl 0 rfl) ?_
        refine va_get (D := (dC, dI)) (ci := 1) (v := .int (bI (mfail p1 p2))) (C := RX1) (T := TX1) (N := 18) hx hb hts hinX1 hown hK hP 0 rfl rfl 15 (by decide) f100 (fun _ h9 => h9) rfl dX1_machine_70 ?_
        exact W.zret (v := bI (mfail p1 p2)) hx hb hr bI_nar (fun t ht hW => ⟨⟨bI (mfail p1 p2), (), rfl, fun _ => rfl, Or.inl ⟨c32, ⟨by rw [ht]; exact hP, va_K.moved hW.alike hK, hD⟩⟩⟩, hS.F ht⟩) hS.2.2 dX1_machine_73
      refine lv_iload_n hx hb dX1_machine_37 rfl (lv_at hl 1 rfl) ?_
      refine lv_iload_n hx hb dX1_machine_38 rfl (lv_at hl 2 rfl) ?_
      refine lv_icmp_le (tgt := 48) hx hb dX1_machine_39 (by decide) (fun c39 => ?_) (fun c39 => ?_)
      · -- taken at 39
        have c39 : p1.toInt ≤ p2.toInt := (Int32.le_iff_toInt_le).mp c39
        refine lv_iload_n hx hb dX1_machine_48 rfl (lv_at hl 2 rfl) ?_
        refine lv_iload_n hx hb dX1_machine_49 rfl (lv_at hl 1 rfl) ?_
        refine lv_isub hx hb dX1_machine_50 ?_
        refine lv_istore_n (lv' := [(3, .int (p2 - p1)), (0, .ref m9), (1, .int p1), (2, .int p2)]) hx hb dX1_machine_51 rfl hl (by decide) rfl (fun ls hl => ?_)
        refine lv_aload_n hx hb dX1_machine_52 rfl (lv_at hl 1 rfl) ?_
        refine lv_iload_n hx hb dX1_machine_53 rfl (lv_at hl 0 rfl) ?_
        refine lv_bipush (v := 100) hx hb dX1_machine_54 (by decide) ?_
        refine lv_imul hx hb dX1_machine_56 ?_
        refine lv_iload_n hx hb dX1_machine_57 rfl (lv_at hl 2 rfl) ?_
        refine lv_icmp_le (tgt := 65) hx hb dX1_machine_58 (by decide) (fun c58 => ?_) (fun c58 => ?_)
        · -- taken at 58
          have c58 : ((p2 - p1) * 100).toInt ≤ p1.toInt := (Int32.le_iff_toInt_le).mp c58
          refine lv_iconst (v := 0) hx hb dX1_machine_65 (by decide) ?_
          refine W.eq (congrArg (fun z => F0 m 66 ls (.int z :: [.ref m9])) ((bI_0 (c := mfail p1 p2) (by unfold mfail; omega)).symm)) ?_
          exact J66 ls (lv_sub hl [1, 2, 3] rfl)
        · -- not taken at 58
          have c58 : ¬ ((p2 - p1) * 100).toInt ≤ p1.toInt := fun q9 => c58 ((Int32.le_iff_toInt_le).mpr q9)
          refine lv_iconst (v := 1) hx hb dX1_machine_61 (by decide) ?_
          refine lv_goto (tgt := 66) hx hb dX1_machine_62 (by decide) ?_
          refine W.eq (congrArg (fun z => F0 m 66 ls (.int z :: [.ref m9])) ((bI_1 (c := mfail p1 p2) (by unfold mfail; omega)).symm)) ?_
          exact J66 ls (lv_sub hl [1, 2, 3] rfl)
      · -- not taken at 39
        have c39 : ¬ p1.toInt ≤ p2.toInt := fun q9 => c39 ((Int32.le_iff_toInt_le).mpr q9)
        refine lv_iload_n hx hb dX1_machine_42 rfl (lv_at hl 1 rfl) ?_
        refine lv_iload_n hx hb dX1_machine_43 rfl (lv_at hl 2 rfl) ?_
        refine lv_isub hx hb dX1_machine_44 ?_
        refine lv_goto (tgt := 51) hx hb dX1_machine_45 (by decide) ?_
        refine lv_istore_n (lv' := [(3, .int (p1 - p2)), (0, .ref m9), (1, .int p1), (2, .int p2)]) hx hb dX1_machine_51 rfl hl (by decide) rfl (fun ls hl => ?_)
        refine lv_aload_n hx hb dX1_machine_52 rfl (lv_at hl 1 rfl) ?_
        refine lv_iload_n hx hb dX1_machine_53 rfl (lv_at hl 0 rfl) ?_
        refine lv_bipush (v := 100) hx hb dX1_machine_54 (by decide) ?_
        refine lv_imul hx hb dX1_machine_56 ?_
        refine lv_iload_n hx hb dX1_machine_57 rfl (lv_at hl 2 rfl) ?_
        refine lv_icmp_le (tgt := 65) hx hb dX1_machine_58 (by decide) (fun c58 => ?_) (fun c58 => ?_)
        · -- taken at 58
          have c58 : ((p1 - p2) * 100).toInt ≤ p1.toInt := (Int32.le_iff_toInt_le).mp c58
          refine lv_iconst (v := 0) hx hb dX1_machine_65 (by decide) ?_
          refine W.eq (congrArg (fun z => F0 m 66 ls (.int z :: [.ref m9])) ((bI_0 (c := mfail p1 p2) (by unfold mfail; omega)).symm)) ?_
          exact J66 ls (lv_sub hl [1, 2, 3] rfl)
        · -- not taken at 58
          have c58 : ¬ ((p1 - p2) * 100).toInt ≤ p1.toInt := fun q9 => c58 ((Int32.le_iff_toInt_le).mpr q9)
          refine lv_iconst (v := 1) hx hb dX1_machine_61 (by decide) ?_
          refine lv_goto (tgt := 66) hx hb dX1_machine_62 (by decide) ?_
          refine W.eq (congrArg (fun z => F0 m 66 ls (.int z :: [.ref m9])) ((bI_1 (c := mfail p1 p2) (by unfold mfail; omega)).symm)) ?_
          exact J66 ls (lv_sub hl [1, 2, 3] rfl)
    · -- not taken at 32
      have c32 := bI_eq0.mp c32
      refine lv_iconst (v := 0) hx hb dX1_machine_35 (by decide) ?_
      exact W.zret (v := 0) hx hb hr rfl (fun t ht hW => ⟨⟨0, (), rfl, fun q => absurd q c32, Or.inr ⟨c32, ⟨by rw [ht]; exact hP, va_K.moved hW.alike hK, hD⟩⟩⟩, hS.F ht⟩) hS.2.2 dX1_machine_36
  refine lv_aload_n hx hb dX1_machine_0 rfl (lv_at hl 0 rfl) ?_
  refine lv_iload_n hx hb dX1_machine_1 rfl (lv_at hl 1 rfl) ?_
  refine lv_iconst (v := 1) hx hb dX1_machine_2 (by decide) ?_
  refine lv_ldc (v := 1000000) hx hb hown k39 dX1_machine_3 ?_
  refine vp_callSi (W.runS (As := [.int p1, .int 1, .int 1000000]) (rest := [.ref m9]) ⟨hx, hb, hml, hown, hts⟩ (c_X1_in l p1 1 1000000 1 1000000 (by decide) (by decide)) (va_cwS 3 hts (gS wl_X1_40 ws_X1_in wi_X1 wc_X1_in) rfl rfl rfl (by decide +kernel) ⟨Nat.le_of_ble_eq_true rfl, Nat.le_of_ble_eq_true rfl⟩) ⟨fun _ _ _ _ q => q, fun U hU hW => ⟨rfl, trivial⟩⟩ rfl rfl hl.1 rfl (lv_room (Nat.le_of_ble_eq_true rfl)) dX1_machine_5 ⟨Nat.le_of_ble_eq_true rfl, Nat.le_of_ble_eq_true rfl⟩) (fun r5 h5 => ?_)
  subst h5
  refine lv_if_eq (tgt := 25) hx hb dX1_machine_8 (by decide) (fun c8 => ?_) (fun c8 => ?_)
  · -- taken at 8
    have c8 := bI_eq0.mp c8
    refine lv_iconst (v := 0) hx hb dX1_machine_25 (by decide) ?_
    refine W.eq (congrArg (fun z => F0 m 26 ls (.int z :: [.ref m9])) ((bI_0 (c := ok_mac p1 p2) (by unfold ok_mac; omega)).symm)) ?_
    exact J26 ls (lv_sub hl [0, 1, 2] rfl)
  · -- not taken at 8
    have c8 := bI_ne0.mp c8
    refine lv_iload_n hx hb dX1_machine_11 rfl (lv_at hl 2 rfl) ?_
    refine lv_iconst (v := 1) hx hb dX1_machine_12 (by decide) ?_
    refine lv_ldc (v := 1000000) hx hb hown k39 dX1_machine_13 ?_
    refine vp_callSi (W.runS (As := [.int p2, .int 1, .int 1000000]) (rest := [.ref m9]) ⟨hx, hb, hml, hown, hts⟩ (c_X1_in l p2 1 1000000 1 1000000 (by decide) (by decide)) (va_cwS 3 hts (gS wl_X1_40 ws_X1_in wi_X1 wc_X1_in) rfl rfl rfl (by decide +kernel) ⟨Nat.le_of_ble_eq_true rfl, Nat.le_of_ble_eq_true rfl⟩) ⟨fun _ _ _ _ q => q, fun U hU hW => ⟨rfl, trivial⟩⟩ rfl rfl hl.1 rfl (lv_room (Nat.le_of_ble_eq_true rfl)) dX1_machine_15 ⟨Nat.le_of_ble_eq_true rfl, Nat.le_of_ble_eq_true rfl⟩) (fun r15 h15 => ?_)
    subst h15
    refine lv_if_eq (tgt := 25) hx hb dX1_machine_18 (by decide) (fun c18 => ?_) (fun c18 => ?_)
    · -- taken at 18
      have c18 := bI_eq0.mp c18
      refine lv_iconst (v := 0) hx hb dX1_machine_25 (by decide) ?_
      refine W.eq (congrArg (fun z => F0 m 26 ls (.int z :: [.ref m9])) ((bI_0 (c := ok_mac p1 p2) (by unfold ok_mac; omega)).symm)) ?_
      exact J26 ls (lv_sub hl [0, 1, 2] rfl)
    · -- not taken at 18
      have c18 := bI_ne0.mp c18
      refine lv_iconst (v := 1) hx hb dX1_machine_21 (by decide) ?_
      refine lv_goto (tgt := 26) hx hb dX1_machine_22 (by decide) ?_
      refine W.eq (congrArg (fun z => F0 m 26 ls (.int z :: [.ref m9])) ((bI_1 (c := ok_mac p1 p2) (by unfold ok_mac; omega)).symm)) ?_
      exact J26 ls (lv_sub hl [0, 1, 2] rfl)
set_option maxHeartbeats 4000000 in
set_option maxRecDepth 100000 in
theorem c_X1_peak (l : Launch) (dC : Nat → ClassId) (dI : Nat → Nat → Nat) (sz : Nat) (m9 b1 b2 b3 b4 b5 b6 : Nat) (cI : ClassId) (S F D J X Y : Nat → Int32) (th : Int32) (n : Nat) (ar sl hd : Int32) (hu hw : Int64) (im tc : Nat) (fa : Int32) (up dn : Int64) (p1 : Int32) (hn : n ≤ 40) (har : 0 ≤ ar.toInt) : Met l yX1_peak wsX1_peak ({ frames := 1, cells := 0, slots := 0, locals := 24 }) (va_Pc [.ref m9, .int p1] (fun U => U.heap.size = sz ∧ va_P (dC, dI) vwCl (wM m9 b1 b2 b3 b4 b5 b6 cI S F D J X Y th n ar sl hd hu hw im tc fa up dn) U.heap ∧ va_K (dC, dI) vwCl [(cI, .int)] U ∧ va_D (fun _ => True) (wM m9 b1 b2 b3 b4 b5 b6 cI S F D J X Y th n ar sl hd hu hw im tc fa up dn))) (va_Qi (fun r (_ : Unit) => kd4 (0 ≤ p1.toInt ∧ p1.toInt ≤ 2) (ok_pk n ar p1) True True = 0 → r = pka S F n sl ar p1) (fun (_ : Unit) t => at_w dC dI cI (va_A (wM m9 b1 b2 b3 b4 b5 b6 cI S F D J X Y th n ar sl hd hu hw im tc fa up dn) sz) (wM m9 b1 b2 b3 b4 b5 b6 cI S F D J X Y (kd4 (0 ≤ p1.toInt ∧ p1.toInt ≤ 2) (ok_pk n ar p1) True True) n ar sl hd hu hw im tc fa up dn) t) (va_A (wM m9 b1 b2 b3 b4 b5 b6 cI S F D J X Y th n ar sl hd hu hw im tc fa up dn) sz)) 0 0 (va_A (wM m9 b1 b2 b3 b4 b5 b6 cI S F D J X Y th n ar sl hd hu hw im tc fa up dn) sz) := by
  refine Met.ofW (cc := cX1_peak) (maxL := 3) (ret := (some .int)) (by decide) rfl ?_
  intro p e s m args below meth c s₁ B hml hv
  obtain ⟨rfl, hsz, hP, hK, hD0⟩ := hv
  have hx := B.exec
  have hb := B.bytes
  have hr := B.returns
  have hts := atoms_spec (ws := wsX1_peak) B.pre
  have hown : s.vm.findClass RX1 = some m.cls := findClass_of_methodNamed B.named
  have hlocks := B.notSynchronized
  have hinX1 : ∀ w ∈ wsX10, w ∈ wsX1_peak := fun w h => List.mem_cons_of_mem _ (inX1 w h)
  have f44 := hts _ (List.mem_cons_of_mem _ wl_X1_44)
  have f51 := hts _ (List.mem_cons_of_mem _ wl_X1_51)
  have f13 := hts _ (List.mem_cons_of_mem _ wl_X1_13)
  have f7 := hts _ (List.mem_cons_of_mem _ wl_X1_7)
  have f54 := hts _ (List.mem_cons_of_mem _ wl_X1_54)
  subst hsz
  have hD := hD0.self (sz := s.heap.size)
  generalize hAe : va_A (wM m9 b1 b2 b3 b4 b5 b6 cI S F D J X Y th n ar sl hd hu hw im tc fa up dn) s.heap.size = A at hD ⊢
  have hA : ∀ q : Nat, s.heap.size ≤ q → A q := fun q h => by rw [← hAe]; exact Or.inr h
  have hS : va_S A s.heap s.heap [] := va_S.rf
  have hl := lv_entry ([.ref m9, .int p1]) (n := 3) (Nat.le_of_ble_eq_true rfl)
  rw [lg_entry_eq]
  generalize (lg_sl ([.ref m9, .int p1]) ++ List.replicate (3 - (lg_sl ([.ref m9, .int p1])).length) Slot.unset).toArray = ls at hl ⊢
  have hl : lv_has ls 3 [(0, .ref m9), (1, .int p1)] := hl
  have J31 : ∀ (ls : Array Slot), lv_has ls 3 [(0, .ref m9), (1, .int p1)] → W p l e (headSpec wsX1_peak ({ frames := 1, cells := 0, slots := 0, locals := 24 })).room s m ([.ref m9, .int p1] : List Value).toArray below meth c s.heap [] 0 0 (MQ below (va_Qi (fun r (_ : Unit) => kd4 (0 ≤ p1.toInt ∧ p1.toInt ≤ 2) (ok_pk n ar p1) True True = 0 → r = pka S F n sl ar p1) (fun (_ : Unit) t => at_w dC dI cI A (wM m9 b1 b2 b3 b4 b5 b6 cI S F D J X Y (kd4 (0 ≤ p1.toInt ∧ p1.toInt ≤ 2) (ok_pk n ar p1) True True) n ar sl hd hu hw im tc fa up dn) t) A) ([.ref m9, .int p1] : List Value).toArray s 0 0 A) (F0 m 31 ls [.int (bI (ok_pk n ar p1)), .int (bI (0 ≤ p1.toInt ∧ p1.toInt ≤ 2)), .ref m9]) := by
    intro ls hl
    refine lv_iconst (v := 1) hx hb dX1_peak_31 (by decide) ?_
    refine lv_iconst (v := 1) hx hb dX1_peak_32 (by decide) ?_
    have hFc := va_free (wc := (wM m9 b1 b2 b3 b4 b5 b6 cI S F D J X Y th n ar sl hd hu hw im tc fa up dn)) hD hS hA [0, 1, 2, 3, 4, 5, 6] rfl
    refine va_calli (va_runV (As := [.int (bI (0 ≤ p1.toInt ∧ p1.toInt ≤ 2)), .int (bI (ok_pk n ar p1)), .int 1, .int 1]) (rest := []) ⟨hx, hb, hml, hown, hts⟩ (c_X1_goes l dC dI s.heap.size m9 b1 b2 b3 b4 b5 b6 cI S F D J X Y th n ar sl hd hu hw im tc fa up dn (0 ≤ p1.toInt ∧ p1.toInt ≤ 2) (ok_pk n ar p1) True True) (cwV 4 hts (gV wl_X1_47 wi_X1_goes wv_X1_goes wi_X1 wc_X1_goes) rfl rfl rfl (by decide +kernel) ⟨Nat.le_of_ble_eq_true rfl, Nat.le_of_ble_eq_true rfl⟩) ⟨fun a U g mk q => ⟨q.1, q.2.1, q.2.2.1, va_K.moved (u := U) (U := U.calling g mk a) (Vm.Alike.refl U.vm) q.2.2.2.1, q.2.2.2.2⟩, va_recv hK hP (ci := 1) (q0 := 0) rfl rfl, fun U hU hW => ⟨rfl, by rw [hU], by rw [hU]; exact hP, va_K.moved hW.alike hK, hD.weaken (fun _ _ _ _ => trivial)⟩⟩ rfl rfl hl.1 rfl (lv_room (Nat.le_of_ble_eq_true rfl)) dX1_peak_33 ⟨Nat.le_of_ble_eq_true rfl, Nat.le_of_ble_eq_true rfl⟩) hS (fun q _ h => hFc q h) hFc (fun r33 u33 t H1 locs ht hvm h33 hB hz1 hk1 hS => ?_)
    obtain ⟨hP1, hK1, hD1⟩ := hB
    rw [ht] at hP1
    obtain ⟨hP, hD⟩ := va_join (wr := []) (w1 := (wM m9 b1 b2 b3 b4 b5 b6 cI S F D J X Y (kd4 (0 ≤ p1.toInt ∧ p1.toInt ≤ 2) (ok_pk n ar p1) True True) n ar sl hd hu hw im tc fa up dn)) hP hD [0, 1, 2, 3, 4, 5, 6] [] rfl rfl (by decide) (by decide) hk1 hFc hP1 hD1
    generalize H1 = H at hP hS ⊢
    have hP : va_P (dC, dI) vwCl (wM m9 b1 b2 b3 b4 b5 b6 cI S F D J X Y (kd4 (0 ≤ p1.toInt ∧ p1.toInt ≤ 2) (ok_pk n ar p1) True True) n ar sl hd hu hw im tc fa up dn) H := hP
    have hD : va_D A (wM m9 b1 b2 b3 b4 b5 b6 cI S F D J X Y (kd4 (0 ≤ p1.toInt ∧ p1.toInt ≤ 2) (ok_pk n ar p1) True True) n ar sl hd hu hw im tc fa up dn) := hD
    subst h33
    refine lv_if_ne (tgt := 41) hx hb dX1_peak_36 (by decide) (fun c36 => ?_) (fun c36 => ?_)
    · -- taken at 36
      have c36 := bI_ne0.mp c36
      obtain ⟨e1, e2, -⟩ := kd_z c36
      have e4 := e2.1
      have hpk := pkf_lt F (k := n) (by omega)
      refine lv_aload_n hx hb dX1_peak_41 rfl (lv_at hl 0 rfl) ?_
      refine vp_callSi (W.runV (As := []) (rest := []) ⟨hx, hb, hml, hown, hts⟩ (c_X1_peakRow l dC dI m9 b1 b2 b3 b4 b5 b6 cI S F D J X Y (kd4 (0 ≤ p1.toInt ∧ p1.toInt ≤ 2) (ok_pk n ar p1) True True) n ar sl hd hu hw im tc fa up dn hn (by omega)) (cwV 0 hts (gV wl_X1_77 wi_X1_peakRow wv_X1_peakRow wi_X1 wc_X1_peakRow) rfl rfl rfl (by decide +kernel) ⟨Nat.le_of_ble_eq_true rfl, Nat.le_of_ble_eq_true rfl⟩) ⟨fun a U g mk q => ⟨q.1, q.2.1, va_K.moved (u := U) (U := U.calling g mk a) (Vm.Alike.refl U.vm) q.2.2⟩, va_recv hK hP (ci := 1) (q0 := 0) rfl rfl, fun U hU hW => ⟨rfl, by rw [hU]; exact hP, va_K.moved hW.alike hK⟩⟩ rfl rfl hl.1 rfl (lv_room (Nat.le_of_ble_eq_true rfl)) dX1_peak_42 ⟨Nat.le_of_ble_eq_true rfl, Nat.le_of_ble_eq_true rfl⟩) (fun r42 h42 => ?_)
      subst h42
      refine lv_istore_n (lv' := [(2, .int (nI (pk F n))), (0, .ref m9), (1, .int p1)]) hx hb dX1_peak_45 rfl hl (by decide) rfl (fun ls hl => ?_)
      refine lv_iload_n hx hb dX1_peak_46 rfl (lv_at hl 2 rfl) ?_
      refine lv_if_ne (tgt := 59) hx hb dX1_peak_47 (by decide) (fun c47 => ?_) (fun c47 => ?_)
      · -- taken at 47
        have c47 : ¬ p1.toInt = 0 := fun q9 => c47 ((Int32.toInt_inj.symm).mpr q9)
        refine lv_iload_n hx hb dX1_peak_59 rfl (lv_at hl 2 rfl) ?_
        refine lv_iconst (v := 1) hx hb dX1_peak_60 (by decide) ?_
        refine lv_icmp_ne (tgt := 78) hx hb dX1_peak_61 (by decide) (fun c61 => ?_) (fun c61 => ?_)
        · -- taken at 61
          have c61 : ¬ p1.toInt = 1 := fun q9 => c61 ((Int32.toInt_inj.symm).mpr q9)
          have e3 : 0 < ar.toInt := by have := e2.2; omega
          refine lv_aload_n hx hb dX1_peak_78 rfl (lv_at hl 1 rfl) ?_
          refine va_get (D := (dC, dI)) (ci := 1) (v := .ref b2) (C := RX1) (T := TX1) (N := 18) hx hb hts hinX1 hown hK hP 0 rfl rfl 3 (by decide) f13 (fun _ h9 => h9) rfl dX1_peak_79 ?_
          refine lv_iload_n hx hb dX1_peak_82 rfl (lv_at hl 0 rfl) ?_
          refine va_iald (D := (dC, dI)) hx hb hK hP 2 0 rfl rfl (vp_in_nI (show pk F n < 40 by omega) (by decide)) dX1_peak_83 ?_
          refine W.eq (congrArg (fun z => F0 m 84 ls (.int z :: [])) (congrArg F (nI_clamp (show pk F n < 2 ^ 31 by omega)))) ?_
          refine lv_sipush (v := 1000) hx hb dX1_peak_84 (by decide) ?_
          refine lv_imul hx hb dX1_peak_87 ?_
          refine lv_aload_n hx hb dX1_peak_88 rfl (lv_at hl 1 rfl) ?_
          refine va_get (D := (dC, dI)) (ci := 1) (v := .int ar) (C := RX1) (T := TX1) (N := 18) hx hb hts hinX1 hown hK hP 0 rfl rfl 4 (by decide) f51 (fun _ h9 => h9) rfl dX1_peak_89 ?_
          refine lv_idiv hx hb dX1_peak_92 (fun q => by rw [q] at e3; exact absurd e3 (by decide)) ?_
          exact W.iret (v := ((F (pk F n)) * 1000) / ar) hx hb hr (fun t ht hW => ⟨⟨((F (pk F n)) * 1000) / ar, (), rfl, fun _ => (pka_2 c47 c61).symm, ⟨by rw [ht]; exact hP, va_K.moved hW.alike hK, hD⟩⟩, hS.F ht⟩) hS.2.2 dX1_peak_93
        · -- not taken at 61
          have c61 : p1.toInt = 1 := (Int32.toInt_inj.symm).mp c61
          refine lv_aload_n hx hb dX1_peak_64 rfl (lv_at hl 1 rfl) ?_
          refine va_get (D := (dC, dI)) (ci := 1) (v := .ref b1) (C := RX1) (T := TX1) (N := 18) hx hb hts hinX1 hown hK hP 0 rfl rfl 2 (by decide) f7 (fun _ h9 => h9) rfl dX1_peak_65 ?_
          refine lv_iload_n hx hb dX1_peak_68 rfl (lv_at hl 0 rfl) ?_
          refine va_iald (D := (dC, dI)) hx hb hK hP 1 0 rfl rfl (vp_in_nI (show pk F n < 40 by omega) (by decide)) dX1_peak_69 ?_
          refine W.eq (congrArg (fun z => F0 m 70 ls (.int z :: [])) (congrArg S (nI_clamp (show pk F n < 2 ^ 31 by omega)))) ?_
          refine lv_aload_n hx hb dX1_peak_70 rfl (lv_at hl 1 rfl) ?_
          refine va_get (D := (dC, dI)) (ci := 1) (v := .int sl) (C := RX1) (T := TX1) (N := 18) hx hb hts hinX1 hown hK hP 0 rfl rfl 5 (by decide) f54 (fun _ h9 => h9) rfl dX1_peak_71 ?_
          refine lv_isub hx hb dX1_peak_74 ?_
          refine lv_goto (tgt := 93) hx hb dX1_peak_75 (by decide) ?_
          exact W.iret (v := (S (pk F n)) - sl) hx hb hr (fun t ht hW => ⟨⟨(S (pk F n)) - sl, (), rfl, fun _ => (pka_1 c61).symm, ⟨by rw [ht]; exact hP, va_K.moved hW.alike hK, hD⟩⟩, hS.F ht⟩) hS.2.2 dX1_peak_93
      · -- not taken at 47
        have c47 : p1.toInt = 0 := (Int32.toInt_inj.symm).mp c47
        refine lv_aload_n hx hb dX1_peak_50 rfl (lv_at hl 1 rfl) ?_
        refine va_get (D := (dC, dI)) (ci := 1) (v := .ref b2) (C := RX1) (T := TX1) (N := 18) hx hb hts hinX1 hown hK hP 0 rfl rfl 3 (by decide) f13 (fun _ h9 => h9) rfl dX1_peak_51 ?_
        refine lv_iload_n hx hb dX1_peak_54 rfl (lv_at hl 0 rfl) ?_
        refine va_iald (D := (dC, dI)) hx hb hK hP 2 0 rfl rfl (vp_in_nI (show pk F n < 40 by omega) (by decide)) dX1_peak_55 ?_
        refine W.eq (congrArg (fun z => F0 m 56 ls (.int z :: [])) (congrArg F (nI_clamp (show pk F n < 2 ^ 31 by omega)))) ?_
        refine lv_goto (tgt := 93) hx hb dX1_peak_56 (by decide) ?_
        exact W.iret (v := F (pk F n)) hx hb hr (fun t ht hW => ⟨⟨F (pk F n), (), rfl, fun _ => (pka_0 c47).symm, ⟨by rw [ht]; exact hP, va_K.moved hW.alike hK, hD⟩⟩, hS.F ht⟩) hS.2.2 dX1_peak_93
    · -- not taken at 36
      have c36 := bI_eq0.mp c36
      refine lv_iconst (v := 0) hx hb dX1_peak_39 (by decide) ?_
      exact W.iret (v := 0) hx hb hr (fun t ht hW => ⟨⟨0, (), rfl, fun q => absurd q c36, ⟨by rw [ht]; exact hP, va_K.moved hW.alike hK, hD⟩⟩, hS.F ht⟩) hS.2.2 dX1_peak_40
  refine lv_aload_n hx hb dX1_peak_0 rfl (lv_at hl 0 rfl) ?_
  refine lv_iload_n hx hb dX1_peak_1 rfl (lv_at hl 1 rfl) ?_
  refine lv_iconst (v := 0) hx hb dX1_peak_2 (by decide) ?_
  refine lv_iconst (v := 2) hx hb dX1_peak_3 (by decide) ?_
  refine vp_callSi (W.runS (As := [.int p1, .int 0, .int 2]) (rest := [.ref m9]) ⟨hx, hb, hml, hown, hts⟩ (c_X1_in l p1 0 2 0 2 (by decide) (by decide)) (va_cwS 3 hts (gS wl_X1_40 ws_X1_in wi_X1 wc_X1_in) rfl rfl rfl (by decide +kernel) ⟨Nat.le_of_ble_eq_true rfl, Nat.le_of_ble_eq_true rfl⟩) ⟨fun _ _ _ _ q => q, fun U hU hW => ⟨rfl, trivial⟩⟩ rfl rfl hl.1 rfl (lv_room (Nat.le_of_ble_eq_true rfl)) dX1_peak_4 ⟨Nat.le_of_ble_eq_true rfl, Nat.le_of_ble_eq_true rfl⟩) (fun r4 h4 => ?_)
  subst h4
  refine lv_aload_n hx hb dX1_peak_7 rfl (lv_at hl 0 rfl) ?_
  refine va_get (D := (dC, dI)) (ci := 1) (v := .int (nI n)) (C := RX1) (T := TX1) (N := 18) hx hb hts hinX1 hown hK hP 0 rfl rfl 1 (by decide) f44 (fun _ h9 => h9) rfl dX1_peak_8 ?_
  refine lv_if_le (tgt := 30) hx hb dX1_peak_11 (by decide) (fun c11 => ?_) (fun c11 => ?_)
  · -- taken at 11
    have c11 : n ≤ 0 := (nI_leI (a := n) (b := 0) (by omega) (by omega)).mp c11
    refine lv_iconst (v := 0) hx hb dX1_peak_30 (by decide) ?_
    refine W.eq (congrArg (fun z => F0 m 31 ls (.int z :: [.int (bI (0 ≤ p1.toInt ∧ p1.toInt ≤ 2)), .ref m9])) ((bI_0 (c := ok_pk n ar p1) (by unfold ok_pk; omega)).symm)) ?_
    exact J31 ls (lv_sub hl [0, 1] rfl)
  · -- not taken at 11
    have c11 : ¬ n ≤ 0 := fun q9 => c11 ((nI_leI (a := n) (b := 0) (by omega) (by omega)).mpr q9)
    refine lv_iload_n hx hb dX1_peak_14 rfl (lv_at hl 1 rfl) ?_
    refine lv_iconst (v := 2) hx hb dX1_peak_15 (by decide) ?_
    refine lv_icmp_ne (tgt := 26) hx hb dX1_peak_16 (by decide) (fun c16 => ?_) (fun c16 => ?_)
    · -- taken at 16
      have c16 : ¬ p1.toInt = 2 := fun q9 => c16 ((Int32.toInt_inj.symm).mpr q9)
      refine lv_iconst (v := 1) hx hb dX1_peak_26 (by decide) ?_
      refine lv_goto (tgt := 31) hx hb dX1_peak_27 (by decide) ?_
      refine W.eq (congrArg (fun z => F0 m 31 ls (.int z :: [.int (bI (0 ≤ p1.toInt ∧ p1.toInt ≤ 2)), .ref m9])) ((bI_1 (c := ok_pk n ar p1) (by unfold ok_pk; omega)).symm)) ?_
      exact J31 ls (lv_sub hl [0, 1] rfl)
    · -- not taken at 16
      have c16 : p1.toInt = 2 := (Int32.toInt_inj.symm).mp c16
      refine lv_aload_n hx hb dX1_peak_19 rfl (lv_at hl 0 rfl) ?_
      refine va_get (D := (dC, dI)) (ci := 1) (v := .int ar) (C := RX1) (T := TX1) (N := 18) hx hb hts hinX1 hown hK hP 0 rfl rfl 4 (by decide) f51 (fun _ h9 => h9) rfl dX1_peak_20 ?_
      refine lv_if_le (tgt := 30) hx hb dX1_peak_23 (by decide) (fun c23 => ?_) (fun c23 => ?_)
      · -- taken at 23
        have c23 : ar.toInt ≤ 0 := (Int32.le_iff_toInt_le).mp c23
        refine lv_iconst (v := 0) hx hb dX1_peak_30 (by decide) ?_
        refine W.eq (congrArg (fun z => F0 m 31 ls (.int z :: [.int (bI (0 ≤ p1.toInt ∧ p1.toInt ≤ 2)), .ref m9])) ((bI_0 (c := ok_pk n ar p1) (by unfold ok_pk; omega)).symm)) ?_
        exact J31 ls (lv_sub hl [0, 1] rfl)
      · -- not taken at 23
        have c23 : ¬ ar.toInt ≤ 0 := fun q9 => c23 ((Int32.le_iff_toInt_le).mpr q9)
        refine lv_iconst (v := 1) hx hb dX1_peak_26 (by decide) ?_
        refine lv_goto (tgt := 31) hx hb dX1_peak_27 (by decide) ?_
        refine W.eq (congrArg (fun z => F0 m 31 ls (.int z :: [.int (bI (0 ≤ p1.toInt ∧ p1.toInt ≤ 2)), .ref m9])) ((bI_1 (c := ok_pk n ar p1) (by unfold ok_pk; omega)).symm)) ?_
        exact J31 ls (lv_sub hl [0, 1] rfl)
set_option maxHeartbeats 4000000 in
set_option maxRecDepth 100000 in
theorem c_X1_invalid (l : Launch) (dC : Nat → ClassId) (dI : Nat → Nat → Nat) (sz : Nat) (m9 b1 b2 b3 b4 b5 b6 : Nat) (cI : ClassId) (S F D J X Y : Nat → Int32) (th : Int32) (n : Nat) (ar sl hd : Int32) (hu hw : Int64) (im tc : Nat) (fa : Int32) (up dn : Int64) (hn : n ≤ 40) (hFb : ∀ j, j < n → 0 ≤ (F j).toInt ∧ (F j).toInt ≤ 1000000) : Met l yX1_invalid wsX1_invalid ({ frames := 1, cells := 0, slots := 0, locals := 22 }) (va_Pc [.ref m9] (fun U => U.heap.size = sz ∧ va_P (dC, dI) vwCl (wM m9 b1 b2 b3 b4 b5 b6 cI S F D J X Y th n ar sl hd hu hw im tc fa up dn) U.heap ∧ va_K (dC, dI) vwCl [(cI, .int)] U ∧ va_D (fun _ => True) (wM m9 b1 b2 b3 b4 b5 b6 cI S F D J X Y th n ar sl hd hu hw im tc fa up dn))) (va_Qi (fun r (_ : Unit) => ivs F n ar.toInt (¬ fa.toInt = 0) r) (fun (_ : Unit) t => at_w dC dI cI (va_A (wM m9 b1 b2 b3 b4 b5 b6 cI S F D J X Y th n ar sl hd hu hw im tc fa up dn) sz) (wM m9 b1 b2 b3 b4 b5 b6 cI S F D J X Y 0 n ar sl hd hu hw im tc fa up dn) t) (va_A (wM m9 b1 b2 b3 b4 b5 b6 cI S F D J X Y th n ar sl hd hu hw im tc fa up dn) sz)) 0 0 (va_A (wM m9 b1 b2 b3 b4 b5 b6 cI S F D J X Y th n ar sl hd hu hw im tc fa up dn) sz) := by
  refine Met.ofW (cc := cX1_invalid) (maxL := 4) (ret := (some .int)) (by decide) rfl ?_
  intro p e s m args below meth c s₁ B hml hv
  obtain ⟨rfl, hsz, hP, hK, hD0⟩ := hv
  have hx := B.exec
  have hb := B.bytes
  have hr := B.returns
  have hts := atoms_spec (ws := wsX1_invalid) B.pre
  have hown : s.vm.findClass RX1 = some m.cls := findClass_of_methodNamed B.named
  have hlocks := B.notSynchronized
  have hinX1 : ∀ w ∈ wsX10, w ∈ wsX1_invalid := fun w h => List.mem_cons_of_mem _ (inX1 w h)
  have f28 := hts _ (List.mem_cons_of_mem _ wl_X1_28)
  have f51 := hts _ (List.mem_cons_of_mem _ wl_X1_51)
  have f44 := hts _ (List.mem_cons_of_mem _ wl_X1_44)
  have f13 := hts _ (List.mem_cons_of_mem _ wl_X1_13)
  have f100 := hts _ (List.mem_cons_of_mem _ wl_X1_100)
  subst hsz
  have hD := hD0.self (sz := s.heap.size)
  generalize hAe : va_A (wM m9 b1 b2 b3 b4 b5 b6 cI S F D J X Y th n ar sl hd hu hw im tc fa up dn) s.heap.size = A at hD ⊢
  have hA : ∀ q : Nat, s.heap.size ≤ q → A q := fun q h => by rw [← hAe]; exact Or.inr h
  have hS : va_S A s.heap s.heap [] := va_S.rf
  have hl := lv_entry ([.ref m9]) (n := 4) (Nat.le_of_ble_eq_true rfl)
  rw [lg_entry_eq]
  generalize (lg_sl ([.ref m9]) ++ List.replicate (4 - (lg_sl ([.ref m9])).length) Slot.unset).toArray = ls at hl ⊢
  have hl : lv_has ls 4 [(0, .ref m9)] := hl
  refine lv_aload_n hx hb dX1_invalid_0 rfl (lv_at hl 0 rfl) ?_
  refine lv_iconst (v := 0) hx hb dX1_invalid_1 (by decide) ?_
  refine va_put (D := (dC, dI)) (ci := 1) (v := .int 0) (ty := .int) (C := RX1) (T := TX1) (N := 18) hx hb hts hinX1 tyX1 tyX1_ok nmX1 hown hK hP hD hS 0 rfl rfl 0 (by decide) f28 (fun _ h9 => h9) rfl (by decide +kernel) (rfl) (rfl) (Nat.le_of_ble_eq_true rfl) dX1_invalid_2 (fun H locs hP hD hS => ?_)
  have hP : va_P (dC, dI) vwCl (wM m9 b1 b2 b3 b4 b5 b6 cI S F D J X Y 0 n ar sl hd hu hw im tc fa up dn) H := hP
  have hD : va_D A (wM m9 b1 b2 b3 b4 b5 b6 cI S F D J X Y 0 n ar sl hd hu hw im tc fa up dn) := hD
  refine lv_aload_n hx hb dX1_invalid_5 rfl (lv_at hl 0 rfl) ?_
  refine va_get (D := (dC, dI)) (ci := 1) (v := .int ar) (C := RX1) (T := TX1) (N := 18) hx hb hts hinX1 hown hK hP 0 rfl rfl 4 (by decide) f51 (fun _ h9 => h9) rfl dX1_invalid_6 ?_
  refine lv_if_ne (tgt := 14) hx hb dX1_invalid_9 (by decide) (fun c9 => ?_) (fun c9 => ?_)
  · -- taken at 9
    have c9 : ¬ ar.toInt = 0 := fun q9 => c9 ((Int32.toInt_inj.symm).mpr q9)
    refine lv_aload_n hx hb dX1_invalid_14 rfl (lv_at hl 0 rfl) ?_
    refine va_get (D := (dC, dI)) (ci := 1) (v := .int (nI n)) (C := RX1) (T := TX1) (N := 18) hx hb hts hinX1 hown hK hP 0 rfl rfl 1 (by decide) f44 (fun _ h9 => h9) rfl dX1_invalid_15 ?_
    refine lv_iconst (v := 5) hx hb dX1_invalid_18 (by decide) ?_
    refine lv_icmp_ge (tgt := 24) hx hb dX1_invalid_19 (by decide) (fun c19 => ?_) (fun c19 => ?_)
    · -- taken at 19
      have c19 : 5 ≤ n := (nI_leI (a := 5) (b := n) (by omega) (by omega)).mp c19
      have hpk := pkf_lt F (k := n) (by omega)
      refine lv_aload_n hx hb dX1_invalid_24 rfl (lv_at hl 0 rfl) ?_
      refine vp_callSi (W.runV (As := []) (rest := []) ⟨hx, hb, hml, hown, hts⟩ (c_X1_peakRow l dC dI m9 b1 b2 b3 b4 b5 b6 cI S F D J X Y 0 n ar sl hd hu hw im tc fa up dn hn (by omega)) (cwV 0 hts (gV wl_X1_77 wi_X1_peakRow wv_X1_peakRow wi_X1 wc_X1_peakRow) rfl rfl rfl (by decide +kernel) ⟨Nat.le_of_ble_eq_true rfl, Nat.le_of_ble_eq_true rfl⟩) ⟨fun a U g mk q => ⟨q.1, q.2.1, va_K.moved (u := U) (U := U.calling g mk a) (Vm.Alike.refl U.vm) q.2.2⟩, va_recv hK hP (ci := 1) (q0 := 0) rfl rfl, fun U hU hW => ⟨rfl, by rw [hU]; exact hP, va_K.moved hW.alike hK⟩⟩ rfl rfl hl.1 rfl (lv_room (Nat.le_of_ble_eq_true rfl)) dX1_invalid_25 ⟨Nat.le_of_ble_eq_true rfl, Nat.le_of_ble_eq_true rfl⟩) (fun r25 h25 => ?_)
      subst h25
      refine lv_istore_n (lv' := [(1, .int (nI (pk F n))), (0, .ref m9)]) hx hb dX1_invalid_28 rfl hl (by decide) rfl (fun ls hl => ?_)
      refine lv_iload_n hx hb dX1_invalid_29 rfl (lv_at hl 0 rfl) ?_
      refine lv_if_ne (tgt := 35) hx hb dX1_invalid_30 (by decide) (fun c30 => ?_) (fun c30 => ?_)
      · -- taken at 30
        have c30 : ¬ (pk F n) = 0 := fun q9 => c30 ((nI_eq (a := (pk F n)) (b := 0) (by omega) (by omega)).mpr q9)
        have L55 : ∀ (f : Nat) (k : Nat) (z : Int32) (ls : Array Slot), n + 1 ≤ k + f → (pk F n < k) → (k ≤ n) → ((z = 1 ∧ (pk F n = n - 1 ∨ hfb F k (pk F n))) ∨ (z = 0 ∧ ¬ (pk F n = n - 1 ∨ hfb F k (pk F n)))) → lv_has ls 4 [(3, .int (nI k)), (2, .int z), (1, .int (nI (pk F n))), (0, .ref m9)] → W p l e (headSpec wsX1_invalid ({ frames := 1, cells := 0, slots := 0, locals := 22 })).room s m ([.ref m9] : List Value).toArray below meth c H locs 0 0 (MQ below (va_Qi (fun r (_ : Unit) => ivs F n ar.toInt (¬ fa.toInt = 0) r) (fun (_ : Unit) t => at_w dC dI cI A (wM m9 b1 b2 b3 b4 b5 b6 cI S F D J X Y 0 n ar sl hd hu hw im tc fa up dn) t) A) ([.ref m9] : List Value).toArray s 0 0 A) (F0 m 55 ls []) := by
          intro f
          induction f with
          | zero => intro k z ls hm hk hk2 hz hl; exact absurd hm (by omega)
          | succ f ih =>
            intro k z ls hm hk hk2 hz hl
            refine lv_iload_n hx hb dX1_invalid_55 rfl (lv_at hl 0 rfl) ?_
            refine lv_aload_n hx hb dX1_invalid_56 rfl (lv_at hl 3 rfl) ?_
            refine va_get (D := (dC, dI)) (ci := 1) (v := .int (nI n)) (C := RX1) (T := TX1) (N := 18) hx hb hts hinX1 hown hK hP 0 rfl rfl 1 (by decide) f44 (fun _ h9 => h9) rfl dX1_invalid_57 ?_
            refine lv_icmp_ge (tgt := 88) hx hb dX1_invalid_60 (by decide) (fun c60 => ?_) (fun c60 => ?_)
            · -- taken at 60
              have c60 : n ≤ k := (nI_leI (a := n) (b := k) (by omega) (by omega)).mp c60
              have hkn : n = k := by omega
              subst hkn
              refine lv_iload_n hx hb dX1_invalid_88 rfl (lv_at hl 1 rfl) ?_
              refine lv_if_ne (tgt := 94) hx hb dX1_invalid_89 (by decide) (fun c89 => ?_) (fun c89 => ?_)
              · -- taken at 89
                have c89 : ¬ z.toInt = 0 := fun q9 => c89 ((Int32.toInt_inj.symm).mpr q9)
                refine lv_aload_n hx hb dX1_invalid_94 rfl (lv_at hl 3 rfl) ?_
                refine va_get (D := (dC, dI)) (ci := 1) (v := .int fa) (C := RX1) (T := TX1) (N := 18) hx hb hts hinX1 hown hK hP 0 rfl rfl 15 (by decide) f100 (fun _ h9 => h9) rfl dX1_invalid_95 ?_
                refine lv_if_eq (tgt := 105) hx hb dX1_invalid_98 (by decide) (fun c98 => ?_) (fun c98 => ?_)
                · -- taken at 98
                  have c98 : fa.toInt = 0 := (Int32.toInt_inj.symm).mp c98
                  refine lv_iconst (v := 0) hx hb dX1_invalid_105 (by decide) ?_
                  exact W.iret (v := 0) hx hb hr (fun t ht hW => ⟨⟨0, (), rfl, Or.inr (Or.inr (Or.inr (Or.inr (Or.inr ⟨c9, by omega, c30, iv_nz hz c89, fun q => q c98, rfl⟩)))), ⟨by rw [ht]; exact hP, va_K.moved hW.alike hK, hD⟩⟩, hS.F ht⟩) hS.2.2 dX1_invalid_106
                · -- not taken at 98
                  have c98 : ¬ fa.toInt = 0 := fun q9 => c98 ((Int32.toInt_inj.symm).mpr q9)
                  refine lv_iconst (v := 5) hx hb dX1_invalid_101 (by decide) ?_
                  refine lv_goto (tgt := 106) hx hb dX1_invalid_102 (by decide) ?_
                  exact W.iret (v := 5) hx hb hr (fun t ht hW => ⟨⟨5, (), rfl, Or.inr (Or.inr (Or.inr (Or.inr (Or.inl ⟨c9, by omega, c30, iv_nz hz c89, c98, rfl⟩)))), ⟨by rw [ht]; exact hP, va_K.moved hW.alike hK, hD⟩⟩, hS.F ht⟩) hS.2.2 dX1_invalid_106
              · -- not taken at 89
                have c89 : z.toInt = 0 := (Int32.toInt_inj.symm).mp c89
                refine lv_iconst (v := 4) hx hb dX1_invalid_92 (by decide) ?_
                exact W.iret (v := 4) hx hb hr (fun t ht hW => ⟨⟨4, (), rfl, Or.inr (Or.inr (Or.inr (Or.inl ⟨c9, by omega, c30, iv_z hz c89, rfl⟩))), ⟨by rw [ht]; exact hP, va_K.moved hW.alike hK, hD⟩⟩, hS.F ht⟩) hS.2.2 dX1_invalid_93
            · -- not taken at 60
              have c60 : ¬ n ≤ k := fun q9 => c60 ((nI_leI (a := n) (b := k) (by omega) (by omega)).mpr q9)
              refine lv_iconst (v := 2) hx hb dX1_invalid_63 (by decide) ?_
              refine lv_aload_n hx hb dX1_invalid_64 rfl (lv_at hl 3 rfl) ?_
              refine va_get (D := (dC, dI)) (ci := 1) (v := .ref b2) (C := RX1) (T := TX1) (N := 18) hx hb hts hinX1 hown hK hP 0 rfl rfl 3 (by decide) f13 (fun _ h9 => h9) rfl dX1_invalid_65 ?_
              refine lv_iload_n hx hb dX1_invalid_68 rfl (lv_at hl 0 rfl) ?_
              refine va_iald (D := (dC, dI)) hx hb hK hP 2 0 rfl rfl (vp_in_nI (show k < 40 by omega) (by decide)) dX1_invalid_69 ?_
              refine W.eq (congrArg (fun z => F0 m 70 ls (.int z :: [.int 2])) (congrArg F (nI_clamp (show k < 2 ^ 31 by omega)))) ?_
              refine lv_imul hx hb dX1_invalid_70 ?_
              refine lv_aload_n hx hb dX1_invalid_71 rfl (lv_at hl 3 rfl) ?_
              refine va_get (D := (dC, dI)) (ci := 1) (v := .ref b2) (C := RX1) (T := TX1) (N := 18) hx hb hts hinX1 hown hK hP 0 rfl rfl 3 (by decide) f13 (fun _ h9 => h9) rfl dX1_invalid_72 ?_
              refine lv_iload_n hx hb dX1_invalid_75 rfl (lv_at hl 2 rfl) ?_
              refine va_iald (D := (dC, dI)) hx hb hK hP 2 0 rfl rfl (vp_in_nI (show pk F n < 40 by omega) (by decide)) dX1_invalid_76 ?_
              refine W.eq (congrArg (fun z => F0 m 77 ls (.int z :: [.int (2 * (F k))])) (congrArg F (nI_clamp (show pk F n < 2 ^ 31 by omega)))) ?_
              refine lv_icmp_ge (tgt := 82) hx hb dX1_invalid_77 (by decide) (fun c77 => ?_) (fun c77 => ?_)
              · -- taken at 77
                have c77 : (F (pk F n)).toInt ≤ (2 * (F k)).toInt := (Int32.le_iff_toInt_le).mp c77
                refine lv_iinc (v := nI (k + 1)) (lv' := [(3, .int (nI (k + 1))), (2, .int z), (1, .int (nI (pk F n))), (0, .ref m9)]) hx hb dX1_invalid_82 hl (k := 0) rfl ((nI_succ _).symm) (by decide) rfl (fun ls hl => ?_)
                refine lv_goto (tgt := 55) hx hb dX1_invalid_85 (by decide) ?_
                exact ih (k + 1) z ls (by omega) (by omega) (by omega) (iv_0 hz (by have e9 := i32_x2' (hFb k (by omega)).1 (hFb k (by omega)).2; omega)) (lv_sub hl [0, 1, 2, 3] rfl)
              · -- not taken at 77
                have c77 : ¬ (F (pk F n)).toInt ≤ (2 * (F k)).toInt := fun q9 => c77 ((Int32.le_iff_toInt_le).mpr q9)
                refine lv_iconst (v := 1) hx hb dX1_invalid_80 (by decide) ?_
                refine lv_istore_n (lv' := [(2, .int 1), (3, .int (nI k)), (1, .int (nI (pk F n))), (0, .ref m9)]) hx hb dX1_invalid_81 rfl hl (by decide) rfl (fun ls hl => ?_)
                refine lv_iinc (v := nI (k + 1)) (lv' := [(3, .int (nI (k + 1))), (2, .int 1), (1, .int (nI (pk F n))), (0, .ref m9)]) hx hb dX1_invalid_82 hl (k := 1) rfl ((nI_succ _).symm) (by decide) rfl (fun ls hl => ?_)
                refine lv_goto (tgt := 55) hx hb dX1_invalid_85 (by decide) ?_
                exact ih (k + 1) 1 ls (by omega) (by omega) (by omega) (iv_1 hk (by have e9 := i32_x2' (hFb k (by omega)).1 (hFb k (by omega)).2; omega)) (lv_sub hl [0, 1, 2, 3] rfl)
        refine lv_iload_n hx hb dX1_invalid_35 rfl (lv_at hl 0 rfl) ?_
        refine lv_aload_n hx hb dX1_invalid_36 rfl (lv_at hl 1 rfl) ?_
        refine va_get (D := (dC, dI)) (ci := 1) (v := .int (nI n)) (C := RX1) (T := TX1) (N := 18) hx hb hts hinX1 hown hK hP 0 rfl rfl 1 (by decide) f44 (fun _ h9 => h9) rfl dX1_invalid_37 ?_
        refine lv_iconst (v := 1) hx hb dX1_invalid_40 (by decide) ?_
        refine lv_isub hx hb dX1_invalid_41 ?_
        refine W.eq (congrArg (fun z => F0 m 42 ls (.int z :: [.int (nI (pk F n))])) (nI_p1 (by omega))) ?_
        refine lv_icmp_ne (tgt := 49) hx hb dX1_invalid_42 (by decide) (fun c42 => ?_) (fun c42 => ?_)
        · -- taken at 42
          have c42 : ¬ (pk F n) = (n - 1) := fun q9 => c42 ((nI_eq (a := (pk F n)) (b := (n - 1)) (by omega) (by omega)).mpr q9)
          refine lv_iconst (v := 0) hx hb dX1_invalid_49 (by decide) ?_
          refine lv_istore_n (lv' := [(2, .int 0), (1, .int (nI (pk F n))), (0, .ref m9)]) hx hb dX1_invalid_50 rfl hl (by decide) rfl (fun ls hl => ?_)
          refine lv_iload_n hx hb dX1_invalid_51 rfl (lv_at hl 1 rfl) ?_
          refine lv_iconst (v := 1) hx hb dX1_invalid_52 (by decide) ?_
          refine lv_iadd hx hb dX1_invalid_53 ?_
          refine W.eq (congrArg (fun z => F0 m 54 ls (.int z :: [])) (nI_1 (pk F n))) ?_
          refine lv_istore_n (lv' := [(3, .int (nI (pk F n + 1))), (2, .int 0), (1, .int (nI (pk F n))), (0, .ref m9)]) hx hb dX1_invalid_54 rfl hl (by decide) rfl (fun ls hl => ?_)
          exact L55 (n + 1) (pk F n + 1) 0 ls (by omega) (by omega) (by omega) (iv_n (by omega)) (lv_sub hl [0, 1, 2, 3] rfl)
        · -- not taken at 42
          have c42 : (pk F n) = (n - 1) := (nI_eq (a := (pk F n)) (b := (n - 1)) (by omega) (by omega)).mp c42
          refine lv_iconst (v := 1) hx hb dX1_invalid_45 (by decide) ?_
          refine lv_goto (tgt := 50) hx hb dX1_invalid_46 (by decide) ?_
          refine lv_istore_n (lv' := [(2, .int 1), (1, .int (nI (pk F n))), (0, .ref m9)]) hx hb dX1_invalid_50 rfl hl (by decide) rfl (fun ls hl => ?_)
          refine lv_iload_n hx hb dX1_invalid_51 rfl (lv_at hl 1 rfl) ?_
          refine lv_iconst (v := 1) hx hb dX1_invalid_52 (by decide) ?_
          refine lv_iadd hx hb dX1_invalid_53 ?_
          refine W.eq (congrArg (fun z => F0 m 54 ls (.int z :: [])) (nI_1 (pk F n))) ?_
          refine lv_istore_n (lv' := [(3, .int (nI (pk F n + 1))), (2, .int 1), (1, .int (nI (pk F n))), (0, .ref m9)]) hx hb dX1_invalid_54 rfl hl (by decide) rfl (fun ls hl => ?_)
          exact L55 (n + 1) (pk F n + 1) 1 ls (by omega) (by omega) (by omega) (iv_s (by omega)) (lv_sub hl [0, 1, 2, 3] rfl)
      · -- not taken at 30
        have c30 : (pk F n) = 0 := (nI_eq (a := (pk F n)) (b := 0) (by omega) (by omega)).mp c30
        refine lv_iconst (v := 3) hx hb dX1_invalid_33 (by decide) ?_
        exact W.iret (v := 3) hx hb hr (fun t ht hW => ⟨⟨3, (), rfl, Or.inr (Or.inr (Or.inl ⟨c9, by omega, c30, rfl⟩)), ⟨by rw [ht]; exact hP, va_K.moved hW.alike hK, hD⟩⟩, hS.F ht⟩) hS.2.2 dX1_invalid_34
    · -- not taken at 19
      have c19 : ¬ 5 ≤ n := fun q9 => c19 ((nI_leI (a := 5) (b := n) (by omega) (by omega)).mpr q9)
      refine lv_iconst (v := 2) hx hb dX1_invalid_22 (by decide) ?_
      exact W.iret (v := 2) hx hb hr (fun t ht hW => ⟨⟨2, (), rfl, Or.inr (Or.inl ⟨c9, by omega, rfl⟩), ⟨by rw [ht]; exact hP, va_K.moved hW.alike hK, hD⟩⟩, hS.F ht⟩) hS.2.2 dX1_invalid_23
  · -- not taken at 9
    have c9 : ar.toInt = 0 := (Int32.toInt_inj.symm).mp c9
    refine lv_iconst (v := 1) hx hb dX1_invalid_12 (by decide) ?_
    exact W.iret (v := 1) hx hb hr (fun t ht hW => ⟨⟨1, (), rfl, Or.inl ⟨c9, rfl⟩, ⟨by rw [ht]; exact hP, va_K.moved hW.alike hK, hD⟩⟩, hS.F ht⟩) hS.2.2 dX1_invalid_13
