set_option maxHeartbeats 4000000 in
set_option maxRecDepth 100000 in
theorem c_X1_row (l : Launch) (dC : Nat → ClassId) (dI : Nat → Nat → Nat) (sz : Nat) (m9 b1 b2 b3 b4 b5 b6 : Nat) (cI : ClassId) (S F D J X Y : Nat → Int32) (th : Int32) (n : Nat) (ar sl hd : Int32) (hu hw : Int64) (im tc : Nat) (fa : Int32) (up dn : Int64) (p1 p2 : Int32) (hn : n ≤ 40) : Met l yX1_row wsX1_row ({ frames := 1, cells := 0, slots := 0, locals := 24 }) (va_Pc [.ref m9, .int p1, .int p2] (fun U => U.heap.size = sz ∧ va_P (dC, dI) vwCl (wM m9 b1 b2 b3 b4 b5 b6 cI S F D J X Y th n ar sl hd hu hw im tc fa up dn) U.heap ∧ va_K (dC, dI) vwCl [(cI, .int)] U ∧ va_D (fun _ => True) (wM m9 b1 b2 b3 b4 b5 b6 cI S F D J X Y th n ar sl hd hu hw im tc fa up dn))) (va_Qi (fun r (_ : Unit) => kd4 (ok_row n S p1 p2) (n < 40) True True = 0 → r = nI (n + 1)) (fun (_ : Unit) t => (kd4 (ok_row n S p1 p2) (n < 40) True True = 0 ∧ at_w dC dI cI (va_A (wM m9 b1 b2 b3 b4 b5 b6 cI S F D J X Y th n ar sl hd hu hw im tc fa up dn) sz) (wM m9 b1 b2 b3 b4 b5 b6 cI (upd S n p1) (upd F n p2) D J X Y (kd4 (ok_row n S p1 p2) (n < 40) True True) (n + 1) ar sl hd hu hw im tc fa up dn) t) ∨ (¬ kd4 (ok_row n S p1 p2) (n < 40) True True = 0 ∧ at_w dC dI cI (va_A (wM m9 b1 b2 b3 b4 b5 b6 cI S F D J X Y th n ar sl hd hu hw im tc fa up dn) sz) (wM m9 b1 b2 b3 b4 b5 b6 cI S F D J X Y (kd4 (ok_row n S p1 p2) (n < 40) True True) n ar sl hd hu hw im tc fa up dn) t)) (va_A (wM m9 b1 b2 b3 b4 b5 b6 cI S F D J X Y th n ar sl hd hu hw im tc fa up dn) sz)) 0 0 (va_A (wM m9 b1 b2 b3 b4 b5 b6 cI S F D J X Y th n ar sl hd hu hw im tc fa up dn) sz) := by
  refine Met.ofW (cc := cX1_row) (maxL := 4) (ret := (some .int)) (by decide) rfl ?_
  intro p e s m args below meth c s₁ B hml hv
  obtain ⟨rfl, hsz, hP, hK, hD0⟩ := hv
  have hx := B.exec
  have hb := B.bytes
  have hr := B.returns
  have hts := atoms_spec (ws := wsX1_row) B.pre
  have hown : s.vm.findClass RX1 = some m.cls := findClass_of_methodNamed B.named
  have hlocks := B.notSynchronized
  have hinX1 : ∀ w ∈ wsX10, w ∈ wsX1_row := fun w h => List.mem_cons_of_mem _ (inX1 w h)
  have k39 := hts _ (List.mem_cons_of_mem _ wl_X1_39)
  have f44 := hts _ (List.mem_cons_of_mem _ wl_X1_44)
  have f7 := hts _ (List.mem_cons_of_mem _ wl_X1_7)
  have f13 := hts _ (List.mem_cons_of_mem _ wl_X1_13)
  subst hsz
  have hD := hD0.self (sz := s.heap.size)
  generalize hAe : va_A (wM m9 b1 b2 b3 b4 b5 b6 cI S F D J X Y th n ar sl hd hu hw im tc fa up dn) s.heap.size = A at hD ⊢
  have hA : ∀ q : Nat, s.heap.size ≤ q → A q := fun q h => by rw [← hAe]; exact Or.inr h
  have hS : va_S A s.heap s.heap [] := va_S.rf
  have hl := lv_entry ([.ref m9, .int p1, .int p2]) (n := 4) (Nat.le_of_ble_eq_true rfl)
  rw [lg_entry_eq]
  generalize (lg_sl ([.ref m9, .int p1, .int p2]) ++ List.replicate (4 - (lg_sl ([.ref m9, .int p1, .int p2])).length) Slot.unset).toArray = ls at hl ⊢
  have hl : lv_has ls 4 [(0, .ref m9), (1, .int p1), (2, .int p2)] := hl
  have J64 : ∀ (ls : Array Slot), lv_has ls 4 [(3, .int (bI (ok_row n S p1 p2))), (0, .ref m9), (1, .int p1), (2, .int p2)] → W p l e (headSpec wsX1_row ({ frames := 1, cells := 0, slots := 0, locals := 24 })).room s m ([.ref m9, .int p1, .int p2] : List Value).toArray below meth c s.heap [] 0 0 (MQ below (va_Qi (fun r (_ : Unit) => kd4 (ok_row n S p1 p2) (n < 40) True True = 0 → r = nI (n + 1)) (fun (_ : Unit) t => (kd4 (ok_row n S p1 p2) (n < 40) True True = 0 ∧ at_w dC dI cI A (wM m9 b1 b2 b3 b4 b5 b6 cI (upd S n p1) (upd F n p2) D J X Y (kd4 (ok_row n S p1 p2) (n < 40) True True) (n + 1) ar sl hd hu hw im tc fa up dn) t) ∨ (¬ kd4 (ok_row n S p1 p2) (n < 40) True True = 0 ∧ at_w dC dI cI A (wM m9 b1 b2 b3 b4 b5 b6 cI S F D J X Y (kd4 (ok_row n S p1 p2) (n < 40) True True) n ar sl hd hu hw im tc fa up dn) t)) A) ([.ref m9, .int p1, .int p2] : List Value).toArray s 0 0 A) (F0 m 64 ls [.int (bI (n < 40)), .int (bI (ok_row n S p1 p2)), .ref m9]) := by
    intro ls hl
    refine lv_iconst (v := 1) hx hb dX1_row_64 (by decide) ?_
    refine lv_iconst (v := 1) hx hb dX1_row_65 (by decide) ?_
    have hFc := va_free (wc := (wM m9 b1 b2 b3 b4 b5 b6 cI S F D J X Y th n ar sl hd hu hw im tc fa up dn)) hD hS hA [0, 1, 2, 3, 4, 5, 6] rfl
    refine va_calli (va_runV (As := [.int (bI (ok_row n S p1 p2)), .int (bI (n < 40)), .int 1, .int 1]) (rest := []) ⟨hx, hb, hml, hown, hts⟩ (c_X1_goes l dC dI s.heap.size m9 b1 b2 b3 b4 b5 b6 cI S F D J X Y th n ar sl hd hu hw im tc fa up dn (ok_row n S p1 p2) (n < 40) True True) (cwV 4 hts (gV wl_X1_47 wi_X1_goes wv_X1_goes wi_X1 wc_X1_goes) rfl rfl rfl (by decide +kernel) ⟨Nat.le_of_ble_eq_true rfl, Nat.le_of_ble_eq_true rfl⟩) ⟨fun a U g mk q => ⟨q.1, q.2.1, q.2.2.1, va_K.moved (u := U) (U := U.calling g mk a) (Vm.Alike.refl U.vm) q.2.2.2.1, q.2.2.2.2⟩, va_recv hK hP (ci := 1) (q0 := 0) rfl rfl, fun U hU hW => ⟨rfl, by rw [hU], by rw [hU]; exact hP, va_K.moved hW.alike hK, hD.weaken (fun _ _ _ _ => trivial)⟩⟩ rfl rfl hl.1 rfl (lv_room (Nat.le_of_ble_eq_true rfl)) dX1_row_66 ⟨Nat.le_of_ble_eq_true rfl, Nat.le_of_ble_eq_true rfl⟩) hS (fun q _ h => hFc q h) hFc (fun r66 u66 t H1 locs ht hvm h66 hB hz1 hk1 hS => ?_)
    obtain ⟨hP1, hK1, hD1⟩ := hB
    rw [ht] at hP1
    obtain ⟨hP, hD⟩ := va_join (wr := []) (w1 := (wM m9 b1 b2 b3 b4 b5 b6 cI S F D J X Y (kd4 (ok_row n S p1 p2) (n < 40) True True) n ar sl hd hu hw im tc fa up dn)) hP hD [0, 1, 2, 3, 4, 5, 6] [] rfl rfl (by decide) (by decide) hk1 hFc hP1 hD1
    generalize H1 = H at hP hS ⊢
    have hP : va_P (dC, dI) vwCl (wM m9 b1 b2 b3 b4 b5 b6 cI S F D J X Y (kd4 (ok_row n S p1 p2) (n < 40) True True) n ar sl hd hu hw im tc fa up dn) H := hP
    have hD : va_D A (wM m9 b1 b2 b3 b4 b5 b6 cI S F D J X Y (kd4 (ok_row n S p1 p2) (n < 40) True True) n ar sl hd hu hw im tc fa up dn) := hD
    subst h66
    refine lv_if_ne (tgt := 74) hx hb dX1_row_69 (by decide) (fun c69 => ?_) (fun c69 => ?_)
    · -- taken at 69
      have c69 := bI_ne0.mp c69
      have hn4 := (kd_z c69).2.1
      refine lv_aload_n hx hb dX1_row_74 rfl (lv_at hl 1 rfl) ?_
      refine va_get (D := (dC, dI)) (ci := 1) (v := .ref b1) (C := RX1) (T := TX1) (N := 18) hx hb hts hinX1 hown hK hP 0 rfl rfl 2 (by decide) f7 (fun _ h9 => h9) rfl dX1_row_75 ?_
      refine lv_aload_n hx hb dX1_row_78 rfl (lv_at hl 1 rfl) ?_
      refine va_get (D := (dC, dI)) (ci := 1) (v := .int (nI n)) (C := RX1) (T := TX1) (N := 18) hx hb hts hinX1 hown hK hP 0 rfl rfl 1 (by decide) f44 (fun _ h9 => h9) rfl dX1_row_79 ?_
      refine lv_iload_n hx hb dX1_row_82 rfl (lv_at hl 2 rfl) ?_
      refine va_iast (D := (dC, dI)) hx hb hK hP hD hS 1 0 rfl rfl (vp_in_nI (show n < 40 by omega) (by decide)) dX1_row_83 (fun H locs hP hD hS => ?_)
      rw [show (nI n : Int32).toNatClampNeg = n from nI_clamp (show n < 2 ^ 31 by omega)] at hP hD
      have hP : va_P (dC, dI) vwCl (wM m9 b1 b2 b3 b4 b5 b6 cI (upd S n p1) F D J X Y (kd4 (ok_row n S p1 p2) (n < 40) True True) n ar sl hd hu hw im tc fa up dn) H := hP
      have hD : va_D A (wM m9 b1 b2 b3 b4 b5 b6 cI (upd S n p1) F D J X Y (kd4 (ok_row n S p1 p2) (n < 40) True True) n ar sl hd hu hw im tc fa up dn) := hD
      refine lv_aload_n hx hb dX1_row_84 rfl (lv_at hl 1 rfl) ?_
      refine va_get (D := (dC, dI)) (ci := 1) (v := .ref b2) (C := RX1) (T := TX1) (N := 18) hx hb hts hinX1 hown hK hP 0 rfl rfl 3 (by decide) f13 (fun _ h9 => h9) rfl dX1_row_85 ?_
      refine lv_aload_n hx hb dX1_row_88 rfl (lv_at hl 1 rfl) ?_
      refine va_get (D := (dC, dI)) (ci := 1) (v := .int (nI n)) (C := RX1) (T := TX1) (N := 18) hx hb hts hinX1 hown hK hP 0 rfl rfl 1 (by decide) f44 (fun _ h9 => h9) rfl dX1_row_89 ?_
      refine lv_iload_n hx hb dX1_row_92 rfl (lv_at hl 3 rfl) ?_
      refine va_iast (D := (dC, dI)) hx hb hK hP hD hS 2 0 rfl rfl (vp_in_nI (show n < 40 by omega) (by decide)) dX1_row_93 (fun H locs hP hD hS => ?_)
      rw [show (nI n : Int32).toNatClampNeg = n from nI_clamp (show n < 2 ^ 31 by omega)] at hP hD
      have hP : va_P (dC, dI) vwCl (wM m9 b1 b2 b3 b4 b5 b6 cI (upd S n p1) (upd F n p2) D J X Y (kd4 (ok_row n S p1 p2) (n < 40) True True) n ar sl hd hu hw im tc fa up dn) H := hP
      have hD : va_D A (wM m9 b1 b2 b3 b4 b5 b6 cI (upd S n p1) (upd F n p2) D J X Y (kd4 (ok_row n S p1 p2) (n < 40) True True) n ar sl hd hu hw im tc fa up dn) := hD
      refine lv_aload_n hx hb dX1_row_94 rfl (lv_at hl 1 rfl) ?_
      refine lv_dup hx hb dX1_row_95 rfl ?_
      refine va_get (D := (dC, dI)) (ci := 1) (v := .int (nI n)) (C := RX1) (T := TX1) (N := 18) hx hb hts hinX1 hown hK hP 0 rfl rfl 1 (by decide) f44 (fun _ h9 => h9) rfl dX1_row_96 ?_
      refine lv_iconst (v := 1) hx hb dX1_row_99 (by decide) ?_
      refine lv_iadd hx hb dX1_row_100 ?_
      refine W.eq (congrArg (fun z => F0 m 101 ls (.int z :: [.ref m9])) (nI_1 n)) ?_
      refine va_put (D := (dC, dI)) (ci := 1) (v := .int (nI (n + 1))) (ty := .int) (C := RX1) (T := TX1) (N := 18) hx hb hts hinX1 tyX1 tyX1_ok nmX1 hown hK hP hD hS 0 rfl rfl 1 (by decide) f44 (fun _ h9 => h9) rfl (by decide +kernel) (rfl) (rfl) (Nat.le_of_ble_eq_true rfl) dX1_row_101 (fun H locs hP hD hS => ?_)
      have hP : va_P (dC, dI) vwCl (wM m9 b1 b2 b3 b4 b5 b6 cI (upd S n p1) (upd F n p2) D J X Y (kd4 (ok_row n S p1 p2) (n < 40) True True) (n + 1) ar sl hd hu hw im tc fa up dn) H := hP
      have hD : va_D A (wM m9 b1 b2 b3 b4 b5 b6 cI (upd S n p1) (upd F n p2) D J X Y (kd4 (ok_row n S p1 p2) (n < 40) True True) (n + 1) ar sl hd hu hw im tc fa up dn) := hD
      refine lv_aload_n hx hb dX1_row_104 rfl (lv_at hl 1 rfl) ?_
      refine va_get (D := (dC, dI)) (ci := 1) (v := .int (nI (n + 1))) (C := RX1) (T := TX1) (N := 18) hx hb hts hinX1 hown hK hP 0 rfl rfl 1 (by decide) f44 (fun _ h9 => h9) rfl dX1_row_105 ?_
      exact W.iret (v := nI (n + 1)) hx hb hr (fun t ht hW => ⟨⟨nI (n + 1), (), rfl, fun _ => rfl, Or.inl ⟨c69, ⟨by rw [ht]; exact hP, va_K.moved hW.alike hK, hD⟩⟩⟩, hS.F ht⟩) hS.2.2 dX1_row_108
    · -- not taken at 69
      have c69 := bI_eq0.mp c69
      refine lv_iconst (v := 0) hx hb dX1_row_72 (by decide) ?_
      exact W.iret (v := 0) hx hb hr (fun t ht hW => ⟨⟨0, (), rfl, fun q => absurd q c69, Or.inr ⟨c69, ⟨by rw [ht]; exact hP, va_K.moved hW.alike hK, hD⟩⟩⟩, hS.F ht⟩) hS.2.2 dX1_row_73
  have J47 : ∀ (ls : Array Slot), lv_has ls 4 [(0, .ref m9), (1, .int p1), (2, .int p2)] → W p l e (headSpec wsX1_row ({ frames := 1, cells := 0, slots := 0, locals := 24 })).room s m ([.ref m9, .int p1, .int p2] : List Value).toArray below meth c s.heap [] 0 0 (MQ below (va_Qi (fun r (_ : Unit) => kd4 (ok_row n S p1 p2) (n < 40) True True = 0 → r = nI (n + 1)) (fun (_ : Unit) t => (kd4 (ok_row n S p1 p2) (n < 40) True True = 0 ∧ at_w dC dI cI A (wM m9 b1 b2 b3 b4 b5 b6 cI (upd S n p1) (upd F n p2) D J X Y (kd4 (ok_row n S p1 p2) (n < 40) True True) (n + 1) ar sl hd hu hw im tc fa up dn) t) ∨ (¬ kd4 (ok_row n S p1 p2) (n < 40) True True = 0 ∧ at_w dC dI cI A (wM m9 b1 b2 b3 b4 b5 b6 cI S F D J X Y (kd4 (ok_row n S p1 p2) (n < 40) True True) n ar sl hd hu hw im tc fa up dn) t)) A) ([.ref m9, .int p1, .int p2] : List Value).toArray s 0 0 A) (F0 m 47 ls [.int (bI (ok_row n S p1 p2))]) := by
    intro ls hl
    refine lv_istore_n (lv' := [(3, .int (bI (ok_row n S p1 p2))), (0, .ref m9), (1, .int p1), (2, .int p2)]) hx hb dX1_row_47 rfl hl (by decide) rfl (fun ls hl => ?_)
    refine lv_aload_n hx hb dX1_row_48 rfl (lv_at hl 1 rfl) ?_
    refine lv_iload_n hx hb dX1_row_49 rfl (lv_at hl 0 rfl) ?_
    refine lv_aload_n hx hb dX1_row_50 rfl (lv_at hl 1 rfl) ?_
    refine va_get (D := (dC, dI)) (ci := 1) (v := .int (nI n)) (C := RX1) (T := TX1) (N := 18) hx hb hts hinX1 hown hK hP 0 rfl rfl 1 (by decide) f44 (fun _ h9 => h9) rfl dX1_row_51 ?_
    refine lv_bipush (v := 40) hx hb dX1_row_54 (by decide) ?_
    refine lv_icmp_ge (tgt := 63) hx hb dX1_row_56 (by decide) (fun c56 => ?_) (fun c56 => ?_)
    · -- taken at 56
      have c56 : 40 ≤ n := (nI_leI (a := 40) (b := n) (by omega) (by omega)).mp c56
      refine lv_iconst (v := 0) hx hb dX1_row_63 (by decide) ?_
      refine W.eq (congrArg (fun z => F0 m 64 ls (.int z :: [.int (bI (ok_row n S p1 p2)), .ref m9])) ((bI_0 (c := n < 40) (by omega)).symm)) ?_
      exact J64 ls (lv_sub hl [0, 1, 2, 3] rfl)
    · -- not taken at 56
      have c56 : ¬ 40 ≤ n := fun q9 => c56 ((nI_leI (a := 40) (b := n) (by omega) (by omega)).mpr q9)
      refine lv_iconst (v := 1) hx hb dX1_row_59 (by decide) ?_
      refine lv_goto (tgt := 64) hx hb dX1_row_60 (by decide) ?_
      refine W.eq (congrArg (fun z => F0 m 64 ls (.int z :: [.int (bI (ok_row n S p1 p2)), .ref m9])) ((bI_1 (c := n < 40) (by omega)).symm)) ?_
      exact J64 ls (lv_sub hl [0, 1, 2, 3] rfl)
  refine lv_iload_n hx hb dX1_row_0 rfl (lv_at hl 1 rfl) ?_
  refine lv_iconst (v := 0) hx hb dX1_row_1 (by decide) ?_
  refine lv_ldc (v := 1000000) hx hb hown k39 dX1_row_2 ?_
  refine vp_callSi (W.runS (As := [.int p1, .int 0, .int 1000000]) (rest := []) ⟨hx, hb, hml, hown, hts⟩ (c_X1_in l p1 0 1000000 0 1000000 (by decide) (by decide)) (va_cwS 3 hts (gS wl_X1_40 ws_X1_in wi_X1 wc_X1_in) rfl rfl rfl (by decide +kernel) ⟨Nat.le_of_ble_eq_true rfl, Nat.le_of_ble_eq_true rfl⟩) ⟨fun _ _ _ _ q => q, fun U hU hW => ⟨rfl, trivial⟩⟩ rfl rfl hl.1 rfl (lv_room (Nat.le_of_ble_eq_true rfl)) dX1_row_4 ⟨Nat.le_of_ble_eq_true rfl, Nat.le_of_ble_eq_true rfl⟩) (fun r4 h4 => ?_)
  subst h4
  refine lv_if_eq (tgt := 46) hx hb dX1_row_7 (by decide) (fun c7 => ?_) (fun c7 => ?_)
  · -- taken at 7
    have c7 := bI_eq0.mp c7
    refine lv_iconst (v := 0) hx hb dX1_row_46 (by decide) ?_
    refine W.eq (congrArg (fun z => F0 m 47 ls (.int z :: [])) ((bI_0 (c := ok_row n S p1 p2) (by unfold ok_row; omega)).symm)) ?_
    exact J47 ls (lv_sub hl [0, 1, 2] rfl)
  · -- not taken at 7
    have c7 := bI_ne0.mp c7
    refine lv_iload_n hx hb dX1_row_10 rfl (lv_at hl 2 rfl) ?_
    refine lv_iconst (v := 0) hx hb dX1_row_11 (by decide) ?_
    refine lv_ldc (v := 1000000) hx hb hown k39 dX1_row_12 ?_
    refine vp_callSi (W.runS (As := [.int p2, .int 0, .int 1000000]) (rest := []) ⟨hx, hb, hml, hown, hts⟩ (c_X1_in l p2 0 1000000 0 1000000 (by decide) (by decide)) (va_cwS 3 hts (gS wl_X1_40 ws_X1_in wi_X1 wc_X1_in) rfl rfl rfl (by decide +kernel) ⟨Nat.le_of_ble_eq_true rfl, Nat.le_of_ble_eq_true rfl⟩) ⟨fun _ _ _ _ q => q, fun U hU hW => ⟨rfl, trivial⟩⟩ rfl rfl hl.1 rfl (lv_room (Nat.le_of_ble_eq_true rfl)) dX1_row_14 ⟨Nat.le_of_ble_eq_true rfl, Nat.le_of_ble_eq_true rfl⟩) (fun r14 h14 => ?_)
    subst h14
    refine lv_if_eq (tgt := 46) hx hb dX1_row_17 (by decide) (fun c17 => ?_) (fun c17 => ?_)
    · -- taken at 17
      have c17 := bI_eq0.mp c17
      refine lv_iconst (v := 0) hx hb dX1_row_46 (by decide) ?_
      refine W.eq (congrArg (fun z => F0 m 47 ls (.int z :: [])) ((bI_0 (c := ok_row n S p1 p2) (by unfold ok_row; omega)).symm)) ?_
      exact J47 ls (lv_sub hl [0, 1, 2] rfl)
    · -- not taken at 17
      have c17 := bI_ne0.mp c17
      refine lv_aload_n hx hb dX1_row_20 rfl (lv_at hl 0 rfl) ?_
      refine va_get (D := (dC, dI)) (ci := 1) (v := .int (nI n)) (C := RX1) (T := TX1) (N := 18) hx hb hts hinX1 hown hK hP 0 rfl rfl 1 (by decide) f44 (fun _ h9 => h9) rfl dX1_row_21 ?_
      refine lv_if_eq (tgt := 42) hx hb dX1_row_24 (by decide) (fun c24 => ?_) (fun c24 => ?_)
      · -- taken at 24
        have c24 : n = 0 := (nI_eq (a := n) (b := 0) (by omega) (by omega)).mp c24
        refine lv_iconst (v := 1) hx hb dX1_row_42 (by decide) ?_
        refine lv_goto (tgt := 47) hx hb dX1_row_43 (by decide) ?_
        refine W.eq (congrArg (fun z => F0 m 47 ls (.int z :: [])) ((bI_1 (c := ok_row n S p1 p2) (by unfold ok_row; omega)).symm)) ?_
        exact J47 ls (lv_sub hl [0, 1, 2] rfl)
      · -- not taken at 24
        have c24 : ¬ n = 0 := fun q9 => c24 ((nI_eq (a := n) (b := 0) (by omega) (by omega)).mpr q9)
        refine lv_iload_n hx hb dX1_row_27 rfl (lv_at hl 1 rfl) ?_
        refine lv_aload_n hx hb dX1_row_28 rfl (lv_at hl 0 rfl) ?_
        refine va_get (D := (dC, dI)) (ci := 1) (v := .ref b1) (C := RX1) (T := TX1) (N := 18) hx hb hts hinX1 hown hK hP 0 rfl rfl 2 (by decide) f7 (fun _ h9 => h9) rfl dX1_row_29 ?_
        refine lv_aload_n hx hb dX1_row_32 rfl (lv_at hl 0 rfl) ?_
        refine va_get (D := (dC, dI)) (ci := 1) (v := .int (nI n)) (C := RX1) (T := TX1) (N := 18) hx hb hts hinX1 hown hK hP 0 rfl rfl 1 (by decide) f44 (fun _ h9 => h9) rfl dX1_row_33 ?_
        refine lv_iconst (v := 1) hx hb dX1_row_36 (by decide) ?_
        refine lv_isub hx hb dX1_row_37 ?_
        refine W.eq (congrArg (fun z => F0 m 38 ls (.int z :: [.ref b1, .int p1])) (nI_p1 (by omega))) ?_
        refine va_iald (D := (dC, dI)) hx hb hK hP 1 0 rfl rfl (vp_in_nI (show n - 1 < 40 by omega) (by decide)) dX1_row_38 ?_
        refine W.eq (congrArg (fun z => F0 m 39 ls (.int z :: [.int p1])) (congrArg S (nI_clamp (show n - 1 < 2 ^ 31 by omega)))) ?_
        refine lv_icmp_le (tgt := 46) hx hb dX1_row_39 (by decide) (fun c39 => ?_) (fun c39 => ?_)
        · -- taken at 39
          have c39 : p1.toInt ≤ (S (n - 1)).toInt := (Int32.le_iff_toInt_le).mp c39
          refine lv_iconst (v := 0) hx hb dX1_row_46 (by decide) ?_
          refine W.eq (congrArg (fun z => F0 m 47 ls (.int z :: [])) ((bI_0 (c := ok_row n S p1 p2) (by unfold ok_row; omega)).symm)) ?_
          exact J47 ls (lv_sub hl [0, 1, 2] rfl)
        · -- not taken at 39
          have c39 : ¬ p1.toInt ≤ (S (n - 1)).toInt := fun q9 => c39 ((Int32.le_iff_toInt_le).mpr q9)
          refine lv_iconst (v := 1) hx hb dX1_row_42 (by decide) ?_
          refine lv_goto (tgt := 47) hx hb dX1_row_43 (by decide) ?_
          refine W.eq (congrArg (fun z => F0 m 47 ls (.int z :: [])) ((bI_1 (c := ok_row n S p1 p2) (by unfold ok_row; omega)).symm)) ?_
          exact J47 ls (lv_sub hl [0, 1, 2] rfl)
set_option maxHeartbeats 4000000 in
set_option maxRecDepth 100000 in
theorem c_X1_section (l : Launch) (dC : Nat → ClassId) (dI : Nat → Nat → Nat) (sz : Nat) (m9 b1 b2 b3 b4 b5 b6 : Nat) (cI : ClassId) (S F D J X Y : Nat → Int32) (th : Int32) (n : Nat) (ar sl hd : Int32) (hu hw : Int64) (im tc : Nat) (fa : Int32) (up dn : Int64) (p1 p2 : Int32) : Met l yX1_section wsX1_section ({ frames := 1, cells := 0, slots := 0, locals := 24 }) (va_Pc [.ref m9, .int p1, .int p2] (fun U => U.heap.size = sz ∧ va_P (dC, dI) vwCl (wM m9 b1 b2 b3 b4 b5 b6 cI S F D J X Y th n ar sl hd hu hw im tc fa up dn) U.heap ∧ va_K (dC, dI) vwCl [(cI, .int)] U ∧ va_D (fun _ => True) (wM m9 b1 b2 b3 b4 b5 b6 cI S F D J X Y th n ar sl hd hu hw im tc fa up dn))) (va_Qv (fun (_ : Unit) => True) (fun (_ : Unit) t => (kd4 (ok_sec p1 p2) True True True = 0 ∧ at_w dC dI cI (va_A (wM m9 b1 b2 b3 b4 b5 b6 cI S F D J X Y th n ar sl hd hu hw im tc fa up dn) sz) (wM m9 b1 b2 b3 b4 b5 b6 cI S F D J X Y (kd4 (ok_sec p1 p2) True True True) n p1 p2 hd hu hw im tc fa up dn) t) ∨ (¬ kd4 (ok_sec p1 p2) True True True = 0 ∧ at_w dC dI cI (va_A (wM m9 b1 b2 b3 b4 b5 b6 cI S F D J X Y th n ar sl hd hu hw im tc fa up dn) sz) (wM m9 b1 b2 b3 b4 b5 b6 cI S F D J X Y (kd4 (ok_sec p1 p2) True True True) n ar sl hd hu hw im tc fa up dn) t)) (va_A (wM m9 b1 b2 b3 b4 b5 b6 cI S F D J X Y th n ar sl hd hu hw im tc fa up dn) sz)) 0 0 (va_A (wM m9 b1 b2 b3 b4 b5 b6 cI S F D J X Y th n ar sl hd hu hw im tc fa up dn) sz) := by
  refine Met.ofW (cc := cX1_section) (maxL := 3) (ret := none) (by decide) rfl ?_
  intro p e s m args below meth c s₁ B hml hv
  obtain ⟨rfl, hsz, hP, hK, hD0⟩ := hv
  have hx := B.exec
  have hb := B.bytes
  have hr := B.returns
  have hts := atoms_spec (ws := wsX1_section) B.pre
  have hown : s.vm.findClass RX1 = some m.cls := findClass_of_methodNamed B.named
  have hlocks := B.notSynchronized
  have hinX1 : ∀ w ∈ wsX10, w ∈ wsX1_section := fun w h => List.mem_cons_of_mem _ (inX1 w h)
  have k39 := hts _ (List.mem_cons_of_mem _ wl_X1_39)
  have f51 := hts _ (List.mem_cons_of_mem _ wl_X1_51)
  have f54 := hts _ (List.mem_cons_of_mem _ wl_X1_54)
  subst hsz
  have hD := hD0.self (sz := s.heap.size)
  generalize hAe : va_A (wM m9 b1 b2 b3 b4 b5 b6 cI S F D J X Y th n ar sl hd hu hw im tc fa up dn) s.heap.size = A at hD ⊢
  have hA : ∀ q : Nat, s.heap.size ≤ q → A q := fun q h => by rw [← hAe]; exact Or.inr h
  have hS : va_S A s.heap s.heap [] := va_S.rf
  have hl := lv_entry ([.ref m9, .int p1, .int p2]) (n := 3) (Nat.le_of_ble_eq_true rfl)
  rw [lg_entry_eq]
  generalize (lg_sl ([.ref m9, .int p1, .int p2]) ++ List.replicate (3 - (lg_sl ([.ref m9, .int p1, .int p2])).length) Slot.unset).toArray = ls at hl ⊢
  have hl : lv_has ls 3 [(0, .ref m9), (1, .int p1), (2, .int p2)] := hl
  have J27 : ∀ (ls : Array Slot), lv_has ls 3 [(0, .ref m9), (1, .int p1), (2, .int p2)] → W p l e (headSpec wsX1_section ({ frames := 1, cells := 0, slots := 0, locals := 24 })).room s m ([.ref m9, .int p1, .int p2] : List Value).toArray below meth c s.heap [] 0 0 (MQ below (va_Qv (fun (_ : Unit) => True) (fun (_ : Unit) t => (kd4 (ok_sec p1 p2) True True True = 0 ∧ at_w dC dI cI A (wM m9 b1 b2 b3 b4 b5 b6 cI S F D J X Y (kd4 (ok_sec p1 p2) True True True) n p1 p2 hd hu hw im tc fa up dn) t) ∨ (¬ kd4 (ok_sec p1 p2) True True True = 0 ∧ at_w dC dI cI A (wM m9 b1 b2 b3 b4 b5 b6 cI S F D J X Y (kd4 (ok_sec p1 p2) True True True) n ar sl hd hu hw im tc fa up dn) t)) A) ([.ref m9, .int p1, .int p2] : List Value).toArray s 0 0 A) (F0 m 27 ls [.int (bI (ok_sec p1 p2)), .ref m9]) := by
    intro ls hl
    refine lv_iconst (v := 1) hx hb dX1_section_27 (by decide) ?_
    refine lv_iconst (v := 1) hx hb dX1_section_28 (by decide) ?_
    refine lv_iconst (v := 1) hx hb dX1_section_29 (by decide) ?_
    have hFc := va_free (wc := (wM m9 b1 b2 b3 b4 b5 b6 cI S F D J X Y th n ar sl hd hu hw im tc fa up dn)) hD hS hA [0, 1, 2, 3, 4, 5, 6] rfl
    refine va_calli (va_runV (As := [.int (bI (ok_sec p1 p2)), .int 1, .int 1, .int 1]) (rest := []) ⟨hx, hb, hml, hown, hts⟩ (c_X1_goes l dC dI s.heap.size m9 b1 b2 b3 b4 b5 b6 cI S F D J X Y th n ar sl hd hu hw im tc fa up dn (ok_sec p1 p2) True True True) (cwV 4 hts (gV wl_X1_47 wi_X1_goes wv_X1_goes wi_X1 wc_X1_goes) rfl rfl rfl (by decide +kernel) ⟨Nat.le_of_ble_eq_true rfl, Nat.le_of_ble_eq_true rfl⟩) ⟨fun a U g mk q => ⟨q.1, q.2.1, q.2.2.1, va_K.moved (u := U) (U := U.calling g mk a) (Vm.Alike.refl U.vm) q.2.2.2.1, q.2.2.2.2⟩, va_recv hK hP (ci := 1) (q0 := 0) rfl rfl, fun U hU hW => ⟨rfl, by rw [hU], by rw [hU]; exact hP, va_K.moved hW.alike hK, hD.weaken (fun _ _ _ _ => trivial)⟩⟩ rfl rfl hl.1 rfl (lv_room (Nat.le_of_ble_eq_true rfl)) dX1_section_30 ⟨Nat.le_of_ble_eq_true rfl, Nat.le_of_ble_eq_true rfl⟩) hS (fun q _ h => hFc q h) hFc (fun r30 u30 t H1 locs ht hvm h30 hB hz1 hk1 hS => ?_)
    obtain ⟨hP1, hK1, hD1⟩ := hB
    rw [ht] at hP1
    obtain ⟨hP, hD⟩ := va_join (wr := []) (w1 := (wM m9 b1 b2 b3 b4 b5 b6 cI S F D J X Y (kd4 (ok_sec p1 p2) True True True) n ar sl hd hu hw im tc fa up dn)) hP hD [0, 1, 2, 3, 4, 5, 6] [] rfl rfl (by decide) (by decide) hk1 hFc hP1 hD1
    generalize H1 = H at hP hS ⊢
    have hP : va_P (dC, dI) vwCl (wM m9 b1 b2 b3 b4 b5 b6 cI S F D J X Y (kd4 (ok_sec p1 p2) True True True) n ar sl hd hu hw im tc fa up dn) H := hP
    have hD : va_D A (wM m9 b1 b2 b3 b4 b5 b6 cI S F D J X Y (kd4 (ok_sec p1 p2) True True True) n ar sl hd hu hw im tc fa up dn) := hD
    subst h30
    refine lv_if_ne (tgt := 37) hx hb dX1_section_33 (by decide) (fun c33 => ?_) (fun c33 => ?_)
    · -- taken at 33
      have c33 := bI_ne0.mp c33
      refine lv_aload_n hx hb dX1_section_37 rfl (lv_at hl 0 rfl) ?_
      refine lv_iload_n hx hb dX1_section_38 rfl (lv_at hl 1 rfl) ?_
      refine va_put (D := (dC, dI)) (ci := 1) (v := .int p1) (ty := .int) (C := RX1) (T := TX1) (N := 18) hx hb hts hinX1 tyX1 tyX1_ok nmX1 hown hK hP hD hS 0 rfl rfl 4 (by decide) f51 (fun _ h9 => h9) rfl (by decide +kernel) (rfl) (rfl) (Nat.le_of_ble_eq_true rfl) dX1_section_39 (fun H locs hP hD hS => ?_)
      have hP : va_P (dC, dI) vwCl (wM m9 b1 b2 b3 b4 b5 b6 cI S F D J X Y (kd4 (ok_sec p1 p2) True True True) n p1 sl hd hu hw im tc fa up dn) H := hP
      have hD : va_D A (wM m9 b1 b2 b3 b4 b5 b6 cI S F D J X Y (kd4 (ok_sec p1 p2) True True True) n p1 sl hd hu hw im tc fa up dn) := hD
      refine lv_aload_n hx hb dX1_section_42 rfl (lv_at hl 0 rfl) ?_
      refine lv_iload_n hx hb dX1_section_43 rfl (lv_at hl 2 rfl) ?_
      refine va_put (D := (dC, dI)) (ci := 1) (v := .int p2) (ty := .int) (C := RX1) (T := TX1) (N := 18) hx hb hts hinX1 tyX1 tyX1_ok nmX1 hown hK hP hD hS 0 rfl rfl 5 (by decide) f54 (fun _ h9 => h9) rfl (by decide +kernel) (rfl) (rfl) (Nat.le_of_ble_eq_true rfl) dX1_section_44 (fun H locs hP hD hS => ?_)
      have hP : va_P (dC, dI) vwCl (wM m9 b1 b2 b3 b4 b5 b6 cI S F D J X Y (kd4 (ok_sec p1 p2) True True True) n p1 p2 hd hu hw im tc fa up dn) H := hP
      have hD : va_D A (wM m9 b1 b2 b3 b4 b5 b6 cI S F D J X Y (kd4 (ok_sec p1 p2) True True True) n p1 p2 hd hu hw im tc fa up dn) := hD
      exact W.vret hx hb hr (fun t ht hW => ⟨⟨(), rfl, trivial, Or.inl ⟨c33, ⟨by rw [ht]; exact hP, va_K.moved hW.alike hK, hD⟩⟩⟩, hS.F ht⟩) hS.2.2 dX1_section_47
    · -- not taken at 33
      have c33 := bI_eq0.mp c33
      exact W.vret hx hb hr (fun t ht hW => ⟨⟨(), rfl, trivial, Or.inr ⟨c33, ⟨by rw [ht]; exact hP, va_K.moved hW.alike hK, hD⟩⟩⟩, hS.F ht⟩) hS.2.2 dX1_section_36
  refine lv_aload_n hx hb dX1_section_0 rfl (lv_at hl 0 rfl) ?_
  refine lv_iload_n hx hb dX1_section_1 rfl (lv_at hl 1 rfl) ?_
  refine lv_iconst (v := 1) hx hb dX1_section_2 (by decide) ?_
  refine lv_sipush (v := 10000) hx hb dX1_section_3 (by decide) ?_
  refine vp_callSi (W.runS (As := [.int p1, .int 1, .int 10000]) (rest := [.ref m9]) ⟨hx, hb, hml, hown, hts⟩ (c_X1_in l p1 1 10000 1 10000 (by decide) (by decide)) (va_cwS 3 hts (gS wl_X1_40 ws_X1_in wi_X1 wc_X1_in) rfl rfl rfl (by decide +kernel) ⟨Nat.le_of_ble_eq_true rfl, Nat.le_of_ble_eq_true rfl⟩) ⟨fun _ _ _ _ q => q, fun U hU hW => ⟨rfl, trivial⟩⟩ rfl rfl hl.1 rfl (lv_room (Nat.le_of_ble_eq_true rfl)) dX1_section_6 ⟨Nat.le_of_ble_eq_true rfl, Nat.le_of_ble_eq_true rfl⟩) (fun r6 h6 => ?_)
  subst h6
  refine lv_if_eq (tgt := 26) hx hb dX1_section_9 (by decide) (fun c9 => ?_) (fun c9 => ?_)
  · -- taken at 9
    have c9 := bI_eq0.mp c9
    refine lv_iconst (v := 0) hx hb dX1_section_26 (by decide) ?_
    refine W.eq (congrArg (fun z => F0 m 27 ls (.int z :: [.ref m9])) ((bI_0 (c := ok_sec p1 p2) (by unfold ok_sec; omega)).symm)) ?_
    exact J27 ls (lv_sub hl [0, 1, 2] rfl)
  · -- not taken at 9
    have c9 := bI_ne0.mp c9
    refine lv_iload_n hx hb dX1_section_12 rfl (lv_at hl 2 rfl) ?_
    refine lv_iconst (v := 0) hx hb dX1_section_13 (by decide) ?_
    refine lv_ldc (v := 1000000) hx hb hown k39 dX1_section_14 ?_
    refine vp_callSi (W.runS (As := [.int p2, .int 0, .int 1000000]) (rest := [.ref m9]) ⟨hx, hb, hml, hown, hts⟩ (c_X1_in l p2 0 1000000 0 1000000 (by decide) (by decide)) (va_cwS 3 hts (gS wl_X1_40 ws_X1_in wi_X1 wc_X1_in) rfl rfl rfl (by decide +kernel) ⟨Nat.le_of_ble_eq_true rfl, Nat.le_of_ble_eq_true rfl⟩) ⟨fun _ _ _ _ q => q, fun U hU hW => ⟨rfl, trivial⟩⟩ rfl rfl hl.1 rfl (lv_room (Nat.le_of_ble_eq_true rfl)) dX1_section_16 ⟨Nat.le_of_ble_eq_true rfl, Nat.le_of_ble_eq_true rfl⟩) (fun r16 h16 => ?_)
    subst h16
    refine lv_if_eq (tgt := 26) hx hb dX1_section_19 (by decide) (fun c19 => ?_) (fun c19 => ?_)
    · -- taken at 19
      have c19 := bI_eq0.mp c19
      refine lv_iconst (v := 0) hx hb dX1_section_26 (by decide) ?_
      refine W.eq (congrArg (fun z => F0 m 27 ls (.int z :: [.ref m9])) ((bI_0 (c := ok_sec p1 p2) (by unfold ok_sec; omega)).symm)) ?_
      exact J27 ls (lv_sub hl [0, 1, 2] rfl)
    · -- not taken at 19
      have c19 := bI_ne0.mp c19
      refine lv_iconst (v := 1) hx hb dX1_section_22 (by decide) ?_
      refine lv_goto (tgt := 27) hx hb dX1_section_23 (by decide) ?_
      refine W.eq (congrArg (fun z => F0 m 27 ls (.int z :: [.ref m9])) ((bI_1 (c := ok_sec p1 p2) (by unfold ok_sec; omega)).symm)) ?_
      exact J27 ls (lv_sub hl [0, 1, 2] rfl)
set_option maxHeartbeats 4000000 in
set_option maxRecDepth 100000 in
theorem c_X1_impact (l : Launch) (dC : Nat → ClassId) (dI : Nat → Nat → Nat) (sz : Nat) (m9 b1 b2 b3 b4 b5 b6 : Nat) (cI : ClassId) (S F D J X Y : Nat → Int32) (th : Int32) (n : Nat) (ar sl hd : Int32) (hu hw : Int64) (im tc : Nat) (fa : Int32) (up dn : Int64) (p1 p2 : Int32) (hi8 : im ≤ 8) : Met l yX1_impact wsX1_impact ({ frames := 1, cells := 0, slots := 0, locals := 24 }) (va_Pc [.ref m9, .int p1, .int p2] (fun U => U.heap.size = sz ∧ va_P (dC, dI) vwCl (wM m9 b1 b2 b3 b4 b5 b6 cI S F D J X Y th n ar sl hd hu hw im tc fa up dn) U.heap ∧ va_K (dC, dI) vwCl [(cI, .int)] U ∧ va_D (fun _ => True) (wM m9 b1 b2 b3 b4 b5 b6 cI S F D J X Y th n ar sl hd hu hw im tc fa up dn))) (va_Qi (fun r (_ : Unit) => kd4 (ok_imp p1 p2) (im < 8) True True = 0 → r = nI (im + 1)) (fun (_ : Unit) t => (kd4 (ok_imp p1 p2) (im < 8) True True = 0 ∧ at_w dC dI cI (va_A (wM m9 b1 b2 b3 b4 b5 b6 cI S F D J X Y th n ar sl hd hu hw im tc fa up dn) sz) (wM m9 b1 b2 b3 b4 b5 b6 cI S F (upd D im p1) (upd J im p2) X Y (kd4 (ok_imp p1 p2) (im < 8) True True) n ar sl hd hu hw (im + 1) tc fa up dn) t) ∨ (¬ kd4 (ok_imp p1 p2) (im < 8) True True = 0 ∧ at_w dC dI cI (va_A (wM m9 b1 b2 b3 b4 b5 b6 cI S F D J X Y th n ar sl hd hu hw im tc fa up dn) sz) (wM m9 b1 b2 b3 b4 b5 b6 cI S F D J X Y (kd4 (ok_imp p1 p2) (im < 8) True True) n ar sl hd hu hw im tc fa up dn) t)) (va_A (wM m9 b1 b2 b3 b4 b5 b6 cI S F D J X Y th n ar sl hd hu hw im tc fa up dn) sz)) 0 0 (va_A (wM m9 b1 b2 b3 b4 b5 b6 cI S F D J X Y th n ar sl hd hu hw im tc fa up dn) sz) := by
  refine Met.ofW (cc := cX1_impact) (maxL := 3) (ret := (some .int)) (by decide) rfl ?_
  intro p e s m args below meth c s₁ B hml hv
  obtain ⟨rfl, hsz, hP, hK, hD0⟩ := hv
  have hx := B.exec
  have hb := B.bytes
  have hr := B.returns
  have hts := atoms_spec (ws := wsX1_impact) B.pre
  have hown : s.vm.findClass RX1 = some m.cls := findClass_of_methodNamed B.named
  have hlocks := B.notSynchronized
  have hinX1 : ∀ w ∈ wsX10, w ∈ wsX1_impact := fun w h => List.mem_cons_of_mem _ (inX1 w h)
  have f81 := hts _ (List.mem_cons_of_mem _ wl_X1_81)
  have f16 := hts _ (List.mem_cons_of_mem _ wl_X1_16)
  have f19 := hts _ (List.mem_cons_of_mem _ wl_X1_19)
  subst hsz
  have hD := hD0.self (sz := s.heap.size)
  generalize hAe : va_A (wM m9 b1 b2 b3 b4 b5 b6 cI S F D J X Y th n ar sl hd hu hw im tc fa up dn) s.heap.size = A at hD ⊢
  have hA : ∀ q : Nat, s.heap.size ≤ q → A q := fun q h => by rw [← hAe]; exact Or.inr h
  have hS : va_S A s.heap s.heap [] := va_S.rf
  have hl := lv_entry ([.ref m9, .int p1, .int p2]) (n := 3) (Nat.le_of_ble_eq_true rfl)
  rw [lg_entry_eq]
  generalize (lg_sl ([.ref m9, .int p1, .int p2]) ++ List.replicate (3 - (lg_sl ([.ref m9, .int p1, .int p2])).length) Slot.unset).toArray = ls at hl ⊢
  have hl : lv_has ls 3 [(0, .ref m9), (1, .int p1), (2, .int p2)] := hl
  have J44 : ∀ (ls : Array Slot), lv_has ls 3 [(0, .ref m9), (1, .int p1), (2, .int p2)] → W p l e (headSpec wsX1_impact ({ frames := 1, cells := 0, slots := 0, locals := 24 })).room s m ([.ref m9, .int p1, .int p2] : List Value).toArray below meth c s.heap [] 0 0 (MQ below (va_Qi (fun r (_ : Unit) => kd4 (ok_imp p1 p2) (im < 8) True True = 0 → r = nI (im + 1)) (fun (_ : Unit) t => (kd4 (ok_imp p1 p2) (im < 8) True True = 0 ∧ at_w dC dI cI A (wM m9 b1 b2 b3 b4 b5 b6 cI S F (upd D im p1) (upd J im p2) X Y (kd4 (ok_imp p1 p2) (im < 8) True True) n ar sl hd hu hw (im + 1) tc fa up dn) t) ∨ (¬ kd4 (ok_imp p1 p2) (im < 8) True True = 0 ∧ at_w dC dI cI A (wM m9 b1 b2 b3 b4 b5 b6 cI S F D J X Y (kd4 (ok_imp p1 p2) (im < 8) True True) n ar sl hd hu hw im tc fa up dn) t)) A) ([.ref m9, .int p1, .int p2] : List Value).toArray s 0 0 A) (F0 m 44 ls [.int (bI (im < 8)), .int (bI (ok_imp p1 p2)), .ref m9]) := by
    intro ls hl
    refine lv_iconst (v := 1) hx hb dX1_impact_44 (by decide) ?_
    refine lv_iconst (v := 1) hx hb dX1_impact_45 (by decide) ?_
    have hFc := va_free (wc := (wM m9 b1 b2 b3 b4 b5 b6 cI S F D J X Y th n ar sl hd hu hw im tc fa up dn)) hD hS hA [0, 1, 2, 3, 4, 5, 6] rfl
    refine va_calli (va_runV (As := [.int (bI (ok_imp p1 p2)), .int (bI (im < 8)), .int 1, .int 1]) (rest := []) ⟨hx, hb, hml, hown, hts⟩ (c_X1_goes l dC dI s.heap.size m9 b1 b2 b3 b4 b5 b6 cI S F D J X Y th n ar sl hd hu hw im tc fa up dn (ok_imp p1 p2) (im < 8) True True) (cwV 4 hts (gV wl_X1_47 wi_X1_goes wv_X1_goes wi_X1 wc_X1_goes) rfl rfl rfl (by decide +kernel) ⟨Nat.le_of_ble_eq_true rfl, Nat.le_of_ble_eq_true rfl⟩) ⟨fun a U g mk q => ⟨q.1, q.2.1, q.2.2.1, va_K.moved (u := U) (U := U.calling g mk a) (Vm.Alike.refl U.vm) q.2.2.2.1, q.2.2.2.2⟩, va_recv hK hP (ci := 1) (q0 := 0) rfl rfl, fun U hU hW => ⟨rfl, by rw [hU], by rw [hU]; exact hP, va_K.moved hW.alike hK, hD.weaken (fun _ _ _ _ => trivial)⟩⟩ rfl rfl hl.1 rfl (lv_room (Nat.le_of_ble_eq_true rfl)) dX1_impact_46 ⟨Nat.le_of_ble_eq_true rfl, Nat.le_of_ble_eq_true rfl⟩) hS (fun q _ h => hFc q h) hFc (fun r46 u46 t H1 locs ht hvm h46 hB hz1 hk1 hS => ?_)
    obtain ⟨hP1, hK1, hD1⟩ := hB
    rw [ht] at hP1
    obtain ⟨hP, hD⟩ := va_join (wr := []) (w1 := (wM m9 b1 b2 b3 b4 b5 b6 cI S F D J X Y (kd4 (ok_imp p1 p2) (im < 8) True True) n ar sl hd hu hw im tc fa up dn)) hP hD [0, 1, 2, 3, 4, 5, 6] [] rfl rfl (by decide) (by decide) hk1 hFc hP1 hD1
    generalize H1 = H at hP hS ⊢
    have hP : va_P (dC, dI) vwCl (wM m9 b1 b2 b3 b4 b5 b6 cI S F D J X Y (kd4 (ok_imp p1 p2) (im < 8) True True) n ar sl hd hu hw im tc fa up dn) H := hP
    have hD : va_D A (wM m9 b1 b2 b3 b4 b5 b6 cI S F D J X Y (kd4 (ok_imp p1 p2) (im < 8) True True) n ar sl hd hu hw im tc fa up dn) := hD
    subst h46
    refine lv_if_ne (tgt := 54) hx hb dX1_impact_49 (by decide) (fun c49 => ?_) (fun c49 => ?_)
    · -- taken at 49
      have c49 := bI_ne0.mp c49
      have hn4 := (kd_z c49).2.1
      refine lv_aload_n hx hb dX1_impact_54 rfl (lv_at hl 0 rfl) ?_
      refine va_get (D := (dC, dI)) (ci := 1) (v := .ref b3) (C := RX1) (T := TX1) (N := 18) hx hb hts hinX1 hown hK hP 0 rfl rfl 10 (by decide) f16 (fun _ h9 => h9) rfl dX1_impact_55 ?_
      refine lv_aload_n hx hb dX1_impact_58 rfl (lv_at hl 0 rfl) ?_
      refine va_get (D := (dC, dI)) (ci := 1) (v := .int (nI im)) (C := RX1) (T := TX1) (N := 18) hx hb hts hinX1 hown hK hP 0 rfl rfl 9 (by decide) f81 (fun _ h9 => h9) rfl dX1_impact_59 ?_
      refine lv_iload_n hx hb dX1_impact_62 rfl (lv_at hl 1 rfl) ?_
      refine va_iast (D := (dC, dI)) hx hb hK hP hD hS 3 0 rfl rfl (vp_in_nI (show im < 8 by omega) (by decide)) dX1_impact_63 (fun H locs hP hD hS => ?_)
      rw [show (nI im : Int32).toNatClampNeg = im from nI_clamp (show im < 2 ^ 31 by omega)] at hP hD
      have hP : va_P (dC, dI) vwCl (wM m9 b1 b2 b3 b4 b5 b6 cI S F (upd D im p1) J X Y (kd4 (ok_imp p1 p2) (im < 8) True True) n ar sl hd hu hw im tc fa up dn) H := hP
      have hD : va_D A (wM m9 b1 b2 b3 b4 b5 b6 cI S F (upd D im p1) J X Y (kd4 (ok_imp p1 p2) (im < 8) True True) n ar sl hd hu hw im tc fa up dn) := hD
      refine lv_aload_n hx hb dX1_impact_64 rfl (lv_at hl 0 rfl) ?_
      refine va_get (D := (dC, dI)) (ci := 1) (v := .ref b4) (C := RX1) (T := TX1) (N := 18) hx hb hts hinX1 hown hK hP 0 rfl rfl 11 (by decide) f19 (fun _ h9 => h9) rfl dX1_impact_65 ?_
      refine lv_aload_n hx hb dX1_impact_68 rfl (lv_at hl 0 rfl) ?_
      refine va_get (D := (dC, dI)) (ci := 1) (v := .int (nI im)) (C := RX1) (T := TX1) (N := 18) hx hb hts hinX1 hown hK hP 0 rfl rfl 9 (by decide) f81 (fun _ h9 => h9) rfl dX1_impact_69 ?_
      refine lv_iload_n hx hb dX1_impact_72 rfl (lv_at hl 2 rfl) ?_
      refine va_iast (D := (dC, dI)) hx hb hK hP hD hS 4 0 rfl rfl (vp_in_nI (show im < 8 by omega) (by decide)) dX1_impact_73 (fun H locs hP hD hS => ?_)
      rw [show (nI im : Int32).toNatClampNeg = im from nI_clamp (show im < 2 ^ 31 by omega)] at hP hD
      have hP : va_P (dC, dI) vwCl (wM m9 b1 b2 b3 b4 b5 b6 cI S F (upd D im p1) (upd J im p2) X Y (kd4 (ok_imp p1 p2) (im < 8) True True) n ar sl hd hu hw im tc fa up dn) H := hP
      have hD : va_D A (wM m9 b1 b2 b3 b4 b5 b6 cI S F (upd D im p1) (upd J im p2) X Y (kd4 (ok_imp p1 p2) (im < 8) True True) n ar sl hd hu hw im tc fa up dn) := hD
      refine lv_aload_n hx hb dX1_impact_74 rfl (lv_at hl 0 rfl) ?_
      refine lv_dup hx hb dX1_impact_75 rfl ?_
      refine va_get (D := (dC, dI)) (ci := 1) (v := .int (nI im)) (C := RX1) (T := TX1) (N := 18) hx hb hts hinX1 hown hK hP 0 rfl rfl 9 (by decide) f81 (fun _ h9 => h9) rfl dX1_impact_76 ?_
      refine lv_iconst (v := 1) hx hb dX1_impact_79 (by decide) ?_
      refine lv_iadd hx hb dX1_impact_80 ?_
      refine W.eq (congrArg (fun z => F0 m 81 ls (.int z :: [.ref m9])) (nI_1 im)) ?_
      refine va_put (D := (dC, dI)) (ci := 1) (v := .int (nI (im + 1))) (ty := .int) (C := RX1) (T := TX1) (N := 18) hx hb hts hinX1 tyX1 tyX1_ok nmX1 hown hK hP hD hS 0 rfl rfl 9 (by decide) f81 (fun _ h9 => h9) rfl (by decide +kernel) (rfl) (rfl) (Nat.le_of_ble_eq_true rfl) dX1_impact_81 (fun H locs hP hD hS => ?_)
      have hP : va_P (dC, dI) vwCl (wM m9 b1 b2 b3 b4 b5 b6 cI S F (upd D im p1) (upd J im p2) X Y (kd4 (ok_imp p1 p2) (im < 8) True True) n ar sl hd hu hw (im + 1) tc fa up dn) H := hP
      have hD : va_D A (wM m9 b1 b2 b3 b4 b5 b6 cI S F (upd D im p1) (upd J im p2) X Y (kd4 (ok_imp p1 p2) (im < 8) True True) n ar sl hd hu hw (im + 1) tc fa up dn) := hD
      refine lv_aload_n hx hb dX1_impact_84 rfl (lv_at hl 0 rfl) ?_
      refine va_get (D := (dC, dI)) (ci := 1) (v := .int (nI (im + 1))) (C := RX1) (T := TX1) (N := 18) hx hb hts hinX1 hown hK hP 0 rfl rfl 9 (by decide) f81 (fun _ h9 => h9) rfl dX1_impact_85 ?_
      exact W.iret (v := nI (im + 1)) hx hb hr (fun t ht hW => ⟨⟨nI (im + 1), (), rfl, fun _ => rfl, Or.inl ⟨c49, ⟨by rw [ht]; exact hP, va_K.moved hW.alike hK, hD⟩⟩⟩, hS.F ht⟩) hS.2.2 dX1_impact_88
    · -- not taken at 49
      have c49 := bI_eq0.mp c49
      refine lv_iconst (v := 0) hx hb dX1_impact_52 (by decide) ?_
      exact W.iret (v := 0) hx hb hr (fun t ht hW => ⟨⟨0, (), rfl, fun q => absurd q c49, Or.inr ⟨c49, ⟨by rw [ht]; exact hP, va_K.moved hW.alike hK, hD⟩⟩⟩, hS.F ht⟩) hS.2.2 dX1_impact_53
  have J30 : ∀ (ls : Array Slot), lv_has ls 3 [(0, .ref m9), (1, .int p1), (2, .int p2)] → W p l e (headSpec wsX1_impact ({ frames := 1, cells := 0, slots := 0, locals := 24 })).room s m ([.ref m9, .int p1, .int p2] : List Value).toArray below meth c s.heap [] 0 0 (MQ below (va_Qi (fun r (_ : Unit) => kd4 (ok_imp p1 p2) (im < 8) True True = 0 → r = nI (im + 1)) (fun (_ : Unit) t => (kd4 (ok_imp p1 p2) (im < 8) True True = 0 ∧ at_w dC dI cI A (wM m9 b1 b2 b3 b4 b5 b6 cI S F (upd D im p1) (upd J im p2) X Y (kd4 (ok_imp p1 p2) (im < 8) True True) n ar sl hd hu hw (im + 1) tc fa up dn) t) ∨ (¬ kd4 (ok_imp p1 p2) (im < 8) True True = 0 ∧ at_w dC dI cI A (wM m9 b1 b2 b3 b4 b5 b6 cI S F D J X Y (kd4 (ok_imp p1 p2) (im < 8) True True) n ar sl hd hu hw im tc fa up dn) t)) A) ([.ref m9, .int p1, .int p2] : List Value).toArray s 0 0 A) (F0 m 30 ls [.int (bI (ok_imp p1 p2)), .ref m9]) := by
    intro ls hl
    refine lv_aload_n hx hb dX1_impact_30 rfl (lv_at hl 0 rfl) ?_
    refine va_get (D := (dC, dI)) (ci := 1) (v := .int (nI im)) (C := RX1) (T := TX1) (N := 18) hx hb hts hinX1 hown hK hP 0 rfl rfl 9 (by decide) f81 (fun _ h9 => h9) rfl dX1_impact_31 ?_
    refine lv_bipush (v := 8) hx hb dX1_impact_34 (by decide) ?_
    refine lv_icmp_ge (tgt := 43) hx hb dX1_impact_36 (by decide) (fun c36 => ?_) (fun c36 => ?_)
    · -- taken at 36
      have c36 : 8 ≤ im := (nI_leI (a := 8) (b := im) (by omega) (by omega)).mp c36
      refine lv_iconst (v := 0) hx hb dX1_impact_43 (by decide) ?_
      refine W.eq (congrArg (fun z => F0 m 44 ls (.int z :: [.int (bI (ok_imp p1 p2)), .ref m9])) ((bI_0 (c := im < 8) (by omega)).symm)) ?_
      exact J44 ls (lv_sub hl [0, 1, 2] rfl)
    · -- not taken at 36
      have c36 : ¬ 8 ≤ im := fun q9 => c36 ((nI_leI (a := 8) (b := im) (by omega) (by omega)).mpr q9)
      refine lv_iconst (v := 1) hx hb dX1_impact_39 (by decide) ?_
      refine lv_goto (tgt := 44) hx hb dX1_impact_40 (by decide) ?_
      refine W.eq (congrArg (fun z => F0 m 44 ls (.int z :: [.int (bI (ok_imp p1 p2)), .ref m9])) ((bI_1 (c := im < 8) (by omega)).symm)) ?_
      exact J44 ls (lv_sub hl [0, 1, 2] rfl)
  refine lv_aload_n hx hb dX1_impact_0 rfl (lv_at hl 0 rfl) ?_
  refine lv_iload_n hx hb dX1_impact_1 rfl (lv_at hl 1 rfl) ?_
  refine lv_sipush (v := (-200)) hx hb dX1_impact_2 (by decide) ?_
  refine lv_sipush (v := 200) hx hb dX1_impact_5 (by decide) ?_
  refine vp_callSi (W.runS (As := [.int p1, .int (-200), .int 200]) (rest := [.ref m9]) ⟨hx, hb, hml, hown, hts⟩ (c_X1_in l p1 (-200) 200 (-200) 200 (by decide) (by decide)) (va_cwS 3 hts (gS wl_X1_40 ws_X1_in wi_X1 wc_X1_in) rfl rfl rfl (by decide +kernel) ⟨Nat.le_of_ble_eq_true rfl, Nat.le_of_ble_eq_true rfl⟩) ⟨fun _ _ _ _ q => q, fun U hU hW => ⟨rfl, trivial⟩⟩ rfl rfl hl.1 rfl (lv_room (Nat.le_of_ble_eq_true rfl)) dX1_impact_8 ⟨Nat.le_of_ble_eq_true rfl, Nat.le_of_ble_eq_true rfl⟩) (fun r8 h8 => ?_)
  subst h8
  refine lv_if_eq (tgt := 29) hx hb dX1_impact_11 (by decide) (fun c11 => ?_) (fun c11 => ?_)
  · -- taken at 11
    have c11 := bI_eq0.mp c11
    refine lv_iconst (v := 0) hx hb dX1_impact_29 (by decide) ?_
    refine W.eq (congrArg (fun z => F0 m 30 ls (.int z :: [.ref m9])) ((bI_0 (c := ok_imp p1 p2) (by unfold ok_imp; omega)).symm)) ?_
    exact J30 ls (lv_sub hl [0, 1, 2] rfl)
  · -- not taken at 11
    have c11 := bI_ne0.mp c11
    refine lv_iload_n hx hb dX1_impact_14 rfl (lv_at hl 2 rfl) ?_
    refine lv_iconst (v := 0) hx hb dX1_impact_15 (by decide) ?_
    refine lv_sipush (v := 400) hx hb dX1_impact_16 (by decide) ?_
    refine vp_callSi (W.runS (As := [.int p2, .int 0, .int 400]) (rest := [.ref m9]) ⟨hx, hb, hml, hown, hts⟩ (c_X1_in l p2 0 400 0 400 (by decide) (by decide)) (va_cwS 3 hts (gS wl_X1_40 ws_X1_in wi_X1 wc_X1_in) rfl rfl rfl (by decide +kernel) ⟨Nat.le_of_ble_eq_true rfl, Nat.le_of_ble_eq_true rfl⟩) ⟨fun _ _ _ _ q => q, fun U hU hW => ⟨rfl, trivial⟩⟩ rfl rfl hl.1 rfl (lv_room (Nat.le_of_ble_eq_true rfl)) dX1_impact_19 ⟨Nat.le_of_ble_eq_true rfl, Nat.le_of_ble_eq_true rfl⟩) (fun r19 h19 => ?_)
    subst h19
    refine lv_if_eq (tgt := 29) hx hb dX1_impact_22 (by decide) (fun c22 => ?_) (fun c22 => ?_)
    · -- taken at 22
      have c22 := bI_eq0.mp c22
      refine lv_iconst (v := 0) hx hb dX1_impact_29 (by decide) ?_
      refine W.eq (congrArg (fun z => F0 m 30 ls (.int z :: [.ref m9])) ((bI_0 (c := ok_imp p1 p2) (by unfold ok_imp; omega)).symm)) ?_
      exact J30 ls (lv_sub hl [0, 1, 2] rfl)
    · -- not taken at 22
      have c22 := bI_ne0.mp c22
      refine lv_iconst (v := 1) hx hb dX1_impact_25 (by decide) ?_
      refine lv_goto (tgt := 30) hx hb dX1_impact_26 (by decide) ?_
      refine W.eq (congrArg (fun z => F0 m 30 ls (.int z :: [.ref m9])) ((bI_1 (c := ok_imp p1 p2) (by unfold ok_imp; omega)).symm)) ?_
      exact J30 ls (lv_sub hl [0, 1, 2] rfl)
set_option maxHeartbeats 4000000 in
set_option maxRecDepth 100000 in
theorem c_X1_table (l : Launch) (dC : Nat → ClassId) (dI : Nat → Nat → Nat) (sz : Nat) (m9 b1 b2 b3 b4 b5 b6 : Nat) (cI : ClassId) (S F D J X Y : Nat → Int32) (th : Int32) (n : Nat) (ar sl hd : Int32) (hu hw : Int64) (im tc : Nat) (fa : Int32) (up dn : Int64) (p1 p2 : Int32) (htc : tc ≤ 8) : Met l yX1_table wsX1_table ({ frames := 1, cells := 0, slots := 0, locals := 24 }) (va_Pc [.ref m9, .int p1, .int p2] (fun U => U.heap.size = sz ∧ va_P (dC, dI) vwCl (wM m9 b1 b2 b3 b4 b5 b6 cI S F D J X Y th n ar sl hd hu hw im tc fa up dn) U.heap ∧ va_K (dC, dI) vwCl [(cI, .int)] U ∧ va_D (fun _ => True) (wM m9 b1 b2 b3 b4 b5 b6 cI S F D J X Y th n ar sl hd hu hw im tc fa up dn))) (va_Qi (fun r (_ : Unit) => kd4 (ok_tab tc X p1 p2) (tc < 8) True True = 0 → r = nI (tc + 1)) (fun (_ : Unit) t => (kd4 (ok_tab tc X p1 p2) (tc < 8) True True = 0 ∧ at_w dC dI cI (va_A (wM m9 b1 b2 b3 b4 b5 b6 cI S F D J X Y th n ar sl hd hu hw im tc fa up dn) sz) (wM m9 b1 b2 b3 b4 b5 b6 cI S F D J (upd X tc p1) (upd Y tc p2) (kd4 (ok_tab tc X p1 p2) (tc < 8) True True) n ar sl hd hu hw im (tc + 1) fa up dn) t) ∨ (¬ kd4 (ok_tab tc X p1 p2) (tc < 8) True True = 0 ∧ at_w dC dI cI (va_A (wM m9 b1 b2 b3 b4 b5 b6 cI S F D J X Y th n ar sl hd hu hw im tc fa up dn) sz) (wM m9 b1 b2 b3 b4 b5 b6 cI S F D J X Y (kd4 (ok_tab tc X p1 p2) (tc < 8) True True) n ar sl hd hu hw im tc fa up dn) t)) (va_A (wM m9 b1 b2 b3 b4 b5 b6 cI S F D J X Y th n ar sl hd hu hw im tc fa up dn) sz)) 0 0 (va_A (wM m9 b1 b2 b3 b4 b5 b6 cI S F D J X Y th n ar sl hd hu hw im tc fa up dn) sz) := by
  refine Met.ofW (cc := cX1_table) (maxL := 4) (ret := (some .int)) (by decide) rfl ?_
  intro p e s m args below meth c s₁ B hml hv
  obtain ⟨rfl, hsz, hP, hK, hD0⟩ := hv
  have hx := B.exec
  have hb := B.bytes
  have hr := B.returns
  have hts := atoms_spec (ws := wsX1_table) B.pre
  have hown : s.vm.findClass RX1 = some m.cls := findClass_of_methodNamed B.named
  have hlocks := B.notSynchronized
  have hinX1 : ∀ w ∈ wsX10, w ∈ wsX1_table := fun w h => List.mem_cons_of_mem _ (inX1 w h)
  have f86 := hts _ (List.mem_cons_of_mem _ wl_X1_86)
  have f22 := hts _ (List.mem_cons_of_mem _ wl_X1_22)
  have f25 := hts _ (List.mem_cons_of_mem _ wl_X1_25)
  subst hsz
  have hD := hD0.self (sz := s.heap.size)
  generalize hAe : va_A (wM m9 b1 b2 b3 b4 b5 b6 cI S F D J X Y th n ar sl hd hu hw im tc fa up dn) s.heap.size = A at hD ⊢
  have hA : ∀ q : Nat, s.heap.size ≤ q → A q := fun q h => by rw [← hAe]; exact Or.inr h
  have hS : va_S A s.heap s.heap [] := va_S.rf
  have hl := lv_entry ([.ref m9, .int p1, .int p2]) (n := 4) (Nat.le_of_ble_eq_true rfl)
  rw [lg_entry_eq]
  generalize (lg_sl ([.ref m9, .int p1, .int p2]) ++ List.replicate (4 - (lg_sl ([.ref m9, .int p1, .int p2])).length) Slot.unset).toArray = ls at hl ⊢
  have hl : lv_has ls 4 [(0, .ref m9), (1, .int p1), (2, .int p2)] := hl
  have J66 : ∀ (ls : Array Slot), lv_has ls 4 [(3, .int (bI (ok_tab tc X p1 p2))), (0, .ref m9), (1, .int p1), (2, .int p2)] → W p l e (headSpec wsX1_table ({ frames := 1, cells := 0, slots := 0, locals := 24 })).room s m ([.ref m9, .int p1, .int p2] : List Value).toArray below meth c s.heap [] 0 0 (MQ below (va_Qi (fun r (_ : Unit) => kd4 (ok_tab tc X p1 p2) (tc < 8) True True = 0 → r = nI (tc + 1)) (fun (_ : Unit) t => (kd4 (ok_tab tc X p1 p2) (tc < 8) True True = 0 ∧ at_w dC dI cI A (wM m9 b1 b2 b3 b4 b5 b6 cI S F D J (upd X tc p1) (upd Y tc p2) (kd4 (ok_tab tc X p1 p2) (tc < 8) True True) n ar sl hd hu hw im (tc + 1) fa up dn) t) ∨ (¬ kd4 (ok_tab tc X p1 p2) (tc < 8) True True = 0 ∧ at_w dC dI cI A (wM m9 b1 b2 b3 b4 b5 b6 cI S F D J X Y (kd4 (ok_tab tc X p1 p2) (tc < 8) True True) n ar sl hd hu hw im tc fa up dn) t)) A) ([.ref m9, .int p1, .int p2] : List Value).toArray s 0 0 A) (F0 m 66 ls [.int (bI (tc < 8)), .int (bI (ok_tab tc X p1 p2)), .ref m9]) := by
    intro ls hl
    refine lv_iconst (v := 1) hx hb dX1_table_66 (by decide) ?_
    refine lv_iconst (v := 1) hx hb dX1_table_67 (by decide) ?_
    have hFc := va_free (wc := (wM m9 b1 b2 b3 b4 b5 b6 cI S F D J X Y th n ar sl hd hu hw im tc fa up dn)) hD hS hA [0, 1, 2, 3, 4, 5, 6] rfl
    refine va_calli (va_runV (As := [.int (bI (ok_tab tc X p1 p2)), .int (bI (tc < 8)), .int 1, .int 1]) (rest := []) ⟨hx, hb, hml, hown, hts⟩ (c_X1_goes l dC dI s.heap.size m9 b1 b2 b3 b4 b5 b6 cI S F D J X Y th n ar sl hd hu hw im tc fa up dn (ok_tab tc X p1 p2) (tc < 8) True True) (cwV 4 hts (gV wl_X1_47 wi_X1_goes wv_X1_goes wi_X1 wc_X1_goes) rfl rfl rfl (by decide +kernel) ⟨Nat.le_of_ble_eq_true rfl, Nat.le_of_ble_eq_true rfl⟩) ⟨fun a U g mk q => ⟨q.1, q.2.1, q.2.2.1, va_K.moved (u := U) (U := U.calling g mk a) (Vm.Alike.refl U.vm) q.2.2.2.1, q.2.2.2.2⟩, va_recv hK hP (ci := 1) (q0 := 0) rfl rfl, fun U hU hW => ⟨rfl, by rw [hU], by rw [hU]; exact hP, va_K.moved hW.alike hK, hD.weaken (fun _ _ _ _ => trivial)⟩⟩ rfl rfl hl.1 rfl (lv_room (Nat.le_of_ble_eq_true rfl)) dX1_table_68 ⟨Nat.le_of_ble_eq_true rfl, Nat.le_of_ble_eq_true rfl⟩) hS (fun q _ h => hFc q h) hFc (fun r68 u68 t H1 locs ht hvm h68 hB hz1 hk1 hS => ?_)
    obtain ⟨hP1, hK1, hD1⟩ := hB
    rw [ht] at hP1
    obtain ⟨hP, hD⟩ := va_join (wr := []) (w1 := (wM m9 b1 b2 b3 b4 b5 b6 cI S F D J X Y (kd4 (ok_tab tc X p1 p2) (tc < 8) True True) n ar sl hd hu hw im tc fa up dn)) hP hD [0, 1, 2, 3, 4, 5, 6] [] rfl rfl (by decide) (by decide) hk1 hFc hP1 hD1
    generalize H1 = H at hP hS ⊢
    have hP : va_P (dC, dI) vwCl (wM m9 b1 b2 b3 b4 b5 b6 cI S F D J X Y (kd4 (ok_tab tc X p1 p2) (tc < 8) True True) n ar sl hd hu hw im tc fa up dn) H := hP
    have hD : va_D A (wM m9 b1 b2 b3 b4 b5 b6 cI S F D J X Y (kd4 (ok_tab tc X p1 p2) (tc < 8) True True) n ar sl hd hu hw im tc fa up dn) := hD
    subst h68
    refine lv_if_ne (tgt := 76) hx hb dX1_table_71 (by decide) (fun c71 => ?_) (fun c71 => ?_)
    · -- taken at 71
      have c71 := bI_ne0.mp c71
      have hn4 := (kd_z c71).2.1
      refine lv_aload_n hx hb dX1_table_76 rfl (lv_at hl 1 rfl) ?_
      refine va_get (D := (dC, dI)) (ci := 1) (v := .ref b5) (C := RX1) (T := TX1) (N := 18) hx hb hts hinX1 hown hK hP 0 rfl rfl 13 (by decide) f22 (fun _ h9 => h9) rfl dX1_table_77 ?_
      refine lv_aload_n hx hb dX1_table_80 rfl (lv_at hl 1 rfl) ?_
      refine va_get (D := (dC, dI)) (ci := 1) (v := .int (nI tc)) (C := RX1) (T := TX1) (N := 18) hx hb hts hinX1 hown hK hP 0 rfl rfl 12 (by decide) f86 (fun _ h9 => h9) rfl dX1_table_81 ?_
      refine lv_iload_n hx hb dX1_table_84 rfl (lv_at hl 2 rfl) ?_
      refine va_iast (D := (dC, dI)) hx hb hK hP hD hS 5 0 rfl rfl (vp_in_nI (show tc < 8 by omega) (by decide)) dX1_table_85 (fun H locs hP hD hS => ?_)
      rw [show (nI tc : Int32).toNatClampNeg = tc from nI_clamp (show tc < 2 ^ 31 by omega)] at hP hD
      have hP : va_P (dC, dI) vwCl (wM m9 b1 b2 b3 b4 b5 b6 cI S F D J (upd X tc p1) Y (kd4 (ok_tab tc X p1 p2) (tc < 8) True True) n ar sl hd hu hw im tc fa up dn) H := hP
      have hD : va_D A (wM m9 b1 b2 b3 b4 b5 b6 cI S F D J (upd X tc p1) Y (kd4 (ok_tab tc X p1 p2) (tc < 8) True True) n ar sl hd hu hw im tc fa up dn) := hD
      refine lv_aload_n hx hb dX1_table_86 rfl (lv_at hl 1 rfl) ?_
      refine va_get (D := (dC, dI)) (ci := 1) (v := .ref b6) (C := RX1) (T := TX1) (N := 18) hx hb hts hinX1 hown hK hP 0 rfl rfl 14 (by decide) f25 (fun _ h9 => h9) rfl dX1_table_87 ?_
      refine lv_aload_n hx hb dX1_table_90 rfl (lv_at hl 1 rfl) ?_
      refine va_get (D := (dC, dI)) (ci := 1) (v := .int (nI tc)) (C := RX1) (T := TX1) (N := 18) hx hb hts hinX1 hown hK hP 0 rfl rfl 12 (by decide) f86 (fun _ h9 => h9) rfl dX1_table_91 ?_
      refine lv_iload_n hx hb dX1_table_94 rfl (lv_at hl 3 rfl) ?_
      refine va_iast (D := (dC, dI)) hx hb hK hP hD hS 6 0 rfl rfl (vp_in_nI (show tc < 8 by omega) (by decide)) dX1_table_95 (fun H locs hP hD hS => ?_)
      rw [show (nI tc : Int32).toNatClampNeg = tc from nI_clamp (show tc < 2 ^ 31 by omega)] at hP hD
      have hP : va_P (dC, dI) vwCl (wM m9 b1 b2 b3 b4 b5 b6 cI S F D J (upd X tc p1) (upd Y tc p2) (kd4 (ok_tab tc X p1 p2) (tc < 8) True True) n ar sl hd hu hw im tc fa up dn) H := hP
      have hD : va_D A (wM m9 b1 b2 b3 b4 b5 b6 cI S F D J (upd X tc p1) (upd Y tc p2) (kd4 (ok_tab tc X p1 p2) (tc < 8) True True) n ar sl hd hu hw im tc fa up dn) := hD
      refine lv_aload_n hx hb dX1_table_96 rfl (lv_at hl 1 rfl) ?_
      refine lv_dup hx hb dX1_table_97 rfl ?_
      refine va_get (D := (dC, dI)) (ci := 1) (v := .int (nI tc)) (C := RX1) (T := TX1) (N := 18) hx hb hts hinX1 hown hK hP 0 rfl rfl 12 (by decide) f86 (fun _ h9 => h9) rfl dX1_table_98 ?_
      refine lv_iconst (v := 1) hx hb dX1_table_101 (by decide) ?_
      refine lv_iadd hx hb dX1_table_102 ?_
      refine W.eq (congrArg (fun z => F0 m 103 ls (.int z :: [.ref m9])) (nI_1 tc)) ?_
      refine va_put (D := (dC, dI)) (ci := 1) (v := .int (nI (tc + 1))) (ty := .int) (C := RX1) (T := TX1) (N := 18) hx hb hts hinX1 tyX1 tyX1_ok nmX1 hown hK hP hD hS 0 rfl rfl 12 (by decide) f86 (fun _ h9 => h9) rfl (by decide +kernel) (rfl) (rfl) (Nat.le_of_ble_eq_true rfl) dX1_table_103 (fun H locs hP hD hS => ?_)
      have hP : va_P (dC, dI) vwCl (wM m9 b1 b2 b3 b4 b5 b6 cI S F D J (upd X tc p1) (upd Y tc p2) (kd4 (ok_tab tc X p1 p2) (tc < 8) True True) n ar sl hd hu hw im (tc + 1) fa up dn) H := hP
      have hD : va_D A (wM m9 b1 b2 b3 b4 b5 b6 cI S F D J (upd X tc p1) (upd Y tc p2) (kd4 (ok_tab tc X p1 p2) (tc < 8) True True) n ar sl hd hu hw im (tc + 1) fa up dn) := hD
      refine lv_aload_n hx hb dX1_table_106 rfl (lv_at hl 1 rfl) ?_
      refine va_get (D := (dC, dI)) (ci := 1) (v := .int (nI (tc + 1))) (C := RX1) (T := TX1) (N := 18) hx hb hts hinX1 hown hK hP 0 rfl rfl 12 (by decide) f86 (fun _ h9 => h9) rfl dX1_table_107 ?_
      exact W.iret (v := nI (tc + 1)) hx hb hr (fun t ht hW => ⟨⟨nI (tc + 1), (), rfl, fun _ => rfl, Or.inl ⟨c71, ⟨by rw [ht]; exact hP, va_K.moved hW.alike hK, hD⟩⟩⟩, hS.F ht⟩) hS.2.2 dX1_table_110
    · -- not taken at 71
      have c71 := bI_eq0.mp c71
      refine lv_iconst (v := 0) hx hb dX1_table_74 (by decide) ?_
      exact W.iret (v := 0) hx hb hr (fun t ht hW => ⟨⟨0, (), rfl, fun q => absurd q c71, Or.inr ⟨c71, ⟨by rw [ht]; exact hP, va_K.moved hW.alike hK, hD⟩⟩⟩, hS.F ht⟩) hS.2.2 dX1_table_75
  have J49 : ∀ (ls : Array Slot), lv_has ls 4 [(0, .ref m9), (1, .int p1), (2, .int p2)] → W p l e (headSpec wsX1_table ({ frames := 1, cells := 0, slots := 0, locals := 24 })).room s m ([.ref m9, .int p1, .int p2] : List Value).toArray below meth c s.heap [] 0 0 (MQ below (va_Qi (fun r (_ : Unit) => kd4 (ok_tab tc X p1 p2) (tc < 8) True True = 0 → r = nI (tc + 1)) (fun (_ : Unit) t => (kd4 (ok_tab tc X p1 p2) (tc < 8) True True = 0 ∧ at_w dC dI cI A (wM m9 b1 b2 b3 b4 b5 b6 cI S F D J (upd X tc p1) (upd Y tc p2) (kd4 (ok_tab tc X p1 p2) (tc < 8) True True) n ar sl hd hu hw im (tc + 1) fa up dn) t) ∨ (¬ kd4 (ok_tab tc X p1 p2) (tc < 8) True True = 0 ∧ at_w dC dI cI A (wM m9 b1 b2 b3 b4 b5 b6 cI S F D J X Y (kd4 (ok_tab tc X p1 p2) (tc < 8) True True) n ar sl hd hu hw im tc fa up dn) t)) A) ([.ref m9, .int p1, .int p2] : List Value).toArray s 0 0 A) (F0 m 49 ls [.int (bI (ok_tab tc X p1 p2))]) := by
    intro ls hl
    refine lv_istore_n (lv' := [(3, .int (bI (ok_tab tc X p1 p2))), (0, .ref m9), (1, .int p1), (2, .int p2)]) hx hb dX1_table_49 rfl hl (by decide) rfl (fun ls hl => ?_)
    refine lv_aload_n hx hb dX1_table_50 rfl (lv_at hl 1 rfl) ?_
    refine lv_iload_n hx hb dX1_table_51 rfl (lv_at hl 0 rfl) ?_
    refine lv_aload_n hx hb dX1_table_52 rfl (lv_at hl 1 rfl) ?_
    refine va_get (D := (dC, dI)) (ci := 1) (v := .int (nI tc)) (C := RX1) (T := TX1) (N := 18) hx hb hts hinX1 hown hK hP 0 rfl rfl 12 (by decide) f86 (fun _ h9 => h9) rfl dX1_table_53 ?_
    refine lv_bipush (v := 8) hx hb dX1_table_56 (by decide) ?_
    refine lv_icmp_ge (tgt := 65) hx hb dX1_table_58 (by decide) (fun c58 => ?_) (fun c58 => ?_)
    · -- taken at 58
      have c58 : 8 ≤ tc := (nI_leI (a := 8) (b := tc) (by omega) (by omega)).mp c58
      refine lv_iconst (v := 0) hx hb dX1_table_65 (by decide) ?_
      refine W.eq (congrArg (fun z => F0 m 66 ls (.int z :: [.int (bI (ok_tab tc X p1 p2)), .ref m9])) ((bI_0 (c := tc < 8) (by omega)).symm)) ?_
      exact J66 ls (lv_sub hl [0, 1, 2, 3] rfl)
    · -- not taken at 58
      have c58 : ¬ 8 ≤ tc := fun q9 => c58 ((nI_leI (a := 8) (b := tc) (by omega) (by omega)).mpr q9)
      refine lv_iconst (v := 1) hx hb dX1_table_61 (by decide) ?_
      refine lv_goto (tgt := 66) hx hb dX1_table_62 (by decide) ?_
      refine W.eq (congrArg (fun z => F0 m 66 ls (.int z :: [.int (bI (ok_tab tc X p1 p2)), .ref m9])) ((bI_1 (c := tc < 8) (by omega)).symm)) ?_
      exact J66 ls (lv_sub hl [0, 1, 2, 3] rfl)
  refine lv_iload_n hx hb dX1_table_0 rfl (lv_at hl 1 rfl) ?_
  refine lv_iconst (v := 0) hx hb dX1_table_1 (by decide) ?_
  refine lv_sipush (v := 2000) hx hb dX1_table_2 (by decide) ?_
  refine vp_callSi (W.runS (As := [.int p1, .int 0, .int 2000]) (rest := []) ⟨hx, hb, hml, hown, hts⟩ (c_X1_in l p1 0 2000 0 2000 (by decide) (by decide)) (va_cwS 3 hts (gS wl_X1_40 ws_X1_in wi_X1 wc_X1_in) rfl rfl rfl (by decide +kernel) ⟨Nat.le_of_ble_eq_true rfl, Nat.le_of_ble_eq_true rfl⟩) ⟨fun _ _ _ _ q => q, fun U hU hW => ⟨rfl, trivial⟩⟩ rfl rfl hl.1 rfl (lv_room (Nat.le_of_ble_eq_true rfl)) dX1_table_5 ⟨Nat.le_of_ble_eq_true rfl, Nat.le_of_ble_eq_true rfl⟩) (fun r5 h5 => ?_)
  subst h5
  refine lv_if_eq (tgt := 48) hx hb dX1_table_8 (by decide) (fun c8 => ?_) (fun c8 => ?_)
  · -- taken at 8
    have c8 := bI_eq0.mp c8
    refine lv_iconst (v := 0) hx hb dX1_table_48 (by decide) ?_
    refine W.eq (congrArg (fun z => F0 m 49 ls (.int z :: [])) ((bI_0 (c := ok_tab tc X p1 p2) (by unfold ok_tab; omega)).symm)) ?_
    exact J49 ls (lv_sub hl [0, 1, 2] rfl)
  · -- not taken at 8
    have c8 := bI_ne0.mp c8
    refine lv_iload_n hx hb dX1_table_11 rfl (lv_at hl 2 rfl) ?_
    refine lv_iconst (v := 0) hx hb dX1_table_12 (by decide) ?_
    refine lv_sipush (v := 2000) hx hb dX1_table_13 (by decide) ?_
    refine vp_callSi (W.runS (As := [.int p2, .int 0, .int 2000]) (rest := []) ⟨hx, hb, hml, hown, hts⟩ (c_X1_in l p2 0 2000 0 2000 (by decide) (by decide)) (va_cwS 3 hts (gS wl_X1_40 ws_X1_in wi_X1 wc_X1_in) rfl rfl rfl (by decide +kernel) ⟨Nat.le_of_ble_eq_true rfl, Nat.le_of_ble_eq_true rfl⟩) ⟨fun _ _ _ _ q => q, fun U hU hW => ⟨rfl, trivial⟩⟩ rfl rfl hl.1 rfl (lv_room (Nat.le_of_ble_eq_true rfl)) dX1_table_16 ⟨Nat.le_of_ble_eq_true rfl, Nat.le_of_ble_eq_true rfl⟩) (fun r16 h16 => ?_)
    subst h16
    refine lv_if_eq (tgt := 48) hx hb dX1_table_19 (by decide) (fun c19 => ?_) (fun c19 => ?_)
    · -- taken at 19
      have c19 := bI_eq0.mp c19
      refine lv_iconst (v := 0) hx hb dX1_table_48 (by decide) ?_
      refine W.eq (congrArg (fun z => F0 m 49 ls (.int z :: [])) ((bI_0 (c := ok_tab tc X p1 p2) (by unfold ok_tab; omega)).symm)) ?_
      exact J49 ls (lv_sub hl [0, 1, 2] rfl)
    · -- not taken at 19
      have c19 := bI_ne0.mp c19
      refine lv_aload_n hx hb dX1_table_22 rfl (lv_at hl 0 rfl) ?_
      refine va_get (D := (dC, dI)) (ci := 1) (v := .int (nI tc)) (C := RX1) (T := TX1) (N := 18) hx hb hts hinX1 hown hK hP 0 rfl rfl 12 (by decide) f86 (fun _ h9 => h9) rfl dX1_table_23 ?_
      refine lv_if_eq (tgt := 44) hx hb dX1_table_26 (by decide) (fun c26 => ?_) (fun c26 => ?_)
      · -- taken at 26
        have c26 : tc = 0 := (nI_eq (a := tc) (b := 0) (by omega) (by omega)).mp c26
        refine lv_iconst (v := 1) hx hb dX1_table_44 (by decide) ?_
        refine lv_goto (tgt := 49) hx hb dX1_table_45 (by decide) ?_
        refine W.eq (congrArg (fun z => F0 m 49 ls (.int z :: [])) ((bI_1 (c := ok_tab tc X p1 p2) (by unfold ok_tab; omega)).symm)) ?_
        exact J49 ls (lv_sub hl [0, 1, 2] rfl)
      · -- not taken at 26
        have c26 : ¬ tc = 0 := fun q9 => c26 ((nI_eq (a := tc) (b := 0) (by omega) (by omega)).mpr q9)
        refine lv_iload_n hx hb dX1_table_29 rfl (lv_at hl 1 rfl) ?_
        refine lv_aload_n hx hb dX1_table_30 rfl (lv_at hl 0 rfl) ?_
        refine va_get (D := (dC, dI)) (ci := 1) (v := .ref b5) (C := RX1) (T := TX1) (N := 18) hx hb hts hinX1 hown hK hP 0 rfl rfl 13 (by decide) f22 (fun _ h9 => h9) rfl dX1_table_31 ?_
        refine lv_aload_n hx hb dX1_table_34 rfl (lv_at hl 0 rfl) ?_
        refine va_get (D := (dC, dI)) (ci := 1) (v := .int (nI tc)) (C := RX1) (T := TX1) (N := 18) hx hb hts hinX1 hown hK hP 0 rfl rfl 12 (by decide) f86 (fun _ h9 => h9) rfl dX1_table_35 ?_
        refine lv_iconst (v := 1) hx hb dX1_table_38 (by decide) ?_
        refine lv_isub hx hb dX1_table_39 ?_
        refine W.eq (congrArg (fun z => F0 m 40 ls (.int z :: [.ref b5, .int p1])) (nI_p1 (by omega))) ?_
        refine va_iald (D := (dC, dI)) hx hb hK hP 5 0 rfl rfl (vp_in_nI (show tc - 1 < 8 by omega) (by decide)) dX1_table_40 ?_
        refine W.eq (congrArg (fun z => F0 m 41 ls (.int z :: [.int p1])) (congrArg X (nI_clamp (show tc - 1 < 2 ^ 31 by omega)))) ?_
        refine lv_icmp_le (tgt := 48) hx hb dX1_table_41 (by decide) (fun c41 => ?_) (fun c41 => ?_)
        · -- taken at 41
          have c41 : p1.toInt ≤ (X (tc - 1)).toInt := (Int32.le_iff_toInt_le).mp c41
          refine lv_iconst (v := 0) hx hb dX1_table_48 (by decide) ?_
          refine W.eq (congrArg (fun z => F0 m 49 ls (.int z :: [])) ((bI_0 (c := ok_tab tc X p1 p2) (by unfold ok_tab; omega)).symm)) ?_
          exact J49 ls (lv_sub hl [0, 1, 2] rfl)
        · -- not taken at 41
          have c41 : ¬ p1.toInt ≤ (X (tc - 1)).toInt := fun q9 => c41 ((Int32.le_iff_toInt_le).mpr q9)
          refine lv_iconst (v := 1) hx hb dX1_table_44 (by decide) ?_
          refine lv_goto (tgt := 49) hx hb dX1_table_45 (by decide) ?_
          refine W.eq (congrArg (fun z => F0 m 49 ls (.int z :: [])) ((bI_1 (c := ok_tab tc X p1 p2) (by unfold ok_tab; omega)).symm)) ?_
          exact J49 ls (lv_sub hl [0, 1, 2] rfl)
set_option maxHeartbeats 4000000 in
set_option maxRecDepth 100000 in
theorem c_X1_clear (l : Launch) (dC : Nat → ClassId) (dI : Nat → Nat → Nat) (sz : Nat) (m9 b1 b2 b3 b4 b5 b6 : Nat) (cI : ClassId) (S F D J X Y : Nat → Int32) (th : Int32) (n : Nat) (ar sl hd : Int32) (hu hw : Int64) (im tc : Nat) (fa : Int32) (up dn : Int64) : Met l yX1_clear wsX1_clear ({ frames := 0, cells := 0, slots := 0, locals := 0 }) (va_Pc [.ref m9] (fun U => U.heap.size = sz ∧ va_P (dC, dI) vwCl (wM m9 b1 b2 b3 b4 b5 b6 cI S F D J X Y th n ar sl hd hu hw im tc fa up dn) U.heap ∧ va_K (dC, dI) vwCl [(cI, .int)] U ∧ va_D (fun _ => True) (wM m9 b1 b2 b3 b4 b5 b6 cI S F D J X Y th n ar sl hd hu hw im tc fa up dn))) (va_Qv (fun (_ : Unit) => True) (fun (_ : Unit) t => at_w dC dI cI (va_A (wM m9 b1 b2 b3 b4 b5 b6 cI S F D J X Y th n ar sl hd hu hw im tc fa up dn) sz) (wM m9 b1 b2 b3 b4 b5 b6 cI S F D J X Y 0 0 0 0 0 hu hw im tc 0 up dn) t) (va_A (wM m9 b1 b2 b3 b4 b5 b6 cI S F D J X Y th n ar sl hd hu hw im tc fa up dn) sz)) 0 0 (va_A (wM m9 b1 b2 b3 b4 b5 b6 cI S F D J X Y th n ar sl hd hu hw im tc fa up dn) sz) := by
  refine Met.ofW (cc := cX1_clear) (maxL := 1) (ret := none) (by decide) rfl ?_
  intro p e s m args below meth c s₁ B hml hv
  obtain ⟨rfl, hsz, hP, hK, hD0⟩ := hv
  have hx := B.exec
  have hb := B.bytes
  have hr := B.returns
  have hts := atoms_spec (ws := wsX1_clear) B.pre
  have hown : s.vm.findClass RX1 = some m.cls := findClass_of_methodNamed B.named
  have hlocks := B.notSynchronized
  have hinX1 : ∀ w ∈ wsX10, w ∈ wsX1_clear := fun w h => List.mem_cons_of_mem _ (inX1 w h)
  have f28 := hts _ (List.mem_cons_of_mem _ wl_X1_28)
  have f44 := hts _ (List.mem_cons_of_mem _ wl_X1_44)
  have f51 := hts _ (List.mem_cons_of_mem _ wl_X1_51)
  have f54 := hts _ (List.mem_cons_of_mem _ wl_X1_54)
  have f61 := hts _ (List.mem_cons_of_mem _ wl_X1_61)
  have f100 := hts _ (List.mem_cons_of_mem _ wl_X1_100)
  subst hsz
  have hD := hD0.self (sz := s.heap.size)
  generalize hAe : va_A (wM m9 b1 b2 b3 b4 b5 b6 cI S F D J X Y th n ar sl hd hu hw im tc fa up dn) s.heap.size = A at hD ⊢
  have hA : ∀ q : Nat, s.heap.size ≤ q → A q := fun q h => by rw [← hAe]; exact Or.inr h
  have hS : va_S A s.heap s.heap [] := va_S.rf
  have hl := lv_entry ([.ref m9]) (n := 1) (Nat.le_of_ble_eq_true rfl)
  rw [lg_entry_eq]
  generalize (lg_sl ([.ref m9]) ++ List.replicate (1 - (lg_sl ([.ref m9])).length) Slot.unset).toArray = ls at hl ⊢
  have hl : lv_has ls 1 [(0, .ref m9)] := hl
  refine lv_aload_n hx hb dX1_clear_0 rfl (lv_at hl 0 rfl) ?_
  refine lv_iconst (v := 0) hx hb dX1_clear_1 (by decide) ?_
  refine va_put (D := (dC, dI)) (ci := 1) (v := .int 0) (ty := .int) (C := RX1) (T := TX1) (N := 18) hx hb hts hinX1 tyX1 tyX1_ok nmX1 hown hK hP hD hS 0 rfl rfl 0 (by decide) f28 (fun _ h9 => h9) rfl (by decide +kernel) (rfl) (rfl) (Nat.le_of_ble_eq_true rfl) dX1_clear_2 (fun H locs hP hD hS => ?_)
  have hP : va_P (dC, dI) vwCl (wM m9 b1 b2 b3 b4 b5 b6 cI S F D J X Y 0 n ar sl hd hu hw im tc fa up dn) H := hP
  have hD : va_D A (wM m9 b1 b2 b3 b4 b5 b6 cI S F D J X Y 0 n ar sl hd hu hw im tc fa up dn) := hD
  refine lv_aload_n hx hb dX1_clear_5 rfl (lv_at hl 0 rfl) ?_
  refine lv_iconst (v := 0) hx hb dX1_clear_6 (by decide) ?_
  refine va_put (D := (dC, dI)) (ci := 1) (v := .int 0) (ty := .int) (C := RX1) (T := TX1) (N := 18) hx hb hts hinX1 tyX1 tyX1_ok nmX1 hown hK hP hD hS 0 rfl rfl 1 (by decide) f44 (fun _ h9 => h9) rfl (by decide +kernel) (rfl) (rfl) (Nat.le_of_ble_eq_true rfl) dX1_clear_7 (fun H locs hP hD hS => ?_)
  have hP : va_P (dC, dI) vwCl (wM m9 b1 b2 b3 b4 b5 b6 cI S F D J X Y 0 0 ar sl hd hu hw im tc fa up dn) H := hP
  have hD : va_D A (wM m9 b1 b2 b3 b4 b5 b6 cI S F D J X Y 0 0 ar sl hd hu hw im tc fa up dn) := hD
  refine lv_aload_n hx hb dX1_clear_10 rfl (lv_at hl 0 rfl) ?_
  refine lv_iconst (v := 0) hx hb dX1_clear_11 (by decide) ?_
  refine va_put (D := (dC, dI)) (ci := 1) (v := .int 0) (ty := .int) (C := RX1) (T := TX1) (N := 18) hx hb hts hinX1 tyX1 tyX1_ok nmX1 hown hK hP hD hS 0 rfl rfl 4 (by decide) f51 (fun _ h9 => h9) rfl (by decide +kernel) (rfl) (rfl) (Nat.le_of_ble_eq_true rfl) dX1_clear_12 (fun H locs hP hD hS => ?_)
  have hP : va_P (dC, dI) vwCl (wM m9 b1 b2 b3 b4 b5 b6 cI S F D J X Y 0 0 0 sl hd hu hw im tc fa up dn) H := hP
  have hD : va_D A (wM m9 b1 b2 b3 b4 b5 b6 cI S F D J X Y 0 0 0 sl hd hu hw im tc fa up dn) := hD
  refine lv_aload_n hx hb dX1_clear_15 rfl (lv_at hl 0 rfl) ?_
  refine lv_iconst (v := 0) hx hb dX1_clear_16 (by decide) ?_
  refine va_put (D := (dC, dI)) (ci := 1) (v := .int 0) (ty := .int) (C := RX1) (T := TX1) (N := 18) hx hb hts hinX1 tyX1 tyX1_ok nmX1 hown hK hP hD hS 0 rfl rfl 5 (by decide) f54 (fun _ h9 => h9) rfl (by decide +kernel) (rfl) (rfl) (Nat.le_of_ble_eq_true rfl) dX1_clear_17 (fun H locs hP hD hS => ?_)
  have hP : va_P (dC, dI) vwCl (wM m9 b1 b2 b3 b4 b5 b6 cI S F D J X Y 0 0 0 0 hd hu hw im tc fa up dn) H := hP
  have hD : va_D A (wM m9 b1 b2 b3 b4 b5 b6 cI S F D J X Y 0 0 0 0 hd hu hw im tc fa up dn) := hD
  refine lv_aload_n hx hb dX1_clear_20 rfl (lv_at hl 0 rfl) ?_
  refine lv_iconst (v := 0) hx hb dX1_clear_21 (by decide) ?_
  refine va_put (D := (dC, dI)) (ci := 1) (v := .int 0) (ty := .boolean) (C := RX1) (T := TX1) (N := 18) hx hb hts hinX1 tyX1 tyX1_ok nmX1 hown hK hP hD hS 0 rfl rfl 6 (by decide) f61 (fun _ h9 => h9) rfl (by decide +kernel) (rfl) (rfl) (Nat.le_of_ble_eq_true rfl) dX1_clear_22 (fun H locs hP hD hS => ?_)
  have hP : va_P (dC, dI) vwCl (wM m9 b1 b2 b3 b4 b5 b6 cI S F D J X Y 0 0 0 0 0 hu hw im tc fa up dn) H := hP
  have hD : va_D A (wM m9 b1 b2 b3 b4 b5 b6 cI S F D J X Y 0 0 0 0 0 hu hw im tc fa up dn) := hD
  refine lv_aload_n hx hb dX1_clear_25 rfl (lv_at hl 0 rfl) ?_
  refine lv_iconst (v := 0) hx hb dX1_clear_26 (by decide) ?_
  refine va_put (D := (dC, dI)) (ci := 1) (v := .int 0) (ty := .boolean) (C := RX1) (T := TX1) (N := 18) hx hb hts hinX1 tyX1 tyX1_ok nmX1 hown hK hP hD hS 0 rfl rfl 15 (by decide) f100 (fun _ h9 => h9) rfl (by decide +kernel) (rfl) (rfl) (Nat.le_of_ble_eq_true rfl) dX1_clear_27 (fun H locs hP hD hS => ?_)
  have hP : va_P (dC, dI) vwCl (wM m9 b1 b2 b3 b4 b5 b6 cI S F D J X Y 0 0 0 0 0 hu hw im tc 0 up dn) H := hP
  have hD : va_D A (wM m9 b1 b2 b3 b4 b5 b6 cI S F D J X Y 0 0 0 0 0 hu hw im tc 0 up dn) := hD
  exact W.vret hx hb hr (fun t ht hW => ⟨⟨(), rfl, trivial, ⟨by rw [ht]; exact hP, va_K.moved hW.alike hK, hD⟩⟩, hS.F ht⟩) hS.2.2 dX1_clear_30
