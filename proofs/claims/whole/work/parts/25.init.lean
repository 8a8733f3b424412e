set_option maxHeartbeats 4000000 in
set_option maxRecDepth 100000 in
theorem c_X0_init (l : Launch) (dC : Nat → ClassId) (dI : Nat → Nat → Nat) (sz : Nat) (x : Nat) : Met l yX0_init wsX0_init ({ frames := 1, cells := 4, slots := 96, locals := 12 }) (va_Pc [.ref x] (fun U => U.heap.size = sz ∧ va_P (dC, dI) vwCl [(x, .inr (0, [.null, .null, .int 0, .int 0, .int 0, .long 0, .long 0, .int 0, .int 0, .long 0, .long 0, .long 0, .long 0, .null, .null, .int 0]))] U.heap ∧ va_K (dC, dI) vwCl [] U ∧ va_D (fun _ => True) [(x, .inr (0, [.null, .null, .int 0, .int 0, .int 0, .long 0, .long 0, .int 0, .int 0, .long 0, .long 0, .long 0, .long 0, .null, .null, .int 0]))])) (va_Qv (fun _ => True) (fun (u : (Nat × Nat × Nat × Nat) × ClassId) t => at_w dC dI u.2 (va_A [(x, .inr (0, [.null, .null, .int 0, .int 0, .int 0, .long 0, .long 0, .int 0, .int 0, .long 0, .long 0, .long 0, .long 0, .null, .null, .int 0]))] sz) (wX x u.1.1 u.1.2.1 u.1.2.2.1 u.1.2.2.2 u.2 (fun _ => 0) (fun _ => 0) (fun _ => 0) (fun _ => 0) 0 0 0 0 0 0 0 0 0 0 0 0) t) (va_A [(x, .inr (0, [.null, .null, .int 0, .int 0, .int 0, .long 0, .long 0, .int 0, .int 0, .long 0, .long 0, .long 0, .long 0, .null, .null, .int 0]))] sz)) 4 96 (va_A [(x, .inr (0, [.null, .null, .int 0, .int 0, .int 0, .long 0, .long 0, .int 0, .int 0, .long 0, .long 0, .long 0, .long 0, .null, .null, .int 0]))] sz) := by
  refine Met.ofW (cc := cX0_init) (maxL := 1) (ret := none) (by decide) rfl ?_
  intro p e s m args below meth c s₁ B hml hv
  obtain ⟨rfl, hsz, hP, hK, hD0⟩ := hv
  have hx := B.exec
  have hb := B.bytes
  have hr := B.returns
  have hts := atoms_spec (ws := wsX0_init) B.pre
  have hown : s.vm.findClass RX0 = some m.cls := findClass_of_methodNamed B.named
  have hlocks := B.notSynchronized
  have hin0 : meth.name = "<init>" := (name_of_methodNamed B.named B.method).1
  have hinX0 : ∀ w ∈ wsX00, w ∈ wsX0_init := fun w h => List.mem_cons_of_mem _ (inX0 w h)
  have f9 := hts _ (List.mem_cons_of_mem _ wl_X0_9)
  have f13 := hts _ (List.mem_cons_of_mem _ wl_X0_13)
  have f16 := hts _ (List.mem_cons_of_mem _ wl_X0_16)
  have f19 := hts _ (List.mem_cons_of_mem _ wl_X0_19)
  subst hsz
  have hD := hD0.self (sz := s.heap.size)
  generalize hAe : va_A [(x, .inr (0, [.null, .null, .int 0, .int 0, .int 0, .long 0, .long 0, .int 0, .int 0, .long 0, .long 0, .long 0, .long 0, .null, .null, .int 0]))] s.heap.size = A at hD ⊢
  have hA : ∀ q : Nat, s.heap.size ≤ q → A q := fun q h => by rw [← hAe]; exact Or.inr h
  have hS : va_S A s.heap s.heap [] := va_S.rf
  have hl := lv_entry ([.ref x]) (n := 1) (Nat.le_of_ble_eq_true rfl)
  rw [lg_entry_eq]
  generalize (lg_sl ([.ref x]) ++ List.replicate (1 - (lg_sl ([.ref x])).length) Slot.unset).toArray = ls at hl ⊢
  have hl : lv_has ls 1 [(0, .ref x)] := hl
  refine lv_aload_n hx hb dX0_init_0 rfl (lv_at hl 0 rfl) ?_
  refine W.objInit hx hb hown (hts _ (List.mem_cons_of_mem _ wl_X0_1)) (hts _ (List.mem_cons_of_mem _ w_oi)) (hts _ (List.mem_cons_of_mem _ w_oc)) rfl (by rw [hml]; exact hl.1) rfl dX0_init_1 (Nat.le_of_ble_eq_true rfl) (Nat.le_of_ble_eq_true rfl) ?_
  refine W.eq (g2 := F0 m 4 ls []) rfl ?_
  refine lv_aload_n hx hb dX0_init_4 rfl (lv_at hl 0 rfl) ?_
  refine lv_bipush (v := 40) hx hb dX0_init_5 (by decide) ?_
  refine va_newa (D := (dC, dI)) (atype := .int) (a0 := (40, .inl (fun _ => 0))) (ty := .int) (N' := 40) hx hb (hts _ (List.mem_cons_of_mem _ w_aI)) rfl hK hP hD hS hA (fun cA => rfl) (by decide) (by decide) (by decide) (Nat.le_of_ble_eq_true rfl) (Nat.le_of_ble_eq_true rfl) dX0_init_7 (fun q0 k0 H hK hP hD hS => ?_)
  refine W.widen (k := 1) (n := 40) (Nat.le_of_ble_eq_true rfl) (Nat.le_of_ble_eq_true rfl) ?_
  have hK := hK.sub (tys' := [(k0, .int)]) [0] rfl
  have hP : va_P (dC, dI) vwCl [(x, .inr (0, [.null, .null, .int 0, .int 0, .int 0, .long 0, .long 0, .int 0, .int 0, .long 0, .long 0, .long 0, .long 0, .null, .null, .int 0])), (q0, .inl (k0, (40, .inl (fun _ => 0))))] H := hP
  have hD : va_D A [(x, .inr (0, [.null, .null, .int 0, .int 0, .int 0, .long 0, .long 0, .int 0, .int 0, .long 0, .long 0, .long 0, .long 0, .null, .null, .int 0])), (q0, .inl (k0, (40, .inl (fun _ => 0))))] := hD
  refine va_putF (D := (dC, dI)) (ci := 0) (v := .ref q0) (ty := .array .int) (C := RX0) (T := TX0) (N := 16) hx hb hts hinX0 tyX0 tyX0_ok nmX0 hown hK hP hD hS 0 rfl rfl 0 (by decide) f9 (fun _ h9 => h9) rfl hin0 rfl (by decide +kernel) rfl rfl (Nat.le_of_ble_eq_true rfl) dX0_init_9 (fun H locs hP hD hS => ?_)
  have hP : va_P (dC, dI) vwCl [(x, .inr (0, [.ref q0, .null, .int 0, .int 0, .int 0, .long 0, .long 0, .int 0, .int 0, .long 0, .long 0, .long 0, .long 0, .null, .null, .int 0])), (q0, .inl (k0, (40, .inl (fun _ => 0))))] H := hP
  have hD : va_D A [(x, .inr (0, [.ref q0, .null, .int 0, .int 0, .int 0, .long 0, .long 0, .int 0, .int 0, .long 0, .long 0, .long 0, .long 0, .null, .null, .int 0])), (q0, .inl (k0, (40, .inl (fun _ => 0))))] := hD
  refine lv_aload_n hx hb dX0_init_12 rfl (lv_at hl 0 rfl) ?_
  refine lv_bipush (v := 40) hx hb dX0_init_13 (by decide) ?_
  refine va_newa (D := (dC, dI)) (atype := .int) (a0 := (40, .inl (fun _ => 0))) (ty := .int) (N' := 40) hx hb (hts _ (List.mem_cons_of_mem _ w_aI)) rfl hK hP hD hS hA (fun cA => rfl) (by decide) (by decide) (by decide) (Nat.le_of_ble_eq_true rfl) (Nat.le_of_ble_eq_true rfl) dX0_init_15 (fun q1 k1 H hK hP hD hS => ?_)
  refine W.widen (k := 2) (n := 80) (Nat.le_of_ble_eq_true rfl) (Nat.le_of_ble_eq_true rfl) ?_
  obtain rfl : k0 = k1 := Option.some.inj ((hK.2 0 _ rfl).2.symm.trans (hK.2 1 _ rfl).2)
  have hK := hK.sub (tys' := [(k0, .int)]) [0] rfl
  have hP : va_P (dC, dI) vwCl [(x, .inr (0, [.ref q0, .null, .int 0, .int 0, .int 0, .long 0, .long 0, .int 0, .int 0, .long 0, .long 0, .long 0, .long 0, .null, .null, .int 0])), (q0, .inl (k0, (40, .inl (fun _ => 0)))), (q1, .inl (k0, (40, .inl (fun _ => 0))))] H := hP
  have hD : va_D A [(x, .inr (0, [.ref q0, .null, .int 0, .int 0, .int 0, .long 0, .long 0, .int 0, .int 0, .long 0, .long 0, .long 0, .long 0, .null, .null, .int 0])), (q0, .inl (k0, (40, .inl (fun _ => 0)))), (q1, .inl (k0, (40, .inl (fun _ => 0))))] := hD
  refine va_putF (D := (dC, dI)) (ci := 0) (v := .ref q1) (ty := .array .int) (C := RX0) (T := TX0) (N := 16) hx hb hts hinX0 tyX0 tyX0_ok nmX0 hown hK hP hD hS 0 rfl rfl 1 (by decide) f13 (fun _ h9 => h9) rfl hin0 rfl (by decide +kernel) rfl rfl (Nat.le_of_ble_eq_true rfl) dX0_init_17 (fun H locs hP hD hS => ?_)
  have hP : va_P (dC, dI) vwCl [(x, .inr (0, [.ref q0, .ref q1, .int 0, .int 0, .int 0, .long 0, .long 0, .int 0, .int 0, .long 0, .long 0, .long 0, .long 0, .null, .null, .int 0])), (q0, .inl (k0, (40, .inl (fun _ => 0)))), (q1, .inl (k0, (40, .inl (fun _ => 0))))] H := hP
  have hD : va_D A [(x, .inr (0, [.ref q0, .ref q1, .int 0, .int 0, .int 0, .long 0, .long 0, .int 0, .int 0, .long 0, .long 0, .long 0, .long 0, .null, .null, .int 0])), (q0, .inl (k0, (40, .inl (fun _ => 0)))), (q1, .inl (k0, (40, .inl (fun _ => 0))))] := hD
  refine lv_aload_n hx hb dX0_init_20 rfl (lv_at hl 0 rfl) ?_
  refine lv_bipush (v := 8) hx hb dX0_init_21 (by decide) ?_
  refine va_newa (D := (dC, dI)) (atype := .int) (a0 := (8, .inl (fun _ => 0))) (ty := .int) (N' := 8) hx hb (hts _ (List.mem_cons_of_mem _ w_aI)) rfl hK hP hD hS hA (fun cA => rfl) (by decide) (by decide) (by decide) (Nat.le_of_ble_eq_true rfl) (Nat.le_of_ble_eq_true rfl) dX0_init_23 (fun q2 k2 H hK hP hD hS => ?_)
  refine W.widen (k := 3) (n := 88) (Nat.le_of_ble_eq_true rfl) (Nat.le_of_ble_eq_true rfl) ?_
  obtain rfl : k0 = k2 := Option.some.inj ((hK.2 0 _ rfl).2.symm.trans (hK.2 1 _ rfl).2)
  have hK := hK.sub (tys' := [(k0, .int)]) [0] rfl
  have hP : va_P (dC, dI) vwCl [(x, .inr (0, [.ref q0, .ref q1, .int 0, .int 0, .int 0, .long 0, .long 0, .int 0, .int 0, .long 0, .long 0, .long 0, .long 0, .null, .null, .int 0])), (q0, .inl (k0, (40, .inl (fun _ => 0)))), (q1, .inl (k0, (40, .inl (fun _ => 0)))), (q2, .inl (k0, (8, .inl (fun _ => 0))))] H := hP
  have hD : va_D A [(x, .inr (0, [.ref q0, .ref q1, .int 0, .int 0, .int 0, .long 0, .long 0, .int 0, .int 0, .long 0, .long 0, .long 0, .long 0, .null, .null, .int 0])), (q0, .inl (k0, (40, .inl (fun _ => 0)))), (q1, .inl (k0, (40, .inl (fun _ => 0)))), (q2, .inl (k0, (8, .inl (fun _ => 0))))] := hD
  refine va_putF (D := (dC, dI)) (ci := 0) (v := .ref q2) (ty := .array .int) (C := RX0) (T := TX0) (N := 16) hx hb hts hinX0 tyX0 tyX0_ok nmX0 hown hK hP hD hS 0 rfl rfl 13 (by decide) f16 (fun _ h9 => h9) rfl hin0 rfl (by decide +kernel) rfl rfl (Nat.le_of_ble_eq_true rfl) dX0_init_25 (fun H locs hP hD hS => ?_)
  have hP : va_P (dC, dI) vwCl [(x, .inr (0, [.ref q0, .ref q1, .int 0, .int 0, .int 0, .long 0, .long 0, .int 0, .int 0, .long 0, .long 0, .long 0, .long 0, .ref q2, .null, .int 0])), (q0, .inl (k0, (40, .inl (fun _ => 0)))), (q1, .inl (k0, (40, .inl (fun _ => 0)))), (q2, .inl (k0, (8, .inl (fun _ => 0))))] H := hP
  have hD : va_D A [(x, .inr (0, [.ref q0, .ref q1, .int 0, .int 0, .int 0, .long 0, .long 0, .int 0, .int 0, .long 0, .long 0, .long 0, .long 0, .ref q2, .null, .int 0])), (q0, .inl (k0, (40, .inl (fun _ => 0)))), (q1, .inl (k0, (40, .inl (fun _ => 0)))), (q2, .inl (k0, (8, .inl (fun _ => 0))))] := hD
  refine lv_aload_n hx hb dX0_init_28 rfl (lv_at hl 0 rfl) ?_
  refine lv_bipush (v := 8) hx hb dX0_init_29 (by decide) ?_
  refine va_newa (D := (dC, dI)) (atype := .int) (a0 := (8, .inl (fun _ => 0))) (ty := .int) (N' := 8) hx hb (hts _ (List.mem_cons_of_mem _ w_aI)) rfl hK hP hD hS hA (fun cA => rfl) (by decide) (by decide) (by decide) (Nat.le_of_ble_eq_true rfl) (Nat.le_of_ble_eq_true rfl) dX0_init_31 (fun q3 k3 H hK hP hD hS => ?_)
  refine W.widen (k := 4) (n := 96) (Nat.le_of_ble_eq_true rfl) (Nat.le_of_ble_eq_true rfl) ?_
  obtain rfl : k0 = k3 := Option.some.inj ((hK.2 0 _ rfl).2.symm.trans (hK.2 1 _ rfl).2)
  have hK := hK.sub (tys' := [(k0, .int)]) [0] rfl
  have hP : va_P (dC, dI) vwCl [(x, .inr (0, [.ref q0, .ref q1, .int 0, .int 0, .int 0, .long 0, .long 0, .int 0, .int 0, .long 0, .long 0, .long 0, .long 0, .ref q2, .null, .int 0])), (q0, .inl (k0, (40, .inl (fun _ => 0)))), (q1, .inl (k0, (40, .inl (fun _ => 0)))), (q2, .inl (k0, (8, .inl (fun _ => 0)))), (q3, .inl (k0, (8, .inl (fun _ => 0))))] H := hP
  have hD : va_D A [(x, .inr (0, [.ref q0, .ref q1, .int 0, .int 0, .int 0, .long 0, .long 0, .int 0, .int 0, .long 0, .long 0, .long 0, .long 0, .ref q2, .null, .int 0])), (q0, .inl (k0, (40, .inl (fun _ => 0)))), (q1, .inl (k0, (40, .inl (fun _ => 0)))), (q2, .inl (k0, (8, .inl (fun _ => 0)))), (q3, .inl (k0, (8, .inl (fun _ => 0))))] := hD
  refine va_putF (D := (dC, dI)) (ci := 0) (v := .ref q3) (ty := .array .int) (C := RX0) (T := TX0) (N := 16) hx hb hts hinX0 tyX0 tyX0_ok nmX0 hown hK hP hD hS 0 rfl rfl 14 (by decide) f19 (fun _ h9 => h9) rfl hin0 rfl (by decide +kernel) rfl rfl (Nat.le_of_ble_eq_true rfl) dX0_init_33 (fun H locs hP hD hS => ?_)
  have hP : va_P (dC, dI) vwCl [(x, .inr (0, [.ref q0, .ref q1, .int 0, .int 0, .int 0, .long 0, .long 0, .int 0, .int 0, .long 0, .long 0, .long 0, .long 0, .ref q2, .ref q3, .int 0])), (q0, .inl (k0, (40, .inl (fun _ => 0)))), (q1, .inl (k0, (40, .inl (fun _ => 0)))), (q2, .inl (k0, (8, .inl (fun _ => 0)))), (q3, .inl (k0, (8, .inl (fun _ => 0))))] H := hP
  have hD : va_D A [(x, .inr (0, [.ref q0, .ref q1, .int 0, .int 0, .int 0, .long 0, .long 0, .int 0, .int 0, .long 0, .long 0, .long 0, .long 0, .ref q2, .ref q3, .int 0])), (q0, .inl (k0, (40, .inl (fun _ => 0)))), (q1, .inl (k0, (40, .inl (fun _ => 0)))), (q2, .inl (k0, (8, .inl (fun _ => 0)))), (q3, .inl (k0, (8, .inl (fun _ => 0))))] := hD
  exact W.vret hx hb hr (fun t ht hW => ⟨⟨((q0, q1, q2, q3), k0), rfl, trivial, by rw [ht]; exact hP, va_K.moved hW.alike hK, hD⟩, hS.F ht⟩) hS.2.2 dX0_init_36
set_option maxHeartbeats 4000000 in
set_option maxRecDepth 100000 in
theorem c_X1_init (l : Launch) (dC : Nat → ClassId) (dI : Nat → Nat → Nat) (sz : Nat) (m9 : Nat) : Met l yX1_init wsX1_init ({ frames := 1, cells := 6, slots := 112, locals := 12 }) (va_Pc [.ref m9] (fun U => U.heap.size = sz ∧ va_P (dC, dI) vwCl [(m9, .inr (1, [.int 0, .int 0, .null, .null, .int 0, .int 0, .int 0, .long 0, .long 0, .int 0, .null, .null, .int 0, .null, .null, .int 0, .long 0, .long 0]))] U.heap ∧ va_K (dC, dI) vwCl [] U ∧ va_D (fun _ => True) [(m9, .inr (1, [.int 0, .int 0, .null, .null, .int 0, .int 0, .int 0, .long 0, .long 0, .int 0, .null, .null, .int 0, .null, .null, .int 0, .long 0, .long 0]))])) (va_Qv (fun _ => True) (fun (u : (Nat × Nat × Nat × Nat × Nat × Nat) × ClassId) t => at_w dC dI u.2 (va_A [(m9, .inr (1, [.int 0, .int 0, .null, .null, .int 0, .int 0, .int 0, .long 0, .long 0, .int 0, .null, .null, .int 0, .null, .null, .int 0, .long 0, .long 0]))] sz) (wM m9 u.1.1 u.1.2.1 u.1.2.2.1 u.1.2.2.2.1 u.1.2.2.2.2.1 u.1.2.2.2.2.2 u.2 (fun _ => 0) (fun _ => 0) (fun _ => 0) (fun _ => 0) (fun _ => 0) (fun _ => 0) 0 0 0 0 0 0 0 0 0 0 0 0) t) (va_A [(m9, .inr (1, [.int 0, .int 0, .null, .null, .int 0, .int 0, .int 0, .long 0, .long 0, .int 0, .null, .null, .int 0, .null, .null, .int 0, .long 0, .long 0]))] sz)) 6 112 (va_A [(m9, .inr (1, [.int 0, .int 0, .null, .null, .int 0, .int 0, .int 0, .long 0, .long 0, .int 0, .null, .null, .int 0, .null, .null, .int 0, .long 0, .long 0]))] sz) := by
  refine Met.ofW (cc := cX1_init) (maxL := 1) (ret := none) (by decide) rfl ?_
  intro p e s m args below meth c s₁ B hml hv
  obtain ⟨rfl, hsz, hP, hK, hD0⟩ := hv
  have hx := B.exec
  have hb := B.bytes
  have hr := B.returns
  have hts := atoms_spec (ws := wsX1_init) B.pre
  have hown : s.vm.findClass RX1 = some m.cls := findClass_of_methodNamed B.named
  have hlocks := B.notSynchronized
  have hin0 : meth.name = "<init>" := (name_of_methodNamed B.named B.method).1
  have hinX1 : ∀ w ∈ wsX10, w ∈ wsX1_init := fun w h => List.mem_cons_of_mem _ (inX1 w h)
  have f7 := hts _ (List.mem_cons_of_mem _ wl_X1_7)
  have f13 := hts _ (List.mem_cons_of_mem _ wl_X1_13)
  have f16 := hts _ (List.mem_cons_of_mem _ wl_X1_16)
  have f19 := hts _ (List.mem_cons_of_mem _ wl_X1_19)
  have f22 := hts _ (List.mem_cons_of_mem _ wl_X1_22)
  have f25 := hts _ (List.mem_cons_of_mem _ wl_X1_25)
  subst hsz
  have hD := hD0.self (sz := s.heap.size)
  generalize hAe : va_A [(m9, .inr (1, [.int 0, .int 0, .null, .null, .int 0, .int 0, .int 0, .long 0, .long 0, .int 0, .null, .null, .int 0, .null, .null, .int 0, .long 0, .long 0]))] s.heap.size = A at hD ⊢
  have hA : ∀ q : Nat, s.heap.size ≤ q → A q := fun q h => by rw [← hAe]; exact Or.inr h
  have hS : va_S A s.heap s.heap [] := va_S.rf
  have hl := lv_entry ([.ref m9]) (n := 1) (Nat.le_of_ble_eq_true rfl)
  rw [lg_entry_eq]
  generalize (lg_sl ([.ref m9]) ++ List.replicate (1 - (lg_sl ([.ref m9])).length) Slot.unset).toArray = ls at hl ⊢
  have hl : lv_has ls 1 [(0, .ref m9)] := hl
  refine lv_aload_n hx hb dX1_init_0 rfl (lv_at hl 0 rfl) ?_
  refine W.objInit hx hb hown (hts _ (List.mem_cons_of_mem _ wl_X1_1)) (hts _ (List.mem_cons_of_mem _ w_oi)) (hts _ (List.mem_cons_of_mem _ w_oc)) rfl (by rw [hml]; exact hl.1) rfl dX1_init_1 (Nat.le_of_ble_eq_true rfl) (Nat.le_of_ble_eq_true rfl) ?_
  refine W.eq (g2 := F0 m 4 ls []) rfl ?_
  refine lv_aload_n hx hb dX1_init_4 rfl (lv_at hl 0 rfl) ?_
  refine lv_bipush (v := 40) hx hb dX1_init_5 (by decide) ?_
  refine va_newa (D := (dC, dI)) (atype := .int) (a0 := (40, .inl (fun _ => 0))) (ty := .int) (N' := 40) hx hb (hts _ (List.mem_cons_of_mem _ w_aI)) rfl hK hP hD hS hA (fun cA => rfl) (by decide) (by decide) (by decide) (Nat.le_of_ble_eq_true rfl) (Nat.le_of_ble_eq_true rfl) dX1_init_7 (fun q0 k0 H hK hP hD hS => ?_)
  refine W.widen (k := 1) (n := 40) (Nat.le_of_ble_eq_true rfl) (Nat.le_of_ble_eq_true rfl) ?_
  have hK := hK.sub (tys' := [(k0, .int)]) [0] rfl
  have hP : va_P (dC, dI) vwCl [(m9, .inr (1, [.int 0, .int 0, .null, .null, .int 0, .int 0, .int 0, .long 0, .long 0, .int 0, .null, .null, .int 0, .null, .null, .int 0, .long 0, .long 0])), (q0, .inl (k0, (40, .inl (fun _ => 0))))] H := hP
  have hD : va_D A [(m9, .inr (1, [.int 0, .int 0, .null, .null, .int 0, .int 0, .int 0, .long 0, .long 0, .int 0, .null, .null, .int 0, .null, .null, .int 0, .long 0, .long 0])), (q0, .inl (k0, (40, .inl (fun _ => 0))))] := hD
  refine va_putF (D := (dC, dI)) (ci := 1) (v := .ref q0) (ty := .array .int) (C := RX1) (T := TX1) (N := 18) hx hb hts hinX1 tyX1 tyX1_ok nmX1 hown hK hP hD hS 0 rfl rfl 2 (by decide) f7 (fun _ h9 => h9) rfl hin0 rfl (by decide +kernel) rfl rfl (Nat.le_of_ble_eq_true rfl) dX1_init_9 (fun H locs hP hD hS => ?_)
  have hP : va_P (dC, dI) vwCl [(m9, .inr (1, [.int 0, .int 0, .ref q0, .null, .int 0, .int 0, .int 0, .long 0, .long 0, .int 0, .null, .null, .int 0, .null, .null, .int 0, .long 0, .long 0])), (q0, .inl (k0, (40, .inl (fun _ => 0))))] H := hP
  have hD : va_D A [(m9, .inr (1, [.int 0, .int 0, .ref q0, .null, .int 0, .int 0, .int 0, .long 0, .long 0, .int 0, .null, .null, .int 0, .null, .null, .int 0, .long 0, .long 0])), (q0, .inl (k0, (40, .inl (fun _ => 0))))] := hD
  refine lv_aload_n hx hb dX1_init_12 rfl (lv_at hl 0 rfl) ?_
  refine lv_bipush (v := 40) hx hb dX1_init_13 (by decide) ?_
  refine va_newa (D := (dC, dI)) (atype := .int) (a0 := (40, .inl (fun _ => 0))) (ty := .int) (N' := 40) hx hb (hts _ (List.mem_cons_of_mem _ w_aI)) rfl hK hP hD hS hA (fun cA => rfl) (by decide) (by decide) (by decide) (Nat.le_of_ble_eq_true rfl) (Nat.le_of_ble_eq_true rfl) dX1_init_15 (fun q1 k1 H hK hP hD hS => ?_)
  refine W.widen (k := 2) (n := 80) (Nat.le_of_ble_eq_true rfl) (Nat.le_of_ble_eq_true rfl) ?_
  obtain rfl : k0 = k1 := Option.some.inj ((hK.2 0 _ rfl).2.symm.trans (hK.2 1 _ rfl).2)
  have hK := hK.sub (tys' := [(k0, .int)]) [0] rfl
  have hP : va_P (dC, dI) vwCl [(m9, .inr (1, [.int 0, .int 0, .ref q0, .null, .int 0, .int 0, .int 0, .long 0, .long 0, .int 0, .null, .null, .int 0, .null, .null, .int 0, .long 0, .long 0])), (q0, .inl (k0, (40, .inl (fun _ => 0)))), (q1, .inl (k0, (40, .inl (fun _ => 0))))] H := hP
  have hD : va_D A [(m9, .inr (1, [.int 0, .int 0, .ref q0, .null, .int 0, .int 0, .int 0, .long 0, .long 0, .int 0, .null, .null, .int 0, .null, .null, .int 0, .long 0, .long 0])), (q0, .inl (k0, (40, .inl (fun _ => 0)))), (q1, .inl (k0, (40, .inl (fun _ => 0))))] := hD
  refine va_putF (D := (dC, dI)) (ci := 1) (v := .ref q1) (ty := .array .int) (C := RX1) (T := TX1) (N := 18) hx hb hts hinX1 tyX1 tyX1_ok nmX1 hown hK hP hD hS 0 rfl rfl 3 (by decide) f13 (fun _ h9 => h9) rfl hin0 rfl (by decide +kernel) rfl rfl (Nat.le_of_ble_eq_true rfl) dX1_init_17 (fun H locs hP hD hS => ?_)
  have hP : va_P (dC, dI) vwCl [(m9, .inr (1, [.int 0, .int 0, .ref q0, .ref q1, .int 0, .int 0, .int 0, .long 0, .long 0, .int 0, .null, .null, .int 0, .null, .null, .int 0, .long 0, .long 0])), (q0, .inl (k0, (40, .inl (fun _ => 0)))), (q1, .inl (k0, (40, .inl (fun _ => 0))))] H := hP
  have hD : va_D A [(m9, .inr (1, [.int 0, .int 0, .ref q0, .ref q1, .int 0, .int 0, .int 0, .long 0, .long 0, .int 0, .null, .null, .int 0, .null, .null, .int 0, .long 0, .long 0])), (q0, .inl (k0, (40, .inl (fun _ => 0)))), (q1, .inl (k0, (40, .inl (fun _ => 0))))] := hD
  refine lv_aload_n hx hb dX1_init_20 rfl (lv_at hl 0 rfl) ?_
  refine lv_bipush (v := 8) hx hb dX1_init_21 (by decide) ?_
  refine va_newa (D := (dC, dI)) (atype := .int) (a0 := (8, .inl (fun _ => 0))) (ty := .int) (N' := 8) hx hb (hts _ (List.mem_cons_of_mem _ w_aI)) rfl hK hP hD hS hA (fun cA => rfl) (by decide) (by decide) (by decide) (Nat.le_of_ble_eq_true rfl) (Nat.le_of_ble_eq_true rfl) dX1_init_23 (fun q2 k2 H hK hP hD hS => ?_)
  refine W.widen (k := 3) (n := 88) (Nat.le_of_ble_eq_true rfl) (Nat.le_of_ble_eq_true rfl) ?_
  obtain rfl : k0 = k2 := Option.some.inj ((hK.2 0 _ rfl).2.symm.trans (hK.2 1 _ rfl).2)
  have hK := hK.sub (tys' := [(k0, .int)]) [0] rfl
  have hP : va_P (dC, dI) vwCl [(m9, .inr (1, [.int 0, .int 0, .ref q0, .ref q1, .int 0, .int 0, .int 0, .long 0, .long 0, .int 0, .null, .null, .int 0, .null, .null, .int 0, .long 0, .long 0])), (q0, .inl (k0, (40, .inl (fun _ => 0)))), (q1, .inl (k0, (40, .inl (fun _ => 0)))), (q2, .inl (k0, (8, .inl (fun _ => 0))))] H := hP
  have hD : va_D A [(m9, .inr (1, [.int 0, .int 0, .ref q0, .ref q1, .int 0, .int 0, .int 0, .long 0, .long 0, .int 0, .null, .null, .int 0, .null, .null, .int 0, .long 0, .long 0])), (q0, .inl (k0, (40, .inl (fun _ => 0)))), (q1, .inl (k0, (40, .inl (fun _ => 0)))), (q2, .inl (k0, (8, .inl (fun _ => 0))))] := hD
  refine va_putF (D := (dC, dI)) (ci := 1) (v := .ref q2) (ty := .array .int) (C := RX1) (T := TX1) (N := 18) hx hb hts hinX1 tyX1 tyX1_ok nmX1 hown hK hP hD hS 0 rfl rfl 10 (by decide) f16 (fun _ h9 => h9) rfl hin0 rfl (by decide +kernel) rfl rfl (Nat.le_of_ble_eq_true rfl) dX1_init_25 (fun H locs hP hD hS => ?_)
  have hP : va_P (dC, dI) vwCl [(m9, .inr (1, [.int 0, .int 0, .ref q0, .ref q1, .int 0, .int 0, .int 0, .long 0, .long 0, .int 0, .ref q2, .null, .int 0, .null, .null, .int 0, .long 0, .long 0])), (q0, .inl (k0, (40, .inl (fun _ => 0)))), (q1, .inl (k0, (40, .inl (fun _ => 0)))), (q2, .inl (k0, (8, .inl (fun _ => 0))))] H := hP
  have hD : va_D A [(m9, .inr (1, [.int 0, .int 0, .ref q0, .ref q1, .int 0, .int 0, .int 0, .long 0, .long 0, .int 0, .ref q2, .null, .int 0, .null, .null, .int 0, .long 0, .long 0])), (q0, .inl (k0, (40, .inl (fun _ => 0)))), (q1, .inl (k0, (40, .inl (fun _ => 0)))), (q2, .inl (k0, (8, .inl (fun _ => 0))))] := hD
  refine lv_aload_n hx hb dX1_init_28 rfl (lv_at hl 0 rfl) ?_
  refine lv_bipush (v := 8) hx hb dX1_init_29 (by decide) ?_
  refine va_newa (D := (dC, dI)) (atype := .int) (a0 := (8, .inl (fun _ => 0))) (ty := .int) (N' := 8) hx hb (hts _ (List.mem_cons_of_mem _ w_aI)) rfl hK hP hD hS hA (fun cA => rfl) (by decide) (by decide) (by decide) (Nat.le_of_ble_eq_true rfl) (Nat.le_of_ble_eq_true rfl) dX1_init_31 (fun q3 k3 H hK hP hD hS => ?_)
  refine W.widen (k := 4) (n := 96) (Nat.le_of_ble_eq_true rfl) (Nat.le_of_ble_eq_true rfl) ?_
  obtain rfl : k0 = k3 := Option.some.inj ((hK.2 0 _ rfl).2.symm.trans (hK.2 1 _ rfl).2)
  have hK := hK.sub (tys' := [(k0, .int)]) [0] rfl
  have hP : va_P (dC, dI) vwCl [(m9, .inr (1, [.int 0, .int 0, .ref q0, .ref q1, .int 0, .int 0, .int 0, .long 0, .long 0, .int 0, .ref q2, .null, .int 0, .null, .null, .int 0, .long 0, .long 0])), (q0, .inl (k0, (40, .inl (fun _ => 0)))), (q1, .inl (k0, (40, .inl (fun _ => 0)))), (q2, .inl (k0, (8, .inl (fun _ => 0)))), (q3, .inl (k0, (8, .inl (fun _ => 0))))] H := hP
  have hD : va_D A [(m9, .inr (1, [.int 0, .int 0, .ref q0, .ref q1, .int 0, .int 0, .int 0, .long 0, .long 0, .int 0, .ref q2, .null, .int 0, .null, .null, .int 0, .long 0, .long 0])), (q0, .inl (k0, (40, .inl (fun _ => 0)))), (q1, .inl (k0, (40, .inl (fun _ => 0)))), (q2, .inl (k0, (8, .inl (fun _ => 0)))), (q3, .inl (k0, (8, .inl (fun _ => 0))))] := hD
  refine va_putF (D := (dC, dI)) (ci := 1) (v := .ref q3) (ty := .array .int) (C := RX1) (T := TX1) (N := 18) hx hb hts hinX1 tyX1 tyX1_ok nmX1 hown hK hP hD hS 0 rfl rfl 11 (by decide) f19 (fun _ h9 => h9) rfl hin0 rfl (by decide +kernel) rfl rfl (Nat.le_of_ble_eq_true rfl) dX1_init_33 (fun H locs hP hD hS => ?_)
  have hP : va_P (dC, dI) vwCl [(m9, .inr (1, [.int 0, .int 0, .ref q0, .ref q1, .int 0, .int 0, .int 0, .long 0, .long 0, .int 0, .ref q2, .ref q3, .int 0, .null, .null, .int 0, .long 0, .long 0])), (q0, .inl (k0, (40, .inl (fun _ => 0)))), (q1, .inl (k0, (40, .inl (fun _ => 0)))), (q2, .inl (k0, (8, .inl (fun _ => 0)))), (q3, .inl (k0, (8, .inl (fun _ => 0))))] H := hP
  have hD : va_D A [(m9, .inr (1, [.int 0, .int 0, .ref q0, .ref q1, .int 0, .int 0, .int 0, .long 0, .long 0, .int 0, .ref q2, .ref q3, .int 0, .null, .null, .int 0, .long 0, .long 0])), (q0, .inl (k0, (40, .inl (fun _ => 0)))), (q1, .inl (k0, (40, .inl (fun _ => 0)))), (q2, .inl (k0, (8, .inl (fun _ => 0)))), (q3, .inl (k0, (8, .inl (fun _ => 0))))] := hD
  refine lv_aload_n hx hb dX1_init_36 rfl (lv_at hl 0 rfl) ?_
  refine lv_bipush (v := 8) hx hb dX1_init_37 (by decide) ?_
  refine va_newa (D := (dC, dI)) (atype := .int) (a0 := (8, .inl (fun _ => 0))) (ty := .int) (N' := 8) hx hb (hts _ (List.mem_cons_of_mem _ w_aI)) rfl hK hP hD hS hA (fun cA => rfl) (by decide) (by decide) (by decide) (Nat.le_of_ble_eq_true rfl) (Nat.le_of_ble_eq_true rfl) dX1_init_39 (fun q4 k4 H hK hP hD hS => ?_)
  refine W.widen (k := 5) (n := 104) (Nat.le_of_ble_eq_true rfl) (Nat.le_of_ble_eq_true rfl) ?_
  obtain rfl : k0 = k4 := Option.some.inj ((hK.2 0 _ rfl).2.symm.trans (hK.2 1 _ rfl).2)
  have hK := hK.sub (tys' := [(k0, .int)]) [0] rfl
  have hP : va_P (dC, dI) vwCl [(m9, .inr (1, [.int 0, .int 0, .ref q0, .ref q1, .int 0, .int 0, .int 0, .long 0, .long 0, .int 0, .ref q2, .ref q3, .int 0, .null, .null, .int 0, .long 0, .long 0])), (q0, .inl (k0, (40, .inl (fun _ => 0)))), (q1, .inl (k0, (40, .inl (fun _ => 0)))), (q2, .inl (k0, (8, .inl (fun _ => 0)))), (q3, .inl (k0, (8, .inl (fun _ => 0)))), (q4, .inl (k0, (8, .inl (fun _ => 0))))] H := hP
  have hD : va_D A [(m9, .inr (1, [.int 0, .int 0, .ref q0, .ref q1, .int 0, .int 0, .int 0, .long 0, .long 0, .int 0, .ref q2, .ref q3, .int 0, .null, .null, .int 0, .long 0, .long 0])), (q0, .inl (k0, (40, .inl (fun _ => 0)))), (q1, .inl (k0, (40, .inl (fun _ => 0)))), (q2, .inl (k0, (8, .inl (fun _ => 0)))), (q3, .inl (k0, (8, .inl (fun _ => 0)))), (q4, .inl (k0, (8, .inl (fun _ => 0))))] := hD
  refine va_putF (D := (dC, dI)) (ci := 1) (v := .ref q4) (ty := .array .int) (C := RX1) (T := TX1) (N := 18) hx hb hts hinX1 tyX1 tyX1_ok nmX1 hown hK hP hD hS 0 rfl rfl 13 (by decide) f22 (fun _ h9 => h9) rfl hin0 rfl (by decide +kernel) rfl rfl (Nat.le_of_ble_eq_true rfl) dX1_init_41 (fun H locs hP hD hS => ?_)
  have hP : va_P (dC, dI) vwCl [(m9, .inr (1, [.int 0, .int 0, .ref q0, .ref q1, .int 0, .int 0, .int 0, .long 0, .long 0, .int 0, .ref q2, .ref q3, .int 0, .ref q4, .null, .int 0, .long 0, .long 0])), (q0, .inl (k0, (40, .inl (fun _ => 0)))), (q1, .inl (k0, (40, .inl (fun _ => 0)))), (q2, .inl (k0, (8, .inl (fun _ => 0)))), (q3, .inl (k0, (8, .inl (fun _ => 0)))), (q4, .inl (k0, (8, .inl (fun _ => 0))))] H := hP
  have hD : va_D A [(m9, .inr (1, [.int 0, .int 0, .ref q0, .ref q1, .int 0, .int 0, .int 0, .long 0, .long 0, .int 0, .ref q2, .ref q3, .int 0, .ref q4, .null, .int 0, .long 0, .long 0])), (q0, .inl (k0, (40, .inl (fun _ => 0)))), (q1, .inl (k0, (40, .inl (fun _ => 0)))), (q2, .inl (k0, (8, .inl (fun _ => 0)))), (q3, .inl (k0, (8, .inl (fun _ => 0)))), (q4, .inl (k0, (8, .inl (fun _ => 0))))] := hD
  refine lv_aload_n hx hb dX1_init_44 rfl (lv_at hl 0 rfl) ?_
  refine lv_bipush (v := 8) hx hb dX1_init_45 (by decide) ?_
  refine va_newa (D := (dC, dI)) (atype := .int) (a0 := (8, .inl (fun _ => 0))) (ty := .int) (N' := 8) hx hb (hts _ (List.mem_cons_of_mem _ w_aI)) rfl hK hP hD hS hA (fun cA => rfl) (by decide) (by decide) (by decide) (Nat.le_of_ble_eq_true rfl) (Nat.le_of_ble_eq_true rfl) dX1_init_47 (fun q5 k5 H hK hP hD hS => ?_)
  refine W.widen (k := 6) (n := 112) (Nat.le_of_ble_eq_true rfl) (Nat.le_of_ble_eq_true rfl) ?_
  obtain rfl : k0 = k5 := Option.some.inj ((hK.2 0 _ rfl).2.symm.trans (hK.2 1 _ rfl).2)
  have hK := hK.sub (tys' := [(k0, .int)]) [0] rfl
  have hP : va_P (dC, dI) vwCl [(m9, .inr (1, [.int 0, .int 0, .ref q0, .ref q1, .int 0, .int 0, .int 0, .long 0, .long 0, .int 0, .ref q2, .ref q3, .int 0, .ref q4, .null, .int 0, .long 0, .long 0])), (q0, .inl (k0, (40, .inl (fun _ => 0)))), (q1, .inl (k0, (40, .inl (fun _ => 0)))), (q2, .inl (k0, (8, .inl (fun _ => 0)))), (q3, .inl (k0, (8, .inl (fun _ => 0)))), (q4, .inl (k0, (8, .inl (fun _ => 0)))), (q5, .inl (k0, (8, .inl (fun _ => 0))))] H := hP
  have hD : va_D A [(m9, .inr (1, [.int 0, .int 0, .ref q0, .ref q1, .int 0, .int 0, .int 0, .long 0, .long 0, .int 0, .ref q2, .ref q3, .int 0, .ref q4, .null, .int 0, .long 0, .long 0])), (q0, .inl (k0, (40, .inl (fun _ => 0)))), (q1, .inl (k0, (40, .inl (fun _ => 0)))), (q2, .inl (k0, (8, .inl (fun _ => 0)))), (q3, .inl (k0, (8, .inl (fun _ => 0)))), (q4, .inl (k0, (8, .inl (fun _ => 0)))), (q5, .inl (k0, (8, .inl (fun _ => 0))))] := hD
  refine va_putF (D := (dC, dI)) (ci := 1) (v := .ref q5) (ty := .array .int) (C := RX1) (T := TX1) (N := 18) hx hb hts hinX1 tyX1 tyX1_ok nmX1 hown hK hP hD hS 0 rfl rfl 14 (by decide) f25 (fun _ h9 => h9) rfl hin0 rfl (by decide +kernel) rfl rfl (Nat.le_of_ble_eq_true rfl) dX1_init_49 (fun H locs hP hD hS => ?_)
  have hP : va_P (dC, dI) vwCl [(m9, .inr (1, [.int 0, .int 0, .ref q0, .ref q1, .int 0, .int 0, .int 0, .long 0, .long 0, .int 0, .ref q2, .ref q3, .int 0, .ref q4, .ref q5, .int 0, .long 0, .long 0])), (q0, .inl (k0, (40, .inl (fun _ => 0)))), (q1, .inl (k0, (40, .inl (fun _ => 0)))), (q2, .inl (k0, (8, .inl (fun _ => 0)))), (q3, .inl (k0, (8, .inl (fun _ => 0)))), (q4, .inl (k0, (8, .inl (fun _ => 0)))), (q5, .inl (k0, (8, .inl (fun _ => 0))))] H := hP
  have hD : va_D A [(m9, .inr (1, [.int 0, .int 0, .ref q0, .ref q1, .int 0, .int 0, .int 0, .long 0, .long 0, .int 0, .ref q2, .ref q3, .int 0, .ref q4, .ref q5, .int 0, .long 0, .long 0])), (q0, .inl (k0, (40, .inl (fun _ => 0)))), (q1, .inl (k0, (40, .inl (fun _ => 0)))), (q2, .inl (k0, (8, .inl (fun _ => 0)))), (q3, .inl (k0, (8, .inl (fun _ => 0)))), (q4, .inl (k0, (8, .inl (fun _ => 0)))), (q5, .inl (k0, (8, .inl (fun _ => 0))))] := hD
  exact W.vret hx hb hr (fun t ht hW => ⟨⟨((q0, q1, q2, q3, q4, q5), k0), rfl, trivial, by rw [ht]; exact hP, va_K.moved hW.alike hK, hD⟩, hS.F ht⟩) hS.2.2 dX1_init_52
