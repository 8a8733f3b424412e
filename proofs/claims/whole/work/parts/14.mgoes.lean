set_option maxHeartbeats 4000000 in
set_option maxRecDepth 100000 in
theorem c_X1_goes (l : Launch) (dC : Nat → ClassId) (dI : Nat → Nat → Nat) (sz : Nat) (m9 b1 b2 b3 b4 b5 b6 : Nat) (cI : ClassId) (S F D J X Y : Nat → Int32) (th : Int32) (n : Nat) (ar sl hd : Int32) (hu hw : Int64) (im tc : Nat) (fa : Int32) (up dn : Int64) (q1 q2 q3 q4 : Prop) [Decidable q1] [Decidable q2] [Decidable q3] [Decidable q4] : Met l yX1_goes wsX1_goes ({ frames := 0, cells := 0, slots := 0, locals := 0 }) (va_Pc [.ref m9, .int (bI q1), .int (bI q2), .int (bI q3), .int (bI q4)] (fun U => U.heap.size = sz ∧ va_P (dC, dI) vwCl (wM m9 b1 b2 b3 b4 b5 b6 cI S F D J X Y th n ar sl hd hu hw im tc fa up dn) U.heap ∧ va_K (dC, dI) vwCl [(cI, .int)] U ∧ va_D (fun _ => True) (wM m9 b1 b2 b3 b4 b5 b6 cI S F D J X Y th n ar sl hd hu hw im tc fa up dn))) (va_Qi (fun r (_ : Unit) => r = bI (kd4 q1 q2 q3 q4 = 0)) (fun (_ : Unit) t => at_w dC dI cI (va_A (wM m9 b1 b2 b3 b4 b5 b6 cI S F D J X Y th n ar sl hd hu hw im tc fa up dn) sz) (wM m9 b1 b2 b3 b4 b5 b6 cI S F D J X Y (kd4 q1 q2 q3 q4) n ar sl hd hu hw im tc fa up dn) t) (va_A (wM m9 b1 b2 b3 b4 b5 b6 cI S F D J X Y th n ar sl hd hu hw im tc fa up dn) sz)) 0 0 (va_A (wM m9 b1 b2 b3 b4 b5 b6 cI S F D J X Y th n ar sl hd hu hw im tc fa up dn) sz) := by
  refine Met.ofW (cc := cX1_goes) (maxL := 5) (ret := (some .boolean)) (by decide) rfl ?_
  intro p e s m args below meth c s₁ B hml hv
  obtain ⟨rfl, hsz, hP, hK, hD0⟩ := hv
  have hx := B.exec
  have hb := B.bytes
  have hr := B.returns
  have hts := atoms_spec (ws := wsX1_goes) B.pre
  have hown : s.vm.findClass RX1 = some m.cls := findClass_of_methodNamed B.named
  have hlocks := B.notSynchronized
  have hinX1 : ∀ w ∈ wsX10, w ∈ wsX1_goes := fun w h => List.mem_cons_of_mem _ (inX1 w h)
  have f28 := hts _ (List.mem_cons_of_mem _ wl_X1_28)
  subst hsz
  have hD := hD0.self (sz := s.heap.size)
  generalize hAe : va_A (wM m9 b1 b2 b3 b4 b5 b6 cI S F D J X Y th n ar sl hd hu hw im tc fa up dn) s.heap.size = A at hD ⊢
  have hA : ∀ q : Nat, s.heap.size ≤ q → A q := fun q h => by rw [← hAe]; exact Or.inr h
  have hS : va_S A s.heap s.heap [] := va_S.rf
  have hl := lv_entry ([.ref m9, .int (bI q1), .int (bI q2), .int (bI q3), .int (bI q4)]) (n := 5) (Nat.le_of_ble_eq_true rfl)
  rw [lg_entry_eq]
  generalize (lg_sl ([.ref m9, .int (bI q1), .int (bI q2), .int (bI q3), .int (bI q4)]) ++ List.replicate (5 - (lg_sl ([.ref m9, .int (bI q1), .int (bI q2), .int (bI q3), .int (bI q4)])).length) Slot.unset).toArray = ls at hl ⊢
  have hl : lv_has ls 5 [(0, .ref m9), (1, .int (bI q1)), (2, .int (bI q2)), (3, .int (bI q3)), (4, .int (bI q4))] := hl
  have J35 : ∀ (ls : Array Slot), lv_has ls 5 [(0, .ref m9)] → W p l e (headSpec wsX1_goes ({ frames := 0, cells := 0, slots := 0, locals := 0 })).room s m ([.ref m9, .int (bI q1), .int (bI q2), .int (bI q3), .int (bI q4)] : List Value).toArray below meth c s.heap [] 0 0 (MQ below (va_Qi (fun r (_ : Unit) => r = bI (kd4 q1 q2 q3 q4 = 0)) (fun (_ : Unit) t => at_w dC dI cI A (wM m9 b1 b2 b3 b4 b5 b6 cI S F D J X Y (kd4 q1 q2 q3 q4) n ar sl hd hu hw im tc fa up dn) t) A) ([.ref m9, .int (bI q1), .int (bI q2), .int (bI q3), .int (bI q4)] : List Value).toArray s 0 0 A) (F0 m 35 ls [.int (kd4 q1 q2 q3 q4), .ref m9]) := by
    intro ls hl
    refine va_put (D := (dC, dI)) (ci := 1) (v := .int (kd4 q1 q2 q3 q4)) (ty := .int) (C := RX1) (T := TX1) (N := 18) hx hb hts hinX1 tyX1 tyX1_ok nmX1 hown hK hP hD hS 0 rfl rfl 0 (by decide) f28 (fun _ h9 => h9) rfl (by decide +kernel) (rfl) (rfl) (Nat.le_of_ble_eq_true rfl) dX1_goes_35 (fun H locs hP hD hS => ?_)
    have hP : va_P (dC, dI) vwCl (wM m9 b1 b2 b3 b4 b5 b6 cI S F D J X Y (kd4 q1 q2 q3 q4) n ar sl hd hu hw im tc fa up dn) H := hP
    have hD : va_D A (wM m9 b1 b2 b3 b4 b5 b6 cI S F D J X Y (kd4 q1 q2 q3 q4) n ar sl hd hu hw im tc fa up dn) := hD
    refine lv_aload_n hx hb dX1_goes_38 rfl (lv_at hl 0 rfl) ?_
    refine va_get (D := (dC, dI)) (ci := 1) (v := .int (kd4 q1 q2 q3 q4)) (C := RX1) (T := TX1) (N := 18) hx hb hts hinX1 hown hK hP 0 rfl rfl 0 (by decide) f28 (fun _ h9 => h9) rfl dX1_goes_39 ?_
    refine lv_if_ne (tgt := 49) hx hb dX1_goes_42 (by decide) (fun c42 => ?_) (fun c42 => ?_)
    · -- taken at 42
      refine lv_iconst (v := 0) hx hb dX1_goes_49 (by decide) ?_
      exact W.zret (v := 0) hx hb hr rfl (fun t ht hW => ⟨⟨0, (), rfl, (bI_0 c42).symm, ⟨by rw [ht]; exact hP, va_K.moved hW.alike hK, hD⟩⟩, hS.F ht⟩) hS.2.2 dX1_goes_50
    · -- not taken at 42
      refine lv_iconst (v := 1) hx hb dX1_goes_45 (by decide) ?_
      refine lv_goto (tgt := 50) hx hb dX1_goes_46 (by decide) ?_
      exact W.zret (v := 1) hx hb hr rfl (fun t ht hW => ⟨⟨1, (), rfl, (bI_1 c42).symm, ⟨by rw [ht]; exact hP, va_K.moved hW.alike hK, hD⟩⟩, hS.F ht⟩) hS.2.2 dX1_goes_50
  refine lv_aload_n hx hb dX1_goes_0 rfl (lv_at hl 0 rfl) ?_
  refine lv_iload_n hx hb dX1_goes_1 rfl (lv_at hl 1 rfl) ?_
  refine lv_if_ne (tgt := 9) hx hb dX1_goes_2 (by decide) (fun c2 => ?_) (fun c2 => ?_)
  · -- taken at 2
    have c2 := bI_ne0.mp c2
    refine lv_iload_n hx hb dX1_goes_9 rfl (lv_at hl 2 rfl) ?_
    refine lv_if_ne (tgt := 17) hx hb dX1_goes_10 (by decide) (fun c10 => ?_) (fun c10 => ?_)
    · -- taken at 10
      have c10 := bI_ne0.mp c10
      refine lv_iload_n hx hb dX1_goes_17 rfl (lv_at hl 3 rfl) ?_
      refine lv_if_ne (tgt := 25) hx hb dX1_goes_18 (by decide) (fun c18 => ?_) (fun c18 => ?_)
      · -- taken at 18
        have c18 := bI_ne0.mp c18
        refine lv_iload hx hb dX1_goes_25 (lv_at hl 4 rfl) ?_
        refine lv_if_ne (tgt := 34) hx hb dX1_goes_27 (by decide) (fun c27 => ?_) (fun c27 => ?_)
        · -- taken at 27
          have c27 := bI_ne0.mp c27
          refine lv_iconst (v := 0) hx hb dX1_goes_34 (by decide) ?_
          refine W.eq (congrArg (fun z => F0 m 35 ls (.int z :: [.ref m9])) ((kd_0 (a := q1) (b := q2) (c := q3) (d := q4) c2 c10 c18 c27).symm)) ?_
          exact J35 ls (lv_sub hl [0] rfl)
        · -- not taken at 27
          have c27 := bI_eq0.mp c27
          refine lv_iconst (v := 4) hx hb dX1_goes_30 (by decide) ?_
          refine lv_goto (tgt := 35) hx hb dX1_goes_31 (by decide) ?_
          refine W.eq (congrArg (fun z => F0 m 35 ls (.int z :: [.ref m9])) ((kd_4 (a := q1) (b := q2) (c := q3) (d := q4) c2 c10 c18 c27).symm)) ?_
          exact J35 ls (lv_sub hl [0] rfl)
      · -- not taken at 18
        have c18 := bI_eq0.mp c18
        refine lv_iconst (v := 3) hx hb dX1_goes_21 (by decide) ?_
        refine lv_goto (tgt := 35) hx hb dX1_goes_22 (by decide) ?_
        refine W.eq (congrArg (fun z => F0 m 35 ls (.int z :: [.ref m9])) ((kd_3 (a := q1) (b := q2) (c := q3) (d := q4) c2 c10 c18).symm)) ?_
        exact J35 ls (lv_sub hl [0] rfl)
    · -- not taken at 10
      have c10 := bI_eq0.mp c10
      refine lv_iconst (v := 2) hx hb dX1_goes_13 (by decide) ?_
      refine lv_goto (tgt := 35) hx hb dX1_goes_14 (by decide) ?_
      refine W.eq (congrArg (fun z => F0 m 35 ls (.int z :: [.ref m9])) ((kd_2 (a := q1) (b := q2) (c := q3) (d := q4) c2 c10).symm)) ?_
      exact J35 ls (lv_sub hl [0] rfl)
  · -- not taken at 2
    have c2 := bI_eq0.mp c2
    refine lv_iconst (v := 1) hx hb dX1_goes_5 (by decide) ?_
    refine lv_goto (tgt := 35) hx hb dX1_goes_6 (by decide) ?_
    refine W.eq (congrArg (fun z => F0 m 35 ls (.int z :: [.ref m9])) ((kd_1 (a := q1) (b := q2) (c := q3) (d := q4) c2).symm)) ?_
    exact J35 ls (lv_sub hl [0] rfl)
set_option maxHeartbeats 4000000 in
set_option maxRecDepth 100000 in
theorem c_X1_part (l : Launch) (dC : Nat → ClassId) (dI : Nat → Nat → Nat) (sz : Nat) (m9 b1 b2 b3 b4 b5 b6 : Nat) (cI : ClassId) (S F D J X Y : Nat → Int32) (th : Int32) (n : Nat) (ar sl hd : Int32) (hu hw : Int64) (im tc : Nat) (fa : Int32) (up dn : Int64) (y1 y2 : Int64) (p3 : Int32) (h1 : y1.toInt ≠ -2 ^ 63) (h2 : 0 < y2.toInt) : Met l yX1_part wsX1_part ({ frames := 0, cells := 0, slots := 0, locals := 0 }) (va_Pc [.ref m9, .long y1, .long y2, .int p3] (fun U => U.heap.size = sz ∧ va_P (dC, dI) vwCl (wM m9 b1 b2 b3 b4 b5 b6 cI S F D J X Y th n ar sl hd hu hw im tc fa up dn) U.heap ∧ va_K (dC, dI) vwCl [(cI, .int)] U ∧ va_D (fun _ => True) (wM m9 b1 b2 b3 b4 b5 b6 cI S F D J X Y th n ar sl hd hu hw im tc fa up dn))) (va_Ql (fun r (u : Int64 × Int64) => r.toInt = fr y1.toInt y2.toInt p3.toInt ∧ u.1.toInt = fr y1.toInt y2.toInt 0 ∧ u.2.toInt = fr y1.toInt y2.toInt 1) (fun (u : Int64 × Int64) t => at_w dC dI cI (va_A (wM m9 b1 b2 b3 b4 b5 b6 cI S F D J X Y th n ar sl hd hu hw im tc fa up dn) sz) (wM m9 b1 b2 b3 b4 b5 b6 cI S F D J X Y th n ar sl hd hu hw im tc fa u.1 u.2) t) (va_A (wM m9 b1 b2 b3 b4 b5 b6 cI S F D J X Y th n ar sl hd hu hw im tc fa up dn) sz)) 0 0 (va_A (wM m9 b1 b2 b3 b4 b5 b6 cI S F D J X Y th n ar sl hd hu hw im tc fa up dn) sz) := by
  refine Met.ofW (cc := cX1_part) (maxL := 12) (ret := (some .long)) (by decide) rfl ?_
  intro p e s m args below meth c s₁ B hml hv
  obtain ⟨rfl, hsz, hP, hK, hD0⟩ := hv
  have hx := B.exec
  have hb := B.bytes
  have hr := B.returns
  have hts := atoms_spec (ws := wsX1_part) B.pre
  have hown : s.vm.findClass RX1 = some m.cls := findClass_of_methodNamed B.named
  have hlocks := B.notSynchronized
  have hinX1 : ∀ w ∈ wsX10, w ∈ wsX1_part := fun w h => List.mem_cons_of_mem _ (inX1 w h)
  have f32 := hts _ (List.mem_cons_of_mem _ wl_X1_32)
  have f36 := hts _ (List.mem_cons_of_mem _ wl_X1_36)
  subst hsz
  have hD := hD0.self (sz := s.heap.size)
  generalize hAe : va_A (wM m9 b1 b2 b3 b4 b5 b6 cI S F D J X Y th n ar sl hd hu hw im tc fa up dn) s.heap.size = A at hD ⊢
  have hA : ∀ q : Nat, s.heap.size ≤ q → A q := fun q h => by rw [← hAe]; exact Or.inr h
  have hS : va_S A s.heap s.heap [] := va_S.rf
  have hl := lv_entry ([.ref m9, .long y1, .long y2, .int p3]) (n := 12) (Nat.le_of_ble_eq_true rfl)
  rw [lg_entry_eq]
  generalize (lg_sl ([.ref m9, .long y1, .long y2, .int p3]) ++ List.replicate (12 - (lg_sl ([.ref m9, .long y1, .long y2, .int p3])).length) Slot.unset).toArray = ls at hl ⊢
  have hl : lv_has ls 12 [(0, .ref m9), (1, .long y1), (3, .long y2), (5, .int p3)] := hl
  have L17 : ∀ (f : Nat) (u : Nat) (v : Nat) (g1 : Int64) (g2 : Int64) (ls : Array Slot), v + 1 ≤ f → (g1.toInt = (u : Int)) → (g2.toInt = (v : Int)) → (Nat.gcd u v = Nat.gcd y1.toInt.natAbs y2.toInt.natAbs) → lv_has ls 12 [(8, .long g2), (6, .long g1), (0, .ref m9), (1, .long y1), (3, .long y2), (5, .int p3)] → W p l e (headSpec wsX1_part ({ frames := 0, cells := 0, slots := 0, locals := 0 })).room s m ([.ref m9, .long y1, .long y2, .int p3] : List Value).toArray below meth c s.heap [] 0 0 (MQ below (va_Ql (fun r (u : Int64 × Int64) => r.toInt = fr y1.toInt y2.toInt p3.toInt ∧ u.1.toInt = fr y1.toInt y2.toInt 0 ∧ u.2.toInt = fr y1.toInt y2.toInt 1) (fun (u : Int64 × Int64) t => at_w dC dI cI A (wM m9 b1 b2 b3 b4 b5 b6 cI S F D J X Y th n ar sl hd hu hw im tc fa u.1 u.2) t) A) ([.ref m9, .long y1, .long y2, .int p3] : List Value).toArray s 0 0 A) (F0 m 17 ls []) := by
    intro f
    induction f with
    | zero => intro u v g1 g2 ls hm ju jv jg hl; exact absurd hm (by omega)
    | succ f ih =>
      intro u v g1 g2 ls hm ju jv jg hl
      refine lv_lload hx hb dX1_part_17 (lv_at hl 0 rfl) ?_
      refine lv_lconst (v := 0) hx hb dX1_part_19 (by decide) ?_
      refine W.lcmp hx hb dX1_part_20 ?_
      refine lv_if_eq (tgt := 42) hx hb dX1_part_21 (by decide) (fun c21 => ?_) (fun c21 => ?_)
      · -- taken at 21
        have c21 := (lg_cmp_eq _ _).mp c21
        have c21 : g2.toInt = 0 := (Int64.toInt_inj.symm).mp c21
        have hg1 := part_g (y1 := y1) (y2 := y2) h2 ju jg (show v = 0 by omega)
        refine lv_aload_n hx hb dX1_part_42 rfl (lv_at hl 2 rfl) ?_
        refine lv_lload_n hx hb dX1_part_43 rfl (lv_at hl 3 rfl) ?_
        refine lv_lload hx hb dX1_part_44 (lv_at hl 1 rfl) ?_
        refine lv_ldiv hx hb dX1_part_46 (fun q => by rw [q] at hg1; exact absurd hg1.2 (by decide)) ?_
        refine va_put (D := (dC, dI)) (ci := 1) (v := .long (y1 / g1)) (ty := .long) (C := RX1) (T := TX1) (N := 18) hx hb hts hinX1 tyX1 tyX1_ok nmX1 hown hK hP hD hS 0 rfl rfl 16 (by decide) f32 (fun _ h9 => h9) rfl (by decide +kernel) (rfl) (rfl) (Nat.le_of_ble_eq_true rfl) dX1_part_47 (fun H locs hP hD hS => ?_)
        have hP : va_P (dC, dI) vwCl (wM m9 b1 b2 b3 b4 b5 b6 cI S F D J X Y th n ar sl hd hu hw im tc fa (y1 / g1) dn) H := hP
        have hD : va_D A (wM m9 b1 b2 b3 b4 b5 b6 cI S F D J X Y th n ar sl hd hu hw im tc fa (y1 / g1) dn) := hD
        refine lv_aload_n hx hb dX1_part_50 rfl (lv_at hl 2 rfl) ?_
        refine lv_lload_n hx hb dX1_part_51 rfl (lv_at hl 4 rfl) ?_
        refine lv_lload hx hb dX1_part_52 (lv_at hl 1 rfl) ?_
        refine lv_ldiv hx hb dX1_part_54 (fun q => by rw [q] at hg1; exact absurd hg1.2 (by decide)) ?_
        refine va_put (D := (dC, dI)) (ci := 1) (v := .long (y2 / g1)) (ty := .long) (C := RX1) (T := TX1) (N := 18) hx hb hts hinX1 tyX1 tyX1_ok nmX1 hown hK hP hD hS 0 rfl rfl 17 (by decide) f36 (fun _ h9 => h9) rfl (by decide +kernel) (rfl) (rfl) (Nat.le_of_ble_eq_true rfl) dX1_part_55 (fun H locs hP hD hS => ?_)
        have hP : va_P (dC, dI) vwCl (wM m9 b1 b2 b3 b4 b5 b6 cI S F D J X Y th n ar sl hd hu hw im tc fa (y1 / g1) (y2 / g1)) H := hP
        have hD : va_D A (wM m9 b1 b2 b3 b4 b5 b6 cI S F D J X Y th n ar sl hd hu hw im tc fa (y1 / g1) (y2 / g1)) := hD
        refine lv_iload hx hb dX1_part_58 (lv_at hl 5 rfl) ?_
        refine lv_if_ne (tgt := 70) hx hb dX1_part_60 (by decide) (fun c60 => ?_) (fun c60 => ?_)
        · -- taken at 60
          have c60 : ¬ p3.toInt = 0 := fun q9 => c60 ((Int32.toInt_inj.symm).mpr q9)
          refine lv_aload_n hx hb dX1_part_70 rfl (lv_at hl 2 rfl) ?_
          refine va_get (D := (dC, dI)) (ci := 1) (v := .long (y2 / g1)) (C := RX1) (T := TX1) (N := 18) hx hb hts hinX1 hown hK hP 0 rfl rfl 17 (by decide) f36 (fun _ h9 => h9) rfl dX1_part_71 ?_
          exact W.lret (v := y2 / g1) hx hb hr (fun t ht hW => ⟨⟨y2 / g1, (y1 / g1, y2 / g1), rfl, ⟨part_r1 c60 (part_l h2 hg1), part_u h1 hg1, part_l h2 hg1⟩, ⟨by rw [ht]; exact hP, va_K.moved hW.alike hK, hD⟩⟩, hS.F ht⟩) hS.2.2 dX1_part_74
        · -- not taken at 60
          have c60 : p3.toInt = 0 := (Int32.toInt_inj.symm).mp c60
          refine lv_aload_n hx hb dX1_part_63 rfl (lv_at hl 2 rfl) ?_
          refine va_get (D := (dC, dI)) (ci := 1) (v := .long (y1 / g1)) (C := RX1) (T := TX1) (N := 18) hx hb hts hinX1 hown hK hP 0 rfl rfl 16 (by decide) f32 (fun _ h9 => h9) rfl dX1_part_64 ?_
          refine lv_goto (tgt := 74) hx hb dX1_part_67 (by decide) ?_
          exact W.lret (v := y1 / g1) hx hb hr (fun t ht hW => ⟨⟨y1 / g1, (y1 / g1, y2 / g1), rfl, ⟨part_r0 c60 (part_u h1 hg1), part_u h1 hg1, part_l h2 hg1⟩, ⟨by rw [ht]; exact hP, va_K.moved hW.alike hK, hD⟩⟩, hS.F ht⟩) hS.2.2 dX1_part_74
      · -- not taken at 21
        have c21 := fun q9 => c21 ((lg_cmp_eq _ _).mpr q9)
        have c21 : ¬ g2.toInt = 0 := fun q9 => c21 ((Int64.toInt_inj.symm).mpr q9)
        have hm9 := Nat.mod_lt u (show 0 < v by omega)
        refine lv_lload hx hb dX1_part_24 (lv_at hl 1 rfl) ?_
        refine lv_lload hx hb dX1_part_26 (lv_at hl 0 rfl) ?_
        refine lv_lrem hx hb dX1_part_28 (fun q => c21 (by rw [q]; rfl)) ?_
        refine lv_lstore (lv' := [(10, .long (g1 - g1 / g2 * g2)), (8, .long g2), (6, .long g1), (0, .ref m9), (1, .long y1), (3, .long y2), (5, .int p3)]) hx hb dX1_part_29 hl (by decide) rfl (fun ls hl => ?_)
        refine lv_lload hx hb dX1_part_31 (lv_at hl 1 rfl) ?_
        refine lv_lstore (lv' := [(6, .long g2), (10, .long (g1 - g1 / g2 * g2)), (8, .long g2), (0, .ref m9), (1, .long y1), (3, .long y2), (5, .int p3)]) hx hb dX1_part_33 hl (by decide) rfl (fun ls hl => ?_)
        refine lv_lload hx hb dX1_part_35 (lv_at hl 1 rfl) ?_
        refine lv_lstore (lv' := [(8, .long (g1 - g1 / g2 * g2)), (6, .long g2), (10, .long (g1 - g1 / g2 * g2)), (0, .ref m9), (1, .long y1), (3, .long y2), (5, .int p3)]) hx hb dX1_part_37 hl (by decide) rfl (fun ls hl => ?_)
        refine lv_goto (tgt := 17) hx hb dX1_part_39 (by decide) ?_
        exact ih v (u % v) g2 (g1 - g1 / g2 * g2) ls (by omega) jv (eu_rem ju jv) ((eu_gcd u v).trans jg) (lv_sub hl [0, 1, 3, 4, 5, 6] rfl)
  have J12 : ∀ (z : Int64) (ls : Array Slot), (z.toInt = (y1.toInt.natAbs : Int)) → lv_has ls 12 [(0, .ref m9), (1, .long y1), (3, .long y2), (5, .int p3)] → W p l e (headSpec wsX1_part ({ frames := 0, cells := 0, slots := 0, locals := 0 })).room s m ([.ref m9, .long y1, .long y2, .int p3] : List Value).toArray below meth c s.heap [] 0 0 (MQ below (va_Ql (fun r (u : Int64 × Int64) => r.toInt = fr y1.toInt y2.toInt p3.toInt ∧ u.1.toInt = fr y1.toInt y2.toInt 0 ∧ u.2.toInt = fr y1.toInt y2.toInt 1) (fun (u : Int64 × Int64) t => at_w dC dI cI A (wM m9 b1 b2 b3 b4 b5 b6 cI S F D J X Y th n ar sl hd hu hw im tc fa u.1 u.2) t) A) ([.ref m9, .long y1, .long y2, .int p3] : List Value).toArray s 0 0 A) (F0 m 12 ls [.long z]) := by
    intro z ls hz hl
    refine lv_lstore (lv' := [(6, .long z), (0, .ref m9), (1, .long y1), (3, .long y2), (5, .int p3)]) hx hb dX1_part_12 hl (by decide) rfl (fun ls hl => ?_)
    refine lv_lload_n hx hb dX1_part_14 rfl (lv_at hl 3 rfl) ?_
    refine lv_lstore (lv' := [(8, .long y2), (6, .long z), (0, .ref m9), (1, .long y1), (3, .long y2), (5, .int p3)]) hx hb dX1_part_15 hl (by decide) rfl (fun ls hl => ?_)
    exact L17 (y2.toInt.natAbs + 1) y1.toInt.natAbs y2.toInt.natAbs z y2 ls (by omega) hz (pit_pos h2) rfl (lv_sub hl [0, 1, 2, 3, 4, 5] rfl)
  refine lv_lload_n hx hb dX1_part_0 rfl (lv_at hl 1 rfl) ?_
  refine lv_lconst (v := 0) hx hb dX1_part_1 (by decide) ?_
  refine W.lcmp hx hb dX1_part_2 ?_
  refine lv_if_ge (tgt := 11) hx hb dX1_part_3 (by decide) (fun c3 => ?_) (fun c3 => ?_)
  · -- taken at 3
    have c3 := (lg_cmp_ge _ _).mp c3
    have c3 : 0 ≤ y1.toInt := (Int64.le_iff_toInt_le).mp c3
    refine lv_lload_n hx hb dX1_part_11 rfl (lv_at hl 1 rfl) ?_
    exact J12 y1 ls (by first | omega | (rw [Kit.i64_neg h1]; omega)) (lv_sub hl [0, 1, 2, 3] rfl)
  · -- not taken at 3
    have c3 := fun q9 => c3 ((lg_cmp_ge _ _).mpr q9)
    have c3 : ¬ 0 ≤ y1.toInt := fun q9 => c3 ((Int64.le_iff_toInt_le).mpr q9)
    refine lv_lload_n hx hb dX1_part_6 rfl (lv_at hl 1 rfl) ?_
    refine lv_lneg hx hb dX1_part_7 ?_
    refine lv_goto (tgt := 12) hx hb dX1_part_8 (by decide) ?_
    exact J12 (-y1) ls (by first | omega | (rw [Kit.i64_neg h1]; omega)) (lv_sub hl [0, 1, 2, 3] rfl)
