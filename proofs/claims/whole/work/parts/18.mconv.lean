set_option maxHeartbeats 4000000 in
set_option maxRecDepth 100000 in
theorem c_X1_convert (l : Launch) (dC : Nat → ClassId) (dI : Nat → Nat → Nat) (sz : Nat) (m9 b1 b2 b3 b4 b5 b6 : Nat) (cI : ClassId) (S F D J X Y : Nat → Int32) (th : Int32) (n : Nat) (ar sl hd : Int32) (hu hw : Int64) (im tc : Nat) (fa : Int32) (up dn : Int64) (p1 p2 : Int32) (htc : tc ≤ 8) (hrt : ris X tc) (hXb : ∀ j, j < tc → 0 ≤ (X j).toInt ∧ (X j).toInt ≤ 2000) (hYb : ∀ j, j < tc → 0 ≤ (Y j).toInt ∧ (Y j).toInt ≤ 2000) : Met l yX1_convert wsX1_convert ({ frames := 1, cells := 0, slots := 0, locals := 29 }) (va_Pc [.ref m9, .int p1, .int p2] (fun U => U.heap.size = sz ∧ va_P (dC, dI) vwCl (wM m9 b1 b2 b3 b4 b5 b6 cI S F D J X Y th n ar sl hd hu hw im tc fa up dn) U.heap ∧ va_K (dC, dI) vwCl [(cI, .int)] U ∧ va_D (fun _ => True) (wM m9 b1 b2 b3 b4 b5 b6 cI S F D J X Y th n ar sl hd hu hw im tc fa up dn))) (va_Qi (fun r (_ : Unit) => kd4 (0 ≤ p2.toInt ∧ p2.toInt ≤ 2) (0 < tc) (0 ≤ p1.toInt ∧ p1.toInt ≤ 2000) (ok_cv tc X p1) = 0 → cvs X Y tc p1.toInt p2.toInt r) (fun (_ : Unit) t => at_w dC dI cI (va_A (wM m9 b1 b2 b3 b4 b5 b6 cI S F D J X Y th n ar sl hd hu hw im tc fa up dn) sz) (wM m9 b1 b2 b3 b4 b5 b6 cI S F D J X Y (kd4 (0 ≤ p2.toInt ∧ p2.toInt ≤ 2) (0 < tc) (0 ≤ p1.toInt ∧ p1.toInt ≤ 2000) (ok_cv tc X p1)) n ar sl hd hu hw im tc fa up dn) t) (va_A (wM m9 b1 b2 b3 b4 b5 b6 cI S F D J X Y th n ar sl hd hu hw im tc fa up dn) sz)) 0 0 (va_A (wM m9 b1 b2 b3 b4 b5 b6 cI S F D J X Y th n ar sl hd hu hw im tc fa up dn) sz) := by
  refine Met.ofW (cc := cX1_convert) (maxL := 6) (ret := (some .int)) (by decide) rfl ?_
  intro p e s m args below meth c s₁ B hml hv
  obtain ⟨rfl, hsz, hP, hK, hD0⟩ := hv
  have hx := B.exec
  have hb := B.bytes
  have hr := B.returns
  have hts := atoms_spec (ws := wsX1_convert) B.pre
  have hown : s.vm.findClass RX1 = some m.cls := findClass_of_methodNamed B.named
  have hlocks := B.notSynchronized
  have hinX1 : ∀ w ∈ wsX10, w ∈ wsX1_convert := fun w h => List.mem_cons_of_mem _ (inX1 w h)
  have f86 := hts _ (List.mem_cons_of_mem _ wl_X1_86)
  have f22 := hts _ (List.mem_cons_of_mem _ wl_X1_22)
  have f25 := hts _ (List.mem_cons_of_mem _ wl_X1_25)
  subst hsz
  have hD := hD0.self (sz := s.heap.size)
  generalize hAe : va_A (wM m9 b1 b2 b3 b4 b5 b6 cI S F D J X Y th n ar sl hd hu hw im tc fa up dn) s.heap.size = A at hD ⊢
  have hA : ∀ q : Nat, s.heap.size ≤ q → A q := fun q h => by rw [← hAe]; exact Or.inr h
  have hS : va_S A s.heap s.heap [] := va_S.rf
  have hl := lv_entry ([.ref m9, .int p1, .int p2]) (n := 6) (Nat.le_of_ble_eq_true rfl)
  rw [lg_entry_eq]
  generalize (lg_sl ([.ref m9, .int p1, .int p2]) ++ List.replicate (6 - (lg_sl ([.ref m9, .int p1, .int p2])).length) Slot.unset).toArray = ls at hl ⊢
  have hl : lv_has ls 6 [(0, .ref m9), (1, .int p1), (2, .int p2)] := hl
  have J57 : ∀ (ls : Array Slot), lv_has ls 6 [(3, .int (bI (ok_cv tc X p1))), (0, .ref m9), (1, .int p1), (2, .int p2)] → W p l e (headSpec wsX1_convert ({ frames := 1, cells := 0, slots := 0, locals := 29 })).room s m ([.ref m9, .int p1, .int p2] : List Value).toArray below meth c s.heap [] 0 0 (MQ below (va_Qi (fun r (_ : Unit) => kd4 (0 ≤ p2.toInt ∧ p2.toInt ≤ 2) (0 < tc) (0 ≤ p1.toInt ∧ p1.toInt ≤ 2000) (ok_cv tc X p1) = 0 → cvs X Y tc p1.toInt p2.toInt r) (fun (_ : Unit) t => at_w dC dI cI A (wM m9 b1 b2 b3 b4 b5 b6 cI S F D J X Y (kd4 (0 ≤ p2.toInt ∧ p2.toInt ≤ 2) (0 < tc) (0 ≤ p1.toInt ∧ p1.toInt ≤ 2000) (ok_cv tc X p1)) n ar sl hd hu hw im tc fa up dn) t) A) ([.ref m9, .int p1, .int p2] : List Value).toArray s 0 0 A) (F0 m 57 ls [.int (bI (0 < tc)), .int (bI (0 ≤ p2.toInt ∧ p2.toInt ≤ 2)), .ref m9]) := by
    intro ls hl
    refine lv_iload_n hx hb dX1_convert_57 rfl (lv_at hl 2 rfl) ?_
    refine lv_iconst (v := 0) hx hb dX1_convert_58 (by decide) ?_
    refine lv_sipush (v := 2000) hx hb dX1_convert_59 (by decide) ?_
    refine vp_callSi (W.runS (As := [.int p1, .int 0, .int 2000]) (rest := [.int (bI (0 < tc)), .int (bI (0 ≤ p2.toInt ∧ p2.toInt ≤ 2)), .ref m9]) ⟨hx, hb, hml, hown, hts⟩ (c_X1_in l p1 0 2000 0 2000 (by decide) (by decide)) (va_cwS 3 hts (gS wl_X1_40 ws_X1_in wi_X1 wc_X1_in) rfl rfl rfl (by decide +kernel) ⟨Nat.le_of_ble_eq_true rfl, Nat.le_of_ble_eq_true rfl⟩) ⟨fun _ _ _ _ q => q, fun U hU hW => ⟨rfl, trivial⟩⟩ rfl rfl hl.1 rfl (lv_room (Nat.le_of_ble_eq_true rfl)) dX1_convert_62 ⟨Nat.le_of_ble_eq_true rfl, Nat.le_of_ble_eq_true rfl⟩) (fun r62 h62 => ?_)
    subst h62
    refine lv_iload_n hx hb dX1_convert_65 rfl (lv_at hl 0 rfl) ?_
    have hFc := va_free (wc := (wM m9 b1 b2 b3 b4 b5 b6 cI S F D J X Y th n ar sl hd hu hw im tc fa up dn)) hD hS hA [0, 1, 2, 3, 4, 5, 6] rfl
    refine va_calli (va_runV (As := [.int (bI (0 ≤ p2.toInt ∧ p2.toInt ≤ 2)), .int (bI (0 < tc)), .int (bI (0 ≤ p1.toInt ∧ p1.toInt ≤ 2000)), .int (bI (ok_cv tc X p1))]) (rest := []) ⟨hx, hb, hml, hown, hts⟩ (c_X1_goes l dC dI s.heap.size m9 b1 b2 b3 b4 b5 b6 cI S F D J X Y th n ar sl hd hu hw im tc fa up dn (0 ≤ p2.toInt ∧ p2.toInt ≤ 2) (0 < tc) (0 ≤ p1.toInt ∧ p1.toInt ≤ 2000) (ok_cv tc X p1)) (cwV 4 hts (gV wl_X1_47 wi_X1_goes wv_X1_goes wi_X1 wc_X1_goes) rfl rfl rfl (by decide +kernel) ⟨Nat.le_of_ble_eq_true rfl, Nat.le_of_ble_eq_true rfl⟩) ⟨fun a U g mk q => ⟨q.1, q.2.1, q.2.2.1, va_K.moved (u := U) (U := U.calling g mk a) (Vm.Alike.refl U.vm) q.2.2.2.1, q.2.2.2.2⟩, va_recv hK hP (ci := 1) (q0 := 0) rfl rfl, fun U hU hW => ⟨rfl, by rw [hU], by rw [hU]; exact hP, va_K.moved hW.alike hK, hD.weaken (fun _ _ _ _ => trivial)⟩⟩ rfl rfl hl.1 rfl (lv_room (Nat.le_of_ble_eq_true rfl)) dX1_convert_66 ⟨Nat.le_of_ble_eq_true rfl, Nat.le_of_ble_eq_true rfl⟩) hS (fun q _ h => hFc q h) hFc (fun r66 u66 t H1 locs ht hvm h66 hB hz1 hk1 hS => ?_)
    obtain ⟨hP1, hK1, hD1⟩ := hB
    rw [ht] at hP1
    obtain ⟨hP, hD⟩ := va_join (wr := []) (w1 := (wM m9 b1 b2 b3 b4 b5 b6 cI S F D J X Y (kd4 (0 ≤ p2.toInt ∧ p2.toInt ≤ 2) (0 < tc) (0 ≤ p1.toInt ∧ p1.toInt ≤ 2000) (ok_cv tc X p1)) n ar sl hd hu hw im tc fa up dn)) hP hD [0, 1, 2, 3, 4, 5, 6] [] rfl rfl (by decide) (by decide) hk1 hFc hP1 hD1
    generalize H1 = H at hP hS ⊢
    have hP : va_P (dC, dI) vwCl (wM m9 b1 b2 b3 b4 b5 b6 cI S F D J X Y (kd4 (0 ≤ p2.toInt ∧ p2.toInt ≤ 2) (0 < tc) (0 ≤ p1.toInt ∧ p1.toInt ≤ 2000) (ok_cv tc X p1)) n ar sl hd hu hw im tc fa up dn) H := hP
    have hD : va_D A (wM m9 b1 b2 b3 b4 b5 b6 cI S F D J X Y (kd4 (0 ≤ p2.toInt ∧ p2.toInt ≤ 2) (0 < tc) (0 ≤ p1.toInt ∧ p1.toInt ≤ 2000) (ok_cv tc X p1)) n ar sl hd hu hw im tc fa up dn) := hD
    subst h66
    refine lv_if_ne (tgt := 74) hx hb dX1_convert_69 (by decide) (fun c69 => ?_) (fun c69 => ?_)
    · -- taken at 69
      have c69 := bI_ne0.mp c69
      obtain ⟨e1, e2, e3, e4, e5, e6⟩ := kd_z c69
      have L77 : ∀ (f : Nat) (k : Nat) (ls : Array Slot), tc + 1 ≤ k + f → (k ≤ tc) → (∀ j, j < k → (X j).toInt < p1.toInt) → lv_has ls 6 [(4, .int (nI k)), (0, .ref m9), (1, .int p1), (2, .int p2)] → W p l e (headSpec wsX1_convert ({ frames := 1, cells := 0, slots := 0, locals := 29 })).room s m ([.ref m9, .int p1, .int p2] : List Value).toArray below meth c H locs 0 0 (MQ below (va_Qi (fun r (_ : Unit) => kd4 (0 ≤ p2.toInt ∧ p2.toInt ≤ 2) (0 < tc) (0 ≤ p1.toInt ∧ p1.toInt ≤ 2000) (ok_cv tc X p1) = 0 → cvs X Y tc p1.toInt p2.toInt r) (fun (_ : Unit) t => at_w dC dI cI A (wM m9 b1 b2 b3 b4 b5 b6 cI S F D J X Y (kd4 (0 ≤ p2.toInt ∧ p2.toInt ≤ 2) (0 < tc) (0 ≤ p1.toInt ∧ p1.toInt ≤ 2000) (ok_cv tc X p1)) n ar sl hd hu hw im tc fa up dn) t) A) ([.ref m9, .int p1, .int p2] : List Value).toArray s 0 0 A) (F0 m 77 ls []) := by
        intro f
        induction f with
        | zero => intro k ls hm hk ha hl; exact absurd hm (by omega)
        | succ f ih =>
          intro k ls hm hk ha hl
          refine lv_iload hx hb dX1_convert_77 (lv_at hl 0 rfl) ?_
          refine lv_aload_n hx hb dX1_convert_79 rfl (lv_at hl 1 rfl) ?_
          refine va_get (D := (dC, dI)) (ci := 1) (v := .int (nI tc)) (C := RX1) (T := TX1) (N := 18) hx hb hts hinX1 hown hK hP 0 rfl rfl 12 (by decide) f86 (fun _ h9 => h9) rfl dX1_convert_80 ?_
          refine lv_icmp_ge (tgt := 196) hx hb dX1_convert_83 (by decide) (fun c83 => ?_) (fun c83 => ?_)
          · -- taken at 83
            have c83 : tc ≤ k := (nI_leI (a := tc) (b := k) (by omega) (by omega)).mp c83
            exact absurd (ha (tc - 1) (by omega)) (by omega)
          · -- not taken at 83
            have c83 : ¬ tc ≤ k := fun q9 => c83 ((nI_leI (a := tc) (b := k) (by omega) (by omega)).mpr q9)
            refine lv_iload_n hx hb dX1_convert_86 rfl (lv_at hl 2 rfl) ?_
            refine lv_aload_n hx hb dX1_convert_87 rfl (lv_at hl 1 rfl) ?_
            refine va_get (D := (dC, dI)) (ci := 1) (v := .ref b5) (C := RX1) (T := TX1) (N := 18) hx hb hts hinX1 hown hK hP 0 rfl rfl 13 (by decide) f22 (fun _ h9 => h9) rfl dX1_convert_88 ?_
            refine lv_iload hx hb dX1_convert_91 (lv_at hl 0 rfl) ?_
            refine va_iald (D := (dC, dI)) hx hb hK hP 5 0 rfl rfl (vp_in_nI (show k < 8 by omega) (by decide)) dX1_convert_93 ?_
            refine W.eq (congrArg (fun z => F0 m 94 ls (.int z :: [.int p1])) (congrArg X (nI_clamp (show k < 2 ^ 31 by omega)))) ?_
            refine lv_icmp_le (tgt := 100) hx hb dX1_convert_94 (by decide) (fun c94 => ?_) (fun c94 => ?_)
            · -- taken at 94
              have c94 : p1.toInt ≤ (X k).toInt := (Int32.le_iff_toInt_le).mp c94
              refine lv_iload_n hx hb dX1_convert_100 rfl (lv_at hl 2 rfl) ?_
              refine lv_aload_n hx hb dX1_convert_101 rfl (lv_at hl 1 rfl) ?_
              refine va_get (D := (dC, dI)) (ci := 1) (v := .ref b5) (C := RX1) (T := TX1) (N := 18) hx hb hts hinX1 hown hK hP 0 rfl rfl 13 (by decide) f22 (fun _ h9 => h9) rfl dX1_convert_102 ?_
              refine lv_iload hx hb dX1_convert_105 (lv_at hl 0 rfl) ?_
              refine va_iald (D := (dC, dI)) hx hb hK hP 5 0 rfl rfl (vp_in_nI (show k < 8 by omega) (by decide)) dX1_convert_107 ?_
              refine W.eq (congrArg (fun z => F0 m 108 ls (.int z :: [.int p1])) (congrArg X (nI_clamp (show k < 2 ^ 31 by omega)))) ?_
              refine lv_icmp_ne (tgt := 119) hx hb dX1_convert_108 (by decide) (fun c108 => ?_) (fun c108 => ?_)
              · -- taken at 108
                have c108 : ¬ p1.toInt = (X k).toInt := fun q9 => c108 ((Int32.toInt_inj.symm).mpr q9)
                have hk0 : 1 ≤ k := by
                  rcases Nat.eq_zero_or_pos k with q | q
                  · subst q; omega
                  · exact q
                obtain ⟨g1, g2, g3, g4⟩ := cv_m (hrt (k - 1) k (by omega) (by omega)) (hXb k (by omega)) (hXb (k - 1) (by omega)) (hYb k (by omega)) (hYb (k - 1) (by omega)) (ha (k - 1) (by omega)) c94
                refine lv_aload_n hx hb dX1_convert_119 rfl (lv_at hl 1 rfl) ?_
                refine va_get (D := (dC, dI)) (ci := 1) (v := .ref b5) (C := RX1) (T := TX1) (N := 18) hx hb hts hinX1 hown hK hP 0 rfl rfl 13 (by decide) f22 (fun _ h9 => h9) rfl dX1_convert_120 ?_
                refine lv_iload hx hb dX1_convert_123 (lv_at hl 0 rfl) ?_
                refine va_iald (D := (dC, dI)) hx hb hK hP 5 0 rfl rfl (vp_in_nI (show k < 8 by omega) (by decide)) dX1_convert_125 ?_
                refine W.eq (congrArg (fun z => F0 m 126 ls (.int z :: [])) (congrArg X (nI_clamp (show k < 2 ^ 31 by omega)))) ?_
                refine lv_aload_n hx hb dX1_convert_126 rfl (lv_at hl 1 rfl) ?_
                refine va_get (D := (dC, dI)) (ci := 1) (v := .ref b5) (C := RX1) (T := TX1) (N := 18) hx hb hts hinX1 hown hK hP 0 rfl rfl 13 (by decide) f22 (fun _ h9 => h9) rfl dX1_convert_127 ?_
                refine lv_iload hx hb dX1_convert_130 (lv_at hl 0 rfl) ?_
                refine lv_iconst (v := 1) hx hb dX1_convert_132 (by decide) ?_
                refine lv_isub hx hb dX1_convert_133 ?_
                refine va_iald (D := (dC, dI)) hx hb hK hP 5 0 rfl rfl (by rw [nI_p1 (show 1 ≤ k by omega)]; exact vp_in_nI (show k - 1 < 8 by omega) (by decide)) dX1_convert_134 ?_
                refine W.eq (congrArg (fun z => F0 m 135 ls (.int z :: [.int (X k)])) (congrArg X (show ((nI k) - 1).toNatClampNeg = k - 1 from by rw [nI_p1 (show 1 ≤ k by omega)]; exact nI_clamp (show k - 1 < 2 ^ 31 by omega)))) ?_
                refine lv_isub hx hb dX1_convert_135 ?_
                refine lv_istore (lv' := [(5, .int ((X k) - (X (k - 1)))), (4, .int (nI k)), (0, .ref m9), (1, .int p1), (2, .int p2)]) hx hb dX1_convert_136 hl (by decide) rfl (fun ls hl => ?_)
                refine lv_aload_n hx hb dX1_convert_138 rfl (lv_at hl 2 rfl) ?_
                refine va_get (D := (dC, dI)) (ci := 1) (v := .ref b6) (C := RX1) (T := TX1) (N := 18) hx hb hts hinX1 hown hK hP 0 rfl rfl 14 (by decide) f25 (fun _ h9 => h9) rfl dX1_convert_139 ?_
                refine lv_iload hx hb dX1_convert_142 (lv_at hl 1 rfl) ?_
                refine lv_iconst (v := 1) hx hb dX1_convert_144 (by decide) ?_
                refine lv_isub hx hb dX1_convert_145 ?_
                refine va_iald (D := (dC, dI)) hx hb hK hP 6 0 rfl rfl (by rw [nI_p1 (show 1 ≤ k by omega)]; exact vp_in_nI (show k - 1 < 8 by omega) (by decide)) dX1_convert_146 ?_
                refine W.eq (congrArg (fun z => F0 m 147 ls (.int z :: [])) (congrArg Y (show ((nI k) - 1).toNatClampNeg = k - 1 from by rw [nI_p1 (show 1 ≤ k by omega)]; exact nI_clamp (show k - 1 < 2 ^ 31 by omega)))) ?_
                refine lv_iload hx hb dX1_convert_147 (lv_at hl 0 rfl) ?_
                refine lv_imul hx hb dX1_convert_149 ?_
                refine lv_aload_n hx hb dX1_convert_150 rfl (lv_at hl 2 rfl) ?_
                refine va_get (D := (dC, dI)) (ci := 1) (v := .ref b6) (C := RX1) (T := TX1) (N := 18) hx hb hts hinX1 hown hK hP 0 rfl rfl 14 (by decide) f25 (fun _ h9 => h9) rfl dX1_convert_151 ?_
                refine lv_iload hx hb dX1_convert_154 (lv_at hl 1 rfl) ?_
                refine va_iald (D := (dC, dI)) hx hb hK hP 6 0 rfl rfl (vp_in_nI (show k < 8 by omega) (by decide)) dX1_convert_156 ?_
                refine W.eq (congrArg (fun z => F0 m 157 ls (.int z :: [.int ((Y (k - 1)) * ((X k) - (X (k - 1))))])) (congrArg Y (nI_clamp (show k < 2 ^ 31 by omega)))) ?_
                refine lv_aload_n hx hb dX1_convert_157 rfl (lv_at hl 2 rfl) ?_
                refine va_get (D := (dC, dI)) (ci := 1) (v := .ref b6) (C := RX1) (T := TX1) (N := 18) hx hb hts hinX1 hown hK hP 0 rfl rfl 14 (by decide) f25 (fun _ h9 => h9) rfl dX1_convert_158 ?_
                refine lv_iload hx hb dX1_convert_161 (lv_at hl 1 rfl) ?_
                refine lv_iconst (v := 1) hx hb dX1_convert_163 (by decide) ?_
                refine lv_isub hx hb dX1_convert_164 ?_
                refine va_iald (D := (dC, dI)) hx hb hK hP 6 0 rfl rfl (by rw [nI_p1 (show 1 ≤ k by omega)]; exact vp_in_nI (show k - 1 < 8 by omega) (by decide)) dX1_convert_165 ?_
                refine W.eq (congrArg (fun z => F0 m 166 ls (.int z :: [.int (Y k), .int ((Y (k - 1)) * ((X k) - (X (k - 1))))])) (congrArg Y (show ((nI k) - 1).toNatClampNeg = k - 1 from by rw [nI_p1 (show 1 ≤ k by omega)]; exact nI_clamp (show k - 1 < 2 ^ 31 by omega)))) ?_
                refine lv_isub hx hb dX1_convert_166 ?_
                refine lv_iload_n hx hb dX1_convert_167 rfl (lv_at hl 3 rfl) ?_
                refine lv_aload_n hx hb dX1_convert_168 rfl (lv_at hl 2 rfl) ?_
                refine va_get (D := (dC, dI)) (ci := 1) (v := .ref b5) (C := RX1) (T := TX1) (N := 18) hx hb hts hinX1 hown hK hP 0 rfl rfl 13 (by decide) f22 (fun _ h9 => h9) rfl dX1_convert_169 ?_
                refine lv_iload hx hb dX1_convert_172 (lv_at hl 1 rfl) ?_
                refine lv_iconst (v := 1) hx hb dX1_convert_174 (by decide) ?_
                refine lv_isub hx hb dX1_convert_175 ?_
                refine va_iald (D := (dC, dI)) hx hb hK hP 5 0 rfl rfl (by rw [nI_p1 (show 1 ≤ k by omega)]; exact vp_in_nI (show k - 1 < 8 by omega) (by decide)) dX1_convert_176 ?_
                refine W.eq (congrArg (fun z => F0 m 177 ls (.int z :: [.int p1, .int ((Y k) - (Y (k - 1))), .int ((Y (k - 1)) * ((X k) - (X (k - 1))))])) (congrArg X (show ((nI k) - 1).toNatClampNeg = k - 1 from by rw [nI_p1 (show 1 ≤ k by omega)]; exact nI_clamp (show k - 1 < 2 ^ 31 by omega)))) ?_
                refine lv_isub hx hb dX1_convert_177 ?_
                refine lv_imul hx hb dX1_convert_178 ?_
                refine lv_iadd hx hb dX1_convert_179 ?_
                refine lv_i2l hx hb dX1_convert_180 rfl ?_
                refine lv_iload hx hb dX1_convert_181 (lv_at hl 0 rfl) ?_
                refine lv_i2l hx hb dX1_convert_183 rfl ?_
                refine lv_iload_n hx hb dX1_convert_184 rfl (lv_at hl 4 rfl) ?_
                refine vp_callSl (W.runS (As := [.long ((((Y (k - 1)) * ((X k) - (X (k - 1)))) + (((Y k) - (Y (k - 1))) * (p1 - (X (k - 1))))).toInt64), .long (((X k) - (X (k - 1))).toInt64), .int p2]) (rest := []) ⟨hx, hb, hml, hown, hts⟩ (c_X1_rounded l ((((Y (k - 1)) * ((X k) - (X (k - 1)))) + (((Y k) - (Y (k - 1))) * (p1 - (X (k - 1))))).toInt64) (((X k) - (X (k - 1))).toInt64) p2 (by omega) (by omega) (by omega) (by omega) e1) (va_cwS 3 hts (gS wl_X1_89 ws_X1_rounded wi_X1 wc_X1_rounded) rfl rfl rfl (by decide +kernel) ⟨Nat.le_of_ble_eq_true rfl, Nat.le_of_ble_eq_true rfl⟩) ⟨fun _ _ _ _ q => q, fun U hU hW => ⟨rfl, trivial⟩⟩ rfl rfl hl.1 rfl (lv_room (Nat.le_of_ble_eq_true rfl)) dX1_convert_185 ⟨Nat.le_of_ble_eq_true rfl, Nat.le_of_ble_eq_true rfl⟩) (fun r185 h185 => ?_)
                refine lv_l2i hx hb dX1_convert_188 rfl ?_
                exact W.iret (v := r185.toInt32) hx hb hr (fun t ht hW => ⟨⟨r185.toInt32, (), rfl, fun _ => ⟨k, by omega, ha, c94, Or.inr ⟨c108, hk0, cv_r g1 g2 g3 h185⟩⟩, ⟨by rw [ht]; exact hP, va_K.moved hW.alike hK, hD⟩⟩, hS.F ht⟩) hS.2.2 dX1_convert_189
              · -- not taken at 108
                have c108 : p1.toInt = (X k).toInt := (Int32.toInt_inj.symm).mp c108
                refine lv_aload_n hx hb dX1_convert_111 rfl (lv_at hl 1 rfl) ?_
                refine va_get (D := (dC, dI)) (ci := 1) (v := .ref b6) (C := RX1) (T := TX1) (N := 18) hx hb hts hinX1 hown hK hP 0 rfl rfl 14 (by decide) f25 (fun _ h9 => h9) rfl dX1_convert_112 ?_
                refine lv_iload hx hb dX1_convert_115 (lv_at hl 0 rfl) ?_
                refine va_iald (D := (dC, dI)) hx hb hK hP 6 0 rfl rfl (vp_in_nI (show k < 8 by omega) (by decide)) dX1_convert_117 ?_
                refine W.eq (congrArg (fun z => F0 m 118 ls (.int z :: [])) (congrArg Y (nI_clamp (show k < 2 ^ 31 by omega)))) ?_
                exact W.iret (v := Y k) hx hb hr (fun t ht hW => ⟨⟨Y k, (), rfl, fun _ => ⟨k, by omega, ha, c94, Or.inl ⟨c108, rfl⟩⟩, ⟨by rw [ht]; exact hP, va_K.moved hW.alike hK, hD⟩⟩, hS.F ht⟩) hS.2.2 dX1_convert_118
            · -- not taken at 94
              have c94 : ¬ p1.toInt ≤ (X k).toInt := fun q9 => c94 ((Int32.le_iff_toInt_le).mpr q9)
              refine lv_goto (tgt := 190) hx hb dX1_convert_97 (by decide) ?_
              refine lv_iinc (v := nI (k + 1)) (lv' := [(4, .int (nI (k + 1))), (0, .ref m9), (1, .int p1), (2, .int p2)]) hx hb dX1_convert_190 hl (k := 0) rfl ((nI_succ _).symm) (by decide) rfl (fun ls hl => ?_)
              refine lv_goto (tgt := 77) hx hb dX1_convert_193 (by decide) ?_
              exact ih (k + 1) ls (by omega) (by omega) (lt_s ha (by omega)) (lv_sub hl [0, 1, 2, 3] rfl)
      refine lv_iconst (v := 0) hx hb dX1_convert_74 (by decide) ?_
      refine lv_istore (lv' := [(4, .int 0), (3, .int (bI (ok_cv tc X p1))), (0, .ref m9), (1, .int p1), (2, .int p2)]) hx hb dX1_convert_75 hl (by decide) rfl (fun ls hl => ?_)
      exact L77 (tc + 1) 0 ls (by omega) (Nat.zero_le _) (fun j hj => absurd hj (Nat.not_lt_zero j)) (lv_sub hl [0, 2, 3, 4] rfl)
    · -- not taken at 69
      have c69 := bI_eq0.mp c69
      refine lv_iconst (v := 0) hx hb dX1_convert_72 (by decide) ?_
      exact W.iret (v := 0) hx hb hr (fun t ht hW => ⟨⟨0, (), rfl, fun q => absurd q c69, ⟨by rw [ht]; exact hP, va_K.moved hW.alike hK, hD⟩⟩, hS.F ht⟩) hS.2.2 dX1_convert_73
  have J37 : ∀ (ls : Array Slot), lv_has ls 6 [(0, .ref m9), (1, .int p1), (2, .int p2)] → W p l e (headSpec wsX1_convert ({ frames := 1, cells := 0, slots := 0, locals := 29 })).room s m ([.ref m9, .int p1, .int p2] : List Value).toArray below meth c s.heap [] 0 0 (MQ below (va_Qi (fun r (_ : Unit) => kd4 (0 ≤ p2.toInt ∧ p2.toInt ≤ 2) (0 < tc) (0 ≤ p1.toInt ∧ p1.toInt ≤ 2000) (ok_cv tc X p1) = 0 → cvs X Y tc p1.toInt p2.toInt r) (fun (_ : Unit) t => at_w dC dI cI A (wM m9 b1 b2 b3 b4 b5 b6 cI S F D J X Y (kd4 (0 ≤ p2.toInt ∧ p2.toInt ≤ 2) (0 < tc) (0 ≤ p1.toInt ∧ p1.toInt ≤ 2000) (ok_cv tc X p1)) n ar sl hd hu hw im tc fa up dn) t) A) ([.ref m9, .int p1, .int p2] : List Value).toArray s 0 0 A) (F0 m 37 ls [.int (bI (ok_cv tc X p1))]) := by
    intro ls hl
    refine lv_istore_n (lv' := [(3, .int (bI (ok_cv tc X p1))), (0, .ref m9), (1, .int p1), (2, .int p2)]) hx hb dX1_convert_37 rfl hl (by decide) rfl (fun ls hl => ?_)
    refine lv_aload_n hx hb dX1_convert_38 rfl (lv_at hl 1 rfl) ?_
    refine lv_iload_n hx hb dX1_convert_39 rfl (lv_at hl 3 rfl) ?_
    refine lv_iconst (v := 0) hx hb dX1_convert_40 (by decide) ?_
    refine lv_iconst (v := 2) hx hb dX1_convert_41 (by decide) ?_
    refine vp_callSi (W.runS (As := [.int p2, .int 0, .int 2]) (rest := [.ref m9]) ⟨hx, hb, hml, hown, hts⟩ (c_X1_in l p2 0 2 0 2 (by decide) (by decide)) (va_cwS 3 hts (gS wl_X1_40 ws_X1_in wi_X1 wc_X1_in) rfl rfl rfl (by decide +kernel) ⟨Nat.le_of_ble_eq_true rfl, Nat.le_of_ble_eq_true rfl⟩) ⟨fun _ _ _ _ q => q, fun U hU hW => ⟨rfl, trivial⟩⟩ rfl rfl hl.1 rfl (lv_room (Nat.le_of_ble_eq_true rfl)) dX1_convert_42 ⟨Nat.le_of_ble_eq_true rfl, Nat.le_of_ble_eq_true rfl⟩) (fun r42 h42 => ?_)
    subst h42
    refine lv_aload_n hx hb dX1_convert_45 rfl (lv_at hl 1 rfl) ?_
    refine va_get (D := (dC, dI)) (ci := 1) (v := .int (nI tc)) (C := RX1) (T := TX1) (N := 18) hx hb hts hinX1 hown hK hP 0 rfl rfl 12 (by decide) f86 (fun _ h9 => h9) rfl dX1_convert_46 ?_
    refine lv_if_le (tgt := 56) hx hb dX1_convert_49 (by decide) (fun c49 => ?_) (fun c49 => ?_)
    · -- taken at 49
      have c49 : tc ≤ 0 := (nI_leI (a := tc) (b := 0) (by omega) (by omega)).mp c49
      refine lv_iconst (v := 0) hx hb dX1_convert_56 (by decide) ?_
      refine W.eq (congrArg (fun z => F0 m 57 ls (.int z :: [.int (bI (0 ≤ p2.toInt ∧ p2.toInt ≤ 2)), .ref m9])) ((bI_0 (c := 0 < tc) (by omega)).symm)) ?_
      exact J57 ls (lv_sub hl [0, 1, 2, 3] rfl)
    · -- not taken at 49
      have c49 : ¬ tc ≤ 0 := fun q9 => c49 ((nI_leI (a := tc) (b := 0) (by omega) (by omega)).mpr q9)
      refine lv_iconst (v := 1) hx hb dX1_convert_52 (by decide) ?_
      refine lv_goto (tgt := 57) hx hb dX1_convert_53 (by decide) ?_
      refine W.eq (congrArg (fun z => F0 m 57 ls (.int z :: [.int (bI (0 ≤ p2.toInt ∧ p2.toInt ≤ 2)), .ref m9])) ((bI_1 (c := 0 < tc) (by omega)).symm)) ?_
      exact J57 ls (lv_sub hl [0, 1, 2, 3] rfl)
  refine lv_aload_n hx hb dX1_convert_0 rfl (lv_at hl 0 rfl) ?_
  refine va_get (D := (dC, dI)) (ci := 1) (v := .int (nI tc)) (C := RX1) (T := TX1) (N := 18) hx hb hts hinX1 hown hK hP 0 rfl rfl 12 (by decide) f86 (fun _ h9 => h9) rfl dX1_convert_1 ?_
  refine lv_if_le (tgt := 36) hx hb dX1_convert_4 (by decide) (fun c4 => ?_) (fun c4 => ?_)
  · -- taken at 4
    have c4 : tc ≤ 0 := (nI_leI (a := tc) (b := 0) (by omega) (by omega)).mp c4
    refine lv_iconst (v := 0) hx hb dX1_convert_36 (by decide) ?_
    refine W.eq (congrArg (fun z => F0 m 37 ls (.int z :: [])) ((bI_0 (c := ok_cv tc X p1) (by unfold ok_cv; omega)).symm)) ?_
    exact J37 ls (lv_sub hl [0, 1, 2] rfl)
  · -- not taken at 4
    have c4 : ¬ tc ≤ 0 := fun q9 => c4 ((nI_leI (a := tc) (b := 0) (by omega) (by omega)).mpr q9)
    refine lv_iload_n hx hb dX1_convert_7 rfl (lv_at hl 1 rfl) ?_
    refine lv_aload_n hx hb dX1_convert_8 rfl (lv_at hl 0 rfl) ?_
    refine va_get (D := (dC, dI)) (ci := 1) (v := .ref b5) (C := RX1) (T := TX1) (N := 18) hx hb hts hinX1 hown hK hP 0 rfl rfl 13 (by decide) f22 (fun _ h9 => h9) rfl dX1_convert_9 ?_
    refine lv_iconst (v := 0) hx hb dX1_convert_12 (by decide) ?_
    refine va_iald (D := (dC, dI)) hx hb hK hP 5 0 rfl rfl (vp_in_nI (show 0 < 8 by omega) (by decide)) dX1_convert_13 ?_
    refine W.eq (congrArg (fun z => F0 m 14 ls (.int z :: [.int p1])) (congrArg X (nI_clamp (show 0 < 2 ^ 31 by omega)))) ?_
    refine lv_icmp_lt (tgt := 36) hx hb dX1_convert_14 (by decide) (fun c14 => ?_) (fun c14 => ?_)
    · -- taken at 14
      have c14 : p1.toInt < (X 0).toInt := (Int32.lt_iff_toInt_lt).mp c14
      refine lv_iconst (v := 0) hx hb dX1_convert_36 (by decide) ?_
      refine W.eq (congrArg (fun z => F0 m 37 ls (.int z :: [])) ((bI_0 (c := ok_cv tc X p1) (by unfold ok_cv; omega)).symm)) ?_
      exact J37 ls (lv_sub hl [0, 1, 2] rfl)
    · -- not taken at 14
      have c14 : ¬ p1.toInt < (X 0).toInt := fun q9 => c14 ((Int32.lt_iff_toInt_lt).mpr q9)
      refine lv_iload_n hx hb dX1_convert_17 rfl (lv_at hl 1 rfl) ?_
      refine lv_aload_n hx hb dX1_convert_18 rfl (lv_at hl 0 rfl) ?_
      refine va_get (D := (dC, dI)) (ci := 1) (v := .ref b5) (C := RX1) (T := TX1) (N := 18) hx hb hts hinX1 hown hK hP 0 rfl rfl 13 (by decide) f22 (fun _ h9 => h9) rfl dX1_convert_19 ?_
      refine lv_aload_n hx hb dX1_convert_22 rfl (lv_at hl 0 rfl) ?_
      refine va_get (D := (dC, dI)) (ci := 1) (v := .int (nI tc)) (C := RX1) (T := TX1) (N := 18) hx hb hts hinX1 hown hK hP 0 rfl rfl 12 (by decide) f86 (fun _ h9 => h9) rfl dX1_convert_23 ?_
      refine lv_iconst (v := 1) hx hb dX1_convert_26 (by decide) ?_
      refine lv_isub hx hb dX1_convert_27 ?_
      refine W.eq (congrArg (fun z => F0 m 28 ls (.int z :: [.ref b5, .int p1])) (nI_p1 (by omega))) ?_
      refine va_iald (D := (dC, dI)) hx hb hK hP 5 0 rfl rfl (vp_in_nI (show tc - 1 < 8 by omega) (by decide)) dX1_convert_28 ?_
      refine W.eq (congrArg (fun z => F0 m 29 ls (.int z :: [.int p1])) (congrArg X (nI_clamp (show tc - 1 < 2 ^ 31 by omega)))) ?_
      refine lv_icmp_gt (tgt := 36) hx hb dX1_convert_29 (by decide) (fun c29 => ?_) (fun c29 => ?_)
      · -- taken at 29
        have c29 : (X (tc - 1)).toInt < p1.toInt := (Int32.lt_iff_toInt_lt).mp c29
        refine lv_iconst (v := 0) hx hb dX1_convert_36 (by decide) ?_
        refine W.eq (congrArg (fun z => F0 m 37 ls (.int z :: [])) ((bI_0 (c := ok_cv tc X p1) (by unfold ok_cv; omega)).symm)) ?_
        exact J37 ls (lv_sub hl [0, 1, 2] rfl)
      · -- not taken at 29
        have c29 : ¬ (X (tc - 1)).toInt < p1.toInt := fun q9 => c29 ((Int32.lt_iff_toInt_lt).mpr q9)
        refine lv_iconst (v := 1) hx hb dX1_convert_32 (by decide) ?_
        refine lv_goto (tgt := 37) hx hb dX1_convert_33 (by decide) ?_
        refine W.eq (congrArg (fun z => F0 m 37 ls (.int z :: [])) ((bI_1 (c := ok_cv tc X p1) (by unfold ok_cv; omega)).symm)) ?_
        exact J37 ls (lv_sub hl [0, 1, 2] rfl)
set_option maxHeartbeats 4000000 in
set_option maxRecDepth 100000 in
theorem c_X1_fitted (l : Launch) (dC : Nat → ClassId) (dI : Nat → Nat → Nat) (sz : Nat) (m9 b1 b2 b3 b4 b5 b6 : Nat) (cI : ClassId) (S F D J X Y : Nat → Int32) (th : Int32) (n : Nat) (ar sl hd : Int32) (hu hw : Int64) (im tc : Nat) (fa : Int32) (up dn : Int64) (p1 p2 : Int32) (hi8 : im ≤ 8) (hDb : ∀ j, j < im → -200 ≤ (D j).toInt ∧ (D j).toInt ≤ 200) (hJb : ∀ j, j < im → 0 ≤ (J j).toInt ∧ (J j).toInt ≤ 400) : Met l yX1_fitted wsX1_fitted ({ frames := 1, cells := 0, slots := 0, locals := 31 }) (va_Pc [.ref m9, .int p1, .int p2] (fun U => U.heap.size = sz ∧ va_P (dC, dI) vwCl (wM m9 b1 b2 b3 b4 b5 b6 cI S F D J X Y th n ar sl hd hu hw im tc fa up dn) U.heap ∧ va_K (dC, dI) vwCl [(cI, .int)] U ∧ va_D (fun _ => True) (wM m9 b1 b2 b3 b4 b5 b6 cI S F D J X Y th n ar sl hd hu hw im tc fa up dn))) (va_Ql (fun r (u : Int64 × Int64) => kd4 (0 ≤ p2.toInt ∧ p2.toInt ≤ 1) (2 ≤ im ∧ 0 < ftb D im) (-200 ≤ p1.toInt ∧ p1.toInt ≤ 200) True = 0 → r.toInt = fr (ftu D J im p1.toInt) ((im : Int) * ftb D im) p2.toInt) (fun (u : Int64 × Int64) t => at_w dC dI cI (va_A (wM m9 b1 b2 b3 b4 b5 b6 cI S F D J X Y th n ar sl hd hu hw im tc fa up dn) sz) (wM m9 b1 b2 b3 b4 b5 b6 cI S F D J X Y (kd4 (0 ≤ p2.toInt ∧ p2.toInt ≤ 1) (2 ≤ im ∧ 0 < ftb D im) (-200 ≤ p1.toInt ∧ p1.toInt ≤ 200) True) n ar sl hd hu hw im tc fa u.1 u.2) t) (va_A (wM m9 b1 b2 b3 b4 b5 b6 cI S F D J X Y th n ar sl hd hu hw im tc fa up dn) sz)) 0 0 (va_A (wM m9 b1 b2 b3 b4 b5 b6 cI S F D J X Y th n ar sl hd hu hw im tc fa up dn) sz) := by
  refine Met.ofW (cc := cX1_fitted) (maxL := 17) (ret := (some .long)) (by decide) rfl ?_
  intro p e s m args below meth c s₁ B hml hv
  obtain ⟨rfl, hsz, hP, hK, hD0⟩ := hv
  have hx := B.exec
  have hb := B.bytes
  have hr := B.returns
  have hts := atoms_spec (ws := wsX1_fitted) B.pre
  have hown : s.vm.findClass RX1 = some m.cls := findClass_of_methodNamed B.named
  have hlocks := B.notSynchronized
  have hinX1 : ∀ w ∈ wsX10, w ∈ wsX1_fitted := fun w h => List.mem_cons_of_mem _ (inX1 w h)
  have f81 := hts _ (List.mem_cons_of_mem _ wl_X1_81)
  have f16 := hts _ (List.mem_cons_of_mem _ wl_X1_16)
  have f19 := hts _ (List.mem_cons_of_mem _ wl_X1_19)
  have k84 := hts _ (List.mem_cons_of_mem _ wl_X1_84)
  subst hsz
  have hD := hD0.self (sz := s.heap.size)
  generalize hAe : va_A (wM m9 b1 b2 b3 b4 b5 b6 cI S F D J X Y th n ar sl hd hu hw im tc fa up dn) s.heap.size = A at hD ⊢
  have hA : ∀ q : Nat, s.heap.size ≤ q → A q := fun q h => by rw [← hAe]; exact Or.inr h
  have hS : va_S A s.heap s.heap [] := va_S.rf
  have hl := lv_entry ([.ref m9, .int p1, .int p2]) (n := 17) (Nat.le_of_ble_eq_true rfl)
  rw [lg_entry_eq]
  generalize (lg_sl ([.ref m9, .int p1, .int p2]) ++ List.replicate (17 - (lg_sl ([.ref m9, .int p1, .int p2])).length) Slot.unset).toArray = ls at hl ⊢
  have hl : lv_has ls 17 [(0, .ref m9), (1, .int p1), (2, .int p2)] := hl
  have L21 : ∀ (f : Nat) (k : Nat) (x1 : Int64) (x2 : Int64) (x3 : Int64) (x4 : Int64) (ls : Array Slot), im + 1 ≤ k + f → (k ≤ im) → (fts D J k x1 x2 x3 x4) → lv_has ls 17 [(13, .int (nI k)), (11, .long x4), (9, .long x3), (7, .long x2), (5, .long x1), (3, .long ((nI im).toInt64)), (0, .ref m9), (1, .int p1), (2, .int p2)] → W p l e (headSpec wsX1_fitted ({ frames := 1, cells := 0, slots := 0, locals := 31 })).room s m ([.ref m9, .int p1, .int p2] : List Value).toArray below meth c s.heap [] 0 0 (MQ below (va_Ql (fun r (u : Int64 × Int64) => kd4 (0 ≤ p2.toInt ∧ p2.toInt ≤ 1) (2 ≤ im ∧ 0 < ftb D im) (-200 ≤ p1.toInt ∧ p1.toInt ≤ 200) True = 0 → r.toInt = fr (ftu D J im p1.toInt) ((im : Int) * ftb D im) p2.toInt) (fun (u : Int64 × Int64) t => at_w dC dI cI A (wM m9 b1 b2 b3 b4 b5 b6 cI S F D J X Y (kd4 (0 ≤ p2.toInt ∧ p2.toInt ≤ 1) (2 ≤ im ∧ 0 < ftb D im) (-200 ≤ p1.toInt ∧ p1.toInt ≤ 200) True) n ar sl hd hu hw im tc fa u.1 u.2) t) A) ([.ref m9, .int p1, .int p2] : List Value).toArray s 0 0 A) (F0 m 21 ls []) := by
    intro f
    induction f with
    | zero => intro k x1 x2 x3 x4 ls hm hk hs hl; exact absurd hm (by omega)
    | succ f ih =>
      intro k x1 x2 x3 x4 ls hm hk hs hl
      refine lv_iload hx hb dX1_fitted_21 (lv_at hl 0 rfl) ?_
      refine lv_aload_n hx hb dX1_fitted_23 rfl (lv_at hl 6 rfl) ?_
      refine va_get (D := (dC, dI)) (ci := 1) (v := .int (nI im)) (C := RX1) (T := TX1) (N := 18) hx hb hts hinX1 hown hK hP 0 rfl rfl 9 (by decide) f81 (fun _ h9 => h9) rfl dX1_fitted_24 ?_
      refine lv_icmp_ge (tgt := 104) hx hb dX1_fitted_27 (by decide) (fun c27 => ?_) (fun c27 => ?_)
      · -- taken at 27
        have c27 : im ≤ k := (nI_leI (a := im) (b := k) (by omega) (by omega)).mp c27
        have hkn : im = k := by omega
        subst hkn
        have hb9 := fts_b hDb hJb hi8
        obtain ⟨g1, g2, -, -, -⟩ := fit_m hi8 hs hb9
        refine lv_lload_n hx hb dX1_fitted_104 rfl (lv_at hl 5 rfl) ?_
        refine lv_lload hx hb dX1_fitted_105 (lv_at hl 2 rfl) ?_
        refine lv_lmul hx hb dX1_fitted_107 ?_
        refine lv_lload hx hb dX1_fitted_108 (lv_at hl 4 rfl) ?_
        refine lv_lload hx hb dX1_fitted_110 (lv_at hl 4 rfl) ?_
        refine lv_lmul hx hb dX1_fitted_112 ?_
        refine lv_lsub hx hb dX1_fitted_113 ?_
        refine lv_lstore (lv' := [(13, .long ((((nI im).toInt64) * x3) - (x1 * x1))), (11, .long x4), (9, .long x3), (7, .long x2), (5, .long x1), (3, .long ((nI im).toInt64)), (0, .ref m9), (1, .int p1), (2, .int p2)]) hx hb dX1_fitted_114 hl (by decide) rfl (fun ls hl => ?_)
        have J143 : ∀ (ls : Array Slot), lv_has ls 17 [(13, .long ((nI im).toInt64 * x3 - x1 * x1)), (11, .long x4), (9, .long x3), (7, .long x2), (5, .long x1), (3, .long ((nI im).toInt64)), (0, .ref m9), (1, .int p1), (2, .int p2)] → W p l e (headSpec wsX1_fitted ({ frames := 1, cells := 0, slots := 0, locals := 31 })).room s m ([.ref m9, .int p1, .int p2] : List Value).toArray below meth c s.heap [] 0 0 (MQ below (va_Ql (fun r (u : Int64 × Int64) => kd4 (0 ≤ p2.toInt ∧ p2.toInt ≤ 1) (2 ≤ im ∧ 0 < ftb D im) (-200 ≤ p1.toInt ∧ p1.toInt ≤ 200) True = 0 → r.toInt = fr (ftu D J im p1.toInt) ((im : Int) * ftb D im) p2.toInt) (fun (u : Int64 × Int64) t => at_w dC dI cI A (wM m9 b1 b2 b3 b4 b5 b6 cI S F D J X Y (kd4 (0 ≤ p2.toInt ∧ p2.toInt ≤ 1) (2 ≤ im ∧ 0 < ftb D im) (-200 ≤ p1.toInt ∧ p1.toInt ≤ 200) True) n ar sl hd hu hw im tc fa u.1 u.2) t) A) ([.ref m9, .int p1, .int p2] : List Value).toArray s 0 0 A) (F0 m 143 ls [.int (bI (2 ≤ im ∧ 0 < ftb D im)), .int (bI (0 ≤ p2.toInt ∧ p2.toInt ≤ 1)), .ref m9]) := by
          intro ls hl
          refine lv_iload_n hx hb dX1_fitted_143 rfl (lv_at hl 7 rfl) ?_
          refine lv_sipush (v := (-200)) hx hb dX1_fitted_144 (by decide) ?_
          refine lv_sipush (v := 200) hx hb dX1_fitted_147 (by decide) ?_
          refine vp_callSi (W.runS (As := [.int p1, .int (-200), .int 200]) (rest := [.int (bI (2 ≤ im ∧ 0 < ftb D im)), .int (bI (0 ≤ p2.toInt ∧ p2.toInt ≤ 1)), .ref m9]) ⟨hx, hb, hml, hown, hts⟩ (c_X1_in l p1 (-200) 200 (-200) 200 (by decide) (by decide)) (va_cwS 3 hts (gS wl_X1_40 ws_X1_in wi_X1 wc_X1_in) rfl rfl rfl (by decide +kernel) ⟨Nat.le_of_ble_eq_true rfl, Nat.le_of_ble_eq_true rfl⟩) ⟨fun _ _ _ _ q => q, fun U hU hW => ⟨rfl, trivial⟩⟩ rfl rfl hl.1 rfl (lv_room (Nat.le_of_ble_eq_true rfl)) dX1_fitted_150 ⟨Nat.le_of_ble_eq_true rfl, Nat.le_of_ble_eq_true rfl⟩) (fun r150 h150 => ?_)
          subst h150
          refine lv_iconst (v := 1) hx hb dX1_fitted_153 (by decide) ?_
          have hFc := va_free (wc := (wM m9 b1 b2 b3 b4 b5 b6 cI S F D J X Y th n ar sl hd hu hw im tc fa up dn)) hD hS hA [0, 1, 2, 3, 4, 5, 6] rfl
          refine va_calli (va_runV (As := [.int (bI (0 ≤ p2.toInt ∧ p2.toInt ≤ 1)), .int (bI (2 ≤ im ∧ 0 < ftb D im)), .int (bI ((-200) ≤ p1.toInt ∧ p1.toInt ≤ 200)), .int 1]) (rest := []) ⟨hx, hb, hml, hown, hts⟩ (c_X1_goes l dC dI s.heap.size m9 b1 b2 b3 b4 b5 b6 cI S F D J X Y th n ar sl hd hu hw im tc fa up dn (0 ≤ p2.toInt ∧ p2.toInt ≤ 1) (2 ≤ im ∧ 0 < ftb D im) ((-200) ≤ p1.toInt ∧ p1.toInt ≤ 200) True) (cwV 4 hts (gV wl_X1_47 wi_X1_goes wv_X1_goes wi_X1 wc_X1_goes) rfl rfl rfl (by decide +kernel) ⟨Nat.le_of_ble_eq_true rfl, Nat.le_of_ble_eq_true rfl⟩) ⟨fun a U g mk q => ⟨q.1, q.2.1, q.2.2.1, va_K.moved (u := U) (U := U.calling g mk a) (Vm.Alike.refl U.vm) q.2.2.2.1, q.2.2.2.2⟩, va_recv hK hP (ci := 1) (q0 := 0) rfl rfl, fun U hU hW => ⟨rfl, by rw [hU], by rw [hU]; exact hP, va_K.moved hW.alike hK, hD.weaken (fun _ _ _ _ => trivial)⟩⟩ rfl rfl hl.1 rfl (lv_room (Nat.le_of_ble_eq_true rfl)) dX1_fitted_154 ⟨Nat.le_of_ble_eq_true rfl, Nat.le_of_ble_eq_true rfl⟩) hS (fun q _ h => hFc q h) hFc (fun r154 u154 t H1 locs ht hvm h154 hB hz1 hk1 hS => ?_)
          obtain ⟨hP1, hK1, hD1⟩ := hB
          rw [ht] at hP1
          obtain ⟨hP, hD⟩ := va_join (wr := []) (w1 := (wM m9 b1 b2 b3 b4 b5 b6 cI S F D J X Y (kd4 (0 ≤ p2.toInt ∧ p2.toInt ≤ 1) (2 ≤ im ∧ 0 < ftb D im) ((-200) ≤ p1.toInt ∧ p1.toInt ≤ 200) True) n ar sl hd hu hw im tc fa up dn)) hP hD [0, 1, 2, 3, 4, 5, 6] [] rfl rfl (by decide) (by decide) hk1 hFc hP1 hD1
          generalize H1 = H at hP hS ⊢
          have hP : va_P (dC, dI) vwCl (wM m9 b1 b2 b3 b4 b5 b6 cI S F D J X Y (kd4 (0 ≤ p2.toInt ∧ p2.toInt ≤ 1) (2 ≤ im ∧ 0 < ftb D im) ((-200) ≤ p1.toInt ∧ p1.toInt ≤ 200) True) n ar sl hd hu hw im tc fa up dn) H := hP
          have hD : va_D A (wM m9 b1 b2 b3 b4 b5 b6 cI S F D J X Y (kd4 (0 ≤ p2.toInt ∧ p2.toInt ≤ 1) (2 ≤ im ∧ 0 < ftb D im) ((-200) ≤ p1.toInt ∧ p1.toInt ≤ 200) True) n ar sl hd hu hw im tc fa up dn) := hD
          subst h154
          refine lv_if_ne (tgt := 162) hx hb dX1_fitted_157 (by decide) (fun c157 => ?_) (fun c157 => ?_)
          · -- taken at 157
            have c157 := bI_ne0.mp c157
            obtain ⟨e1, e2, e3, -⟩ := kd_z c157
            obtain ⟨k1, k2, k3, k4⟩ := fit_u hi8 e2 e3 hs hb9
            refine lv_lload_n hx hb dX1_fitted_162 rfl (lv_at hl 5 rfl) ?_
            refine lv_lload hx hb dX1_fitted_163 (lv_at hl 1 rfl) ?_
            refine lv_lmul hx hb dX1_fitted_165 ?_
            refine lv_lload hx hb dX1_fitted_166 (lv_at hl 4 rfl) ?_
            refine lv_lload hx hb dX1_fitted_168 (lv_at hl 3 rfl) ?_
            refine lv_lmul hx hb dX1_fitted_170 ?_
            refine lv_lsub hx hb dX1_fitted_171 ?_
            refine lv_lstore (lv' := [(15, .long ((((nI im).toInt64) * x4) - (x1 * x2))), (13, .long ((nI im).toInt64 * x3 - x1 * x1)), (11, .long x4), (9, .long x3), (7, .long x2), (5, .long x1), (3, .long ((nI im).toInt64)), (0, .ref m9), (1, .int p1), (2, .int p2)]) hx hb dX1_fitted_172 hl (by decide) rfl (fun ls hl => ?_)
            refine lv_aload_n hx hb dX1_fitted_174 rfl (lv_at hl 7 rfl) ?_
            refine lv_lload hx hb dX1_fitted_175 (lv_at hl 4 rfl) ?_
            refine lv_lload hx hb dX1_fitted_177 (lv_at hl 1 rfl) ?_
            refine lv_lmul hx hb dX1_fitted_179 ?_
            refine lv_lload hx hb dX1_fitted_180 (lv_at hl 0 rfl) ?_
            refine lv_lload hx hb dX1_fitted_182 (lv_at hl 5 rfl) ?_
            refine lv_lmul hx hb dX1_fitted_184 ?_
            refine lv_lsub hx hb dX1_fitted_185 ?_
            refine lv_lload hx hb dX1_fitted_186 (lv_at hl 0 rfl) ?_
            refine lv_iload_n hx hb dX1_fitted_188 rfl (lv_at hl 8 rfl) ?_
            refine lv_i2l hx hb dX1_fitted_189 rfl ?_
            refine lv_lmul hx hb dX1_fitted_190 ?_
            refine lv_lload_n hx hb dX1_fitted_191 rfl (lv_at hl 6 rfl) ?_
            refine lv_lmul hx hb dX1_fitted_192 ?_
            refine lv_ladd hx hb dX1_fitted_193 ?_
            refine lv_lload_n hx hb dX1_fitted_194 rfl (lv_at hl 6 rfl) ?_
            refine lv_lload hx hb dX1_fitted_195 (lv_at hl 1 rfl) ?_
            refine lv_lmul hx hb dX1_fitted_197 ?_
            refine lv_iload_n hx hb dX1_fitted_198 rfl (lv_at hl 9 rfl) ?_
            have hFc := va_free (wc := (wM m9 b1 b2 b3 b4 b5 b6 cI S F D J X Y (kd4 (0 ≤ p2.toInt ∧ p2.toInt ≤ 1) (2 ≤ im ∧ 0 < ftb D im) ((-200) ≤ p1.toInt ∧ p1.toInt ≤ 200) True) n ar sl hd hu hw im tc fa up dn)) hD hS hA [0, 1, 2, 3, 4, 5, 6] rfl
            refine va_calll (va_runV (As := [.long (((x2 * ((nI im).toInt64 * x3 - x1 * x1)) - (((((nI im).toInt64) * x4) - (x1 * x2)) * x1)) + ((((((nI im).toInt64) * x4) - (x1 * x2)) * p1.toInt64) * ((nI im).toInt64))), .long (((nI im).toInt64) * ((nI im).toInt64 * x3 - x1 * x1)), .int p2]) (rest := []) ⟨hx, hb, hml, hown, hts⟩ (c_X1_part l dC dI H.size m9 b1 b2 b3 b4 b5 b6 cI S F D J X Y (kd4 (0 ≤ p2.toInt ∧ p2.toInt ≤ 1) (2 ≤ im ∧ 0 < ftb D im) ((-200) ≤ p1.toInt ∧ p1.toInt ≤ 200) True) n ar sl hd hu hw im tc fa up dn (((x2 * ((nI im).toInt64 * x3 - x1 * x1)) - (((((nI im).toInt64) * x4) - (x1 * x2)) * x1)) + ((((((nI im).toInt64) * x4) - (x1 * x2)) * p1.toInt64) * ((nI im).toInt64))) (((nI im).toInt64) * ((nI im).toInt64 * x3 - x1 * x1)) p2 k3 k4) (cwV 3 hts (gV wl_X1_57 wi_X1_part wv_X1_part wi_X1 wc_X1_part) rfl rfl rfl (by decide +kernel) ⟨Nat.le_of_ble_eq_true rfl, Nat.le_of_ble_eq_true rfl⟩) ⟨fun a U g mk q => ⟨q.1, q.2.1, q.2.2.1, va_K.moved (u := U) (U := U.calling g mk a) (Vm.Alike.refl U.vm) q.2.2.2.1, q.2.2.2.2⟩, va_recv hK hP (ci := 1) (q0 := 0) rfl rfl, fun U hU hW => ⟨rfl, by rw [hU], by rw [hU]; exact hP, va_K.moved hW.alike hK, hD.weaken (fun _ _ _ _ => trivial)⟩⟩ rfl rfl hl.1 rfl (lv_room (Nat.le_of_ble_eq_true rfl)) dX1_fitted_199 ⟨Nat.le_of_ble_eq_true rfl, Nat.le_of_ble_eq_true rfl⟩) hS (fun q _ h => hFc q h) hFc (fun r199 u199 t H1 locs ht hvm h199 hB hz1 hk1 hS => ?_)
            obtain ⟨hP1, hK1, hD1⟩ := hB
            rw [ht] at hP1
            obtain ⟨hP, hD⟩ := va_join (wr := []) (w1 := (wM m9 b1 b2 b3 b4 b5 b6 cI S F D J X Y (kd4 (0 ≤ p2.toInt ∧ p2.toInt ≤ 1) (2 ≤ im ∧ 0 < ftb D im) ((-200) ≤ p1.toInt ∧ p1.toInt ≤ 200) True) n ar sl hd hu hw im tc fa u199.1 u199.2)) hP hD [0, 1, 2, 3, 4, 5, 6] [] rfl rfl (by decide) (by decide) hk1 hFc hP1 hD1
            generalize H1 = H at hP hS ⊢
            have hP : va_P (dC, dI) vwCl (wM m9 b1 b2 b3 b4 b5 b6 cI S F D J X Y (kd4 (0 ≤ p2.toInt ∧ p2.toInt ≤ 1) (2 ≤ im ∧ 0 < ftb D im) ((-200) ≤ p1.toInt ∧ p1.toInt ≤ 200) True) n ar sl hd hu hw im tc fa u199.1 u199.2) H := hP
            have hD : va_D A (wM m9 b1 b2 b3 b4 b5 b6 cI S F D J X Y (kd4 (0 ≤ p2.toInt ∧ p2.toInt ≤ 1) (2 ≤ im ∧ 0 < ftb D im) ((-200) ≤ p1.toInt ∧ p1.toInt ≤ 200) True) n ar sl hd hu hw im tc fa u199.1 u199.2) := hD
            exact W.lret (v := r199) hx hb hr (fun t ht hW => ⟨⟨r199, (u199.1, u199.2), rfl, fun _ => sl_r k1 k2 h199.1, ⟨by rw [ht]; exact hP, va_K.moved hW.alike hK, hD⟩⟩, hS.F ht⟩) hS.2.2 dX1_fitted_202
          · -- not taken at 157
            have c157 := bI_eq0.mp c157
            refine lv_lconst (v := 0) hx hb dX1_fitted_160 (by decide) ?_
            exact W.lret (v := 0) hx hb hr (fun t ht hW => ⟨⟨0, (up, dn), rfl, fun q => absurd q c157, ⟨by rw [ht]; exact hP, va_K.moved hW.alike hK, hD⟩⟩, hS.F ht⟩) hS.2.2 dX1_fitted_161
        refine lv_aload_n hx hb dX1_fitted_116 rfl (lv_at hl 6 rfl) ?_
        refine lv_iload_n hx hb dX1_fitted_117 rfl (lv_at hl 8 rfl) ?_
        refine lv_iconst (v := 0) hx hb dX1_fitted_118 (by decide) ?_
        refine lv_iconst (v := 1) hx hb dX1_fitted_119 (by decide) ?_
        refine vp_callSi (W.runS (As := [.int p2, .int 0, .int 1]) (rest := [.ref m9]) ⟨hx, hb, hml, hown, hts⟩ (c_X1_in l p2 0 1 0 1 (by decide) (by decide)) (va_cwS 3 hts (gS wl_X1_40 ws_X1_in wi_X1 wc_X1_in) rfl rfl rfl (by decide +kernel) ⟨Nat.le_of_ble_eq_true rfl, Nat.le_of_ble_eq_true rfl⟩) ⟨fun _ _ _ _ q => q, fun U hU hW => ⟨rfl, trivial⟩⟩ rfl rfl hl.1 rfl (lv_room (Nat.le_of_ble_eq_true rfl)) dX1_fitted_120 ⟨Nat.le_of_ble_eq_true rfl, Nat.le_of_ble_eq_true rfl⟩) (fun r120 h120 => ?_)
        subst h120
        refine lv_lload_n hx hb dX1_fitted_123 rfl (lv_at hl 5 rfl) ?_
        refine lv_ldc2 (v := 2) hx hb hown k84 dX1_fitted_124 ?_
        refine W.lcmp hx hb dX1_fitted_127 ?_
        refine lv_if_lt (tgt := 142) hx hb dX1_fitted_128 (by decide) (fun c128 => ?_) (fun c128 => ?_)
        · -- taken at 128
          have c128 := (lg_cmp_lt _ _).mp c128
          have c128 : ((nI im).toInt64).toInt < 2 := (Int64.lt_iff_toInt_lt).mp c128
          refine lv_iconst (v := 0) hx hb dX1_fitted_142 (by decide) ?_
          refine W.eq (congrArg (fun z => F0 m 143 ls (.int z :: [.int (bI (0 ≤ p2.toInt ∧ p2.toInt ≤ 1)), .ref m9])) ((bI_0 (c := 2 ≤ im ∧ 0 < ftb D im) (by omega)).symm)) ?_
          exact J143 ls (lv_sub hl [0, 1, 2, 3, 4, 5, 6, 7, 8] rfl)
        · -- not taken at 128
          have c128 := fun q9 => c128 ((lg_cmp_lt _ _).mpr q9)
          have c128 : ¬ ((nI im).toInt64).toInt < 2 := fun q9 => c128 ((Int64.lt_iff_toInt_lt).mpr q9)
          refine lv_lload hx hb dX1_fitted_131 (lv_at hl 0 rfl) ?_
          refine lv_lconst (v := 0) hx hb dX1_fitted_133 (by decide) ?_
          refine W.lcmp hx hb dX1_fitted_134 ?_
          refine lv_if_le (tgt := 142) hx hb dX1_fitted_135 (by decide) (fun c135 => ?_) (fun c135 => ?_)
          · -- taken at 135
            have c135 := (lg_cmp_le _ _).mp c135
            have c135 : ((((nI im).toInt64) * x3) - (x1 * x1)).toInt ≤ 0 := (Int64.le_iff_toInt_le).mp c135
            refine lv_iconst (v := 0) hx hb dX1_fitted_142 (by decide) ?_
            refine W.eq (congrArg (fun z => F0 m 143 ls (.int z :: [.int (bI (0 ≤ p2.toInt ∧ p2.toInt ≤ 1)), .ref m9])) ((bI_0 (c := 2 ≤ im ∧ 0 < ftb D im) (by omega)).symm)) ?_
            exact J143 ls (lv_sub hl [0, 1, 2, 3, 4, 5, 6, 7, 8] rfl)
          · -- not taken at 135
            have c135 := fun q9 => c135 ((lg_cmp_le _ _).mpr q9)
            have c135 : ¬ ((((nI im).toInt64) * x3) - (x1 * x1)).toInt ≤ 0 := fun q9 => c135 ((Int64.le_iff_toInt_le).mpr q9)
            refine lv_iconst (v := 1) hx hb dX1_fitted_138 (by decide) ?_
            refine lv_goto (tgt := 143) hx hb dX1_fitted_139 (by decide) ?_
            refine W.eq (congrArg (fun z => F0 m 143 ls (.int z :: [.int (bI (0 ≤ p2.toInt ∧ p2.toInt ≤ 1)), .ref m9])) ((bI_1 (c := 2 ≤ im ∧ 0 < ftb D im) (by omega)).symm)) ?_
            exact J143 ls (lv_sub hl [0, 1, 2, 3, 4, 5, 6, 7, 8] rfl)
      · -- not taken at 27
        have c27 : ¬ im ≤ k := fun q9 => c27 ((nI_leI (a := im) (b := k) (by omega) (by omega)).mpr q9)
        have hb9 := fts_b (fun j hj => hDb j (by omega)) (fun j hj => hJb j (by omega)) (show k ≤ 8 by omega)
        refine lv_lload hx hb dX1_fitted_30 (lv_at hl 4 rfl) ?_
        refine lv_aload_n hx hb dX1_fitted_32 rfl (lv_at hl 6 rfl) ?_
        refine va_get (D := (dC, dI)) (ci := 1) (v := .ref b3) (C := RX1) (T := TX1) (N := 18) hx hb hts hinX1 hown hK hP 0 rfl rfl 10 (by decide) f16 (fun _ h9 => h9) rfl dX1_fitted_33 ?_
        refine lv_iload hx hb dX1_fitted_36 (lv_at hl 0 rfl) ?_
        refine va_iald (D := (dC, dI)) hx hb hK hP 3 0 rfl rfl (vp_in_nI (show k < 8 by omega) (by decide)) dX1_fitted_38 ?_
        refine W.eq (congrArg (fun z => F0 m 39 ls (.int z :: [.long x1])) (congrArg D (nI_clamp (show k < 2 ^ 31 by omega)))) ?_
        refine lv_i2l hx hb dX1_fitted_39 rfl ?_
        refine lv_ladd hx hb dX1_fitted_40 ?_
        refine lv_lstore (lv' := [(5, .long (x1 + ((D k).toInt64))), (13, .int (nI k)), (11, .long x4), (9, .long x3), (7, .long x2), (3, .long ((nI im).toInt64)), (0, .ref m9), (1, .int p1), (2, .int p2)]) hx hb dX1_fitted_41 hl (by decide) rfl (fun ls hl => ?_)
        refine lv_lload hx hb dX1_fitted_43 (lv_at hl 4 rfl) ?_
        refine lv_aload_n hx hb dX1_fitted_45 rfl (lv_at hl 6 rfl) ?_
        refine va_get (D := (dC, dI)) (ci := 1) (v := .ref b4) (C := RX1) (T := TX1) (N := 18) hx hb hts hinX1 hown hK hP 0 rfl rfl 11 (by decide) f19 (fun _ h9 => h9) rfl dX1_fitted_46 ?_
        refine lv_iload hx hb dX1_fitted_49 (lv_at hl 1 rfl) ?_
        refine va_iald (D := (dC, dI)) hx hb hK hP 4 0 rfl rfl (vp_in_nI (show k < 8 by omega) (by decide)) dX1_fitted_51 ?_
        refine W.eq (congrArg (fun z => F0 m 52 ls (.int z :: [.long x2])) (congrArg J (nI_clamp (show k < 2 ^ 31 by omega)))) ?_
        refine lv_i2l hx hb dX1_fitted_52 rfl ?_
        refine lv_ladd hx hb dX1_fitted_53 ?_
        refine lv_lstore (lv' := [(7, .long (x2 + ((J k).toInt64))), (5, .long (x1 + ((D k).toInt64))), (13, .int (nI k)), (11, .long x4), (9, .long x3), (3, .long ((nI im).toInt64)), (0, .ref m9), (1, .int p1), (2, .int p2)]) hx hb dX1_fitted_54 hl (by decide) rfl (fun ls hl => ?_)
        refine lv_lload hx hb dX1_fitted_56 (lv_at hl 4 rfl) ?_
        refine lv_aload_n hx hb dX1_fitted_58 rfl (lv_at hl 6 rfl) ?_
        refine va_get (D := (dC, dI)) (ci := 1) (v := .ref b3) (C := RX1) (T := TX1) (N := 18) hx hb hts hinX1 hown hK hP 0 rfl rfl 10 (by decide) f16 (fun _ h9 => h9) rfl dX1_fitted_59 ?_
        refine lv_iload hx hb dX1_fitted_62 (lv_at hl 2 rfl) ?_
        refine va_iald (D := (dC, dI)) hx hb hK hP 3 0 rfl rfl (vp_in_nI (show k < 8 by omega) (by decide)) dX1_fitted_64 ?_
        refine W.eq (congrArg (fun z => F0 m 65 ls (.int z :: [.long x3])) (congrArg D (nI_clamp (show k < 2 ^ 31 by omega)))) ?_
        refine lv_aload_n hx hb dX1_fitted_65 rfl (lv_at hl 6 rfl) ?_
        refine va_get (D := (dC, dI)) (ci := 1) (v := .ref b3) (C := RX1) (T := TX1) (N := 18) hx hb hts hinX1 hown hK hP 0 rfl rfl 10 (by decide) f16 (fun _ h9 => h9) rfl dX1_fitted_66 ?_
        refine lv_iload hx hb dX1_fitted_69 (lv_at hl 2 rfl) ?_
        refine va_iald (D := (dC, dI)) hx hb hK hP 3 0 rfl rfl (vp_in_nI (show k < 8 by omega) (by decide)) dX1_fitted_71 ?_
        refine W.eq (congrArg (fun z => F0 m 72 ls (.int z :: [.int (D k), .long x3])) (congrArg D (nI_clamp (show k < 2 ^ 31 by omega)))) ?_
        refine lv_imul hx hb dX1_fitted_72 ?_
        refine lv_i2l hx hb dX1_fitted_73 rfl ?_
        refine lv_ladd hx hb dX1_fitted_74 ?_
        refine lv_lstore (lv' := [(9, .long (x3 + (((D k) * (D k)).toInt64))), (7, .long (x2 + ((J k).toInt64))), (5, .long (x1 + ((D k).toInt64))), (13, .int (nI k)), (11, .long x4), (3, .long ((nI im).toInt64)), (0, .ref m9), (1, .int p1), (2, .int p2)]) hx hb dX1_fitted_75 hl (by decide) rfl (fun ls hl => ?_)
        refine lv_lload hx hb dX1_fitted_77 (lv_at hl 4 rfl) ?_
        refine lv_aload_n hx hb dX1_fitted_79 rfl (lv_at hl 6 rfl) ?_
        refine va_get (D := (dC, dI)) (ci := 1) (v := .ref b3) (C := RX1) (T := TX1) (N := 18) hx hb hts hinX1 hown hK hP 0 rfl rfl 10 (by decide) f16 (fun _ h9 => h9) rfl dX1_fitted_80 ?_
        refine lv_iload hx hb dX1_fitted_83 (lv_at hl 3 rfl) ?_
        refine va_iald (D := (dC, dI)) hx hb hK hP 3 0 rfl rfl (vp_in_nI (show k < 8 by omega) (by decide)) dX1_fitted_85 ?_
        refine W.eq (congrArg (fun z => F0 m 86 ls (.int z :: [.long x4])) (congrArg D (nI_clamp (show k < 2 ^ 31 by omega)))) ?_
        refine lv_aload_n hx hb dX1_fitted_86 rfl (lv_at hl 6 rfl) ?_
        refine va_get (D := (dC, dI)) (ci := 1) (v := .ref b4) (C := RX1) (T := TX1) (N := 18) hx hb hts hinX1 hown hK hP 0 rfl rfl 11 (by decide) f19 (fun _ h9 => h9) rfl dX1_fitted_87 ?_
        refine lv_iload hx hb dX1_fitted_90 (lv_at hl 3 rfl) ?_
        refine va_iald (D := (dC, dI)) hx hb hK hP 4 0 rfl rfl (vp_in_nI (show k < 8 by omega) (by decide)) dX1_fitted_92 ?_
        refine W.eq (congrArg (fun z => F0 m 93 ls (.int z :: [.int (D k), .long x4])) (congrArg J (nI_clamp (show k < 2 ^ 31 by omega)))) ?_
        refine lv_imul hx hb dX1_fitted_93 ?_
        refine lv_i2l hx hb dX1_fitted_94 rfl ?_
        refine lv_ladd hx hb dX1_fitted_95 ?_
        refine lv_lstore (lv' := [(11, .long (x4 + (((D k) * (J k)).toInt64))), (9, .long (x3 + (((D k) * (D k)).toInt64))), (7, .long (x2 + ((J k).toInt64))), (5, .long (x1 + ((D k).toInt64))), (13, .int (nI k)), (3, .long ((nI im).toInt64)), (0, .ref m9), (1, .int p1), (2, .int p2)]) hx hb dX1_fitted_96 hl (by decide) rfl (fun ls hl => ?_)
        refine lv_iinc (v := nI (k + 1)) (lv' := [(13, .int (nI (k + 1))), (11, .long (x4 + (((D k) * (J k)).toInt64))), (9, .long (x3 + (((D k) * (D k)).toInt64))), (7, .long (x2 + ((J k).toInt64))), (5, .long (x1 + ((D k).toInt64))), (3, .long ((nI im).toInt64)), (0, .ref m9), (1, .int p1), (2, .int p2)]) hx hb dX1_fitted_98 hl (k := 4) rfl ((nI_succ _).symm) (by decide) rfl (fun ls hl => ?_)
        refine lv_goto (tgt := 21) hx hb dX1_fitted_101 (by decide) ?_
        exact ih (k + 1) (x1 + ((D k).toInt64)) (x2 + ((J k).toInt64)) (x3 + (((D k) * (D k)).toInt64)) (x4 + (((D k) * (J k)).toInt64)) ls (by omega) (by omega) (fts_s hs (by omega) (hDb k (by omega)) (hJb k (by omega)) hb9) (lv_sub hl [0, 1, 2, 3, 4, 5, 6, 7, 8] rfl)
  refine lv_aload_n hx hb dX1_fitted_0 rfl (lv_at hl 0 rfl) ?_
  refine va_get (D := (dC, dI)) (ci := 1) (v := .int (nI im)) (C := RX1) (T := TX1) (N := 18) hx hb hts hinX1 hown hK hP 0 rfl rfl 9 (by decide) f81 (fun _ h9 => h9) rfl dX1_fitted_1 ?_
  refine lv_i2l hx hb dX1_fitted_4 rfl ?_
  refine lv_lstore_n (lv' := [(3, .long ((nI im).toInt64)), (0, .ref m9), (1, .int p1), (2, .int p2)]) hx hb dX1_fitted_5 rfl hl (by decide) rfl (fun ls hl => ?_)
  refine lv_lconst (v := 0) hx hb dX1_fitted_6 (by decide) ?_
  refine lv_lstore (lv' := [(5, .long 0), (3, .long ((nI im).toInt64)), (0, .ref m9), (1, .int p1), (2, .int p2)]) hx hb dX1_fitted_7 hl (by decide) rfl (fun ls hl => ?_)
  refine lv_lconst (v := 0) hx hb dX1_fitted_9 (by decide) ?_
  refine lv_lstore (lv' := [(7, .long 0), (5, .long 0), (3, .long ((nI im).toInt64)), (0, .ref m9), (1, .int p1), (2, .int p2)]) hx hb dX1_fitted_10 hl (by decide) rfl (fun ls hl => ?_)
  refine lv_lconst (v := 0) hx hb dX1_fitted_12 (by decide) ?_
  refine lv_lstore (lv' := [(9, .long 0), (7, .long 0), (5, .long 0), (3, .long ((nI im).toInt64)), (0, .ref m9), (1, .int p1), (2, .int p2)]) hx hb dX1_fitted_13 hl (by decide) rfl (fun ls hl => ?_)
  refine lv_lconst (v := 0) hx hb dX1_fitted_15 (by decide) ?_
  refine lv_lstore (lv' := [(11, .long 0), (9, .long 0), (7, .long 0), (5, .long 0), (3, .long ((nI im).toInt64)), (0, .ref m9), (1, .int p1), (2, .int p2)]) hx hb dX1_fitted_16 hl (by decide) rfl (fun ls hl => ?_)
  refine lv_iconst (v := 0) hx hb dX1_fitted_18 (by decide) ?_
  refine lv_istore (lv' := [(13, .int 0), (11, .long 0), (9, .long 0), (7, .long 0), (5, .long 0), (3, .long ((nI im).toInt64)), (0, .ref m9), (1, .int p1), (2, .int p2)]) hx hb dX1_fitted_19 hl (by decide) rfl (fun ls hl => ?_)
  exact L21 (im + 1) 0 0 0 0 0 ls (by omega) (Nat.zero_le _) fts_0 (lv_sub hl [0, 1, 2, 3, 4, 5, 6, 7, 8] rfl)
