set_option maxHeartbeats 8000000 in
set_option maxRecDepth 100000 in
/-- THE LAW, from its entry -/
theorem whole_start {p : Program} {e : Env} {s : State} {m : MethodId} {below : List Frame} {meth : Method} {c : Code} (l : Launch) (hst : l.stackTraces = false) {b L : Nat} {xs : Nat → Int32} (hL : L ≤ 3072) (C0 : lw_At p s m meth c b L xs) : W p l e room_1 s m #[Value.ref b] below meth c s.heap [] 0 0 (lw_Z below #[Value.ref b] s) (entryFrame m ([Value.ref b] : List Value).toArray 8) := by
  obtain ⟨hx, hb, hr, hml, hown, hts, hX, hbl, hlocks, hgv⟩ := id C0
  have hA : ∀ q : Nat, s.heap.size ≤ q → (fun q : Nat => s.heap.size ≤ q) q := fun _ h => h
  obtain ⟨sa, hG⟩ := gl_start hts hgv
  obtain ⟨c0, iS0, hKn0⟩ := u_known (C := RX0) (T := TX0) (N := 16) (n := 16) hts (fun w h => tb (inX0 w h)) (hts _ (tb w_nX0))
  obtain ⟨c1, iS1, hKn1⟩ := u_known (C := RX1) (T := TX1) (N := 18) (n := 18) hts (fun w h => tb (inX1 w h)) (hts _ (tb w_nX1))
  obtain ⟨dC, dI, hKc⟩ : ∃ (dC : Nat → ClassId) (dI : Nat → Nat → Nat), ∀ (k : Nat) (q : vw_C), vwCl[k]? = some q → u_Kn s q.1 q.2.1 q.2.2 (dC k) (dI k) := by
    refine ⟨fun k => if k = 0 then c0 else c1, fun k => if k = 0 then iS0 else iS1, ?_⟩
    intro k q hq
    match k, hq with
    | 0, hq => cases hq; exact hKn0
    | 1, hq => cases hq; exact hKn1
    | k + 2, hq => simp [vwCl] at hq
  have hS : va_S (fun q : Nat => s.heap.size ≤ q) s.heap s.heap [] := va_S.rf
  have hK : va_K (dC, dI) vwCl [] s := ⟨hKc, fun k q h => by simp at h⟩
  have hP : va_P (dC, dI) vwCl [] s.heap := nil_P
  have hD : va_D (fun q : Nat => s.heap.size ≤ q) [] := nil_D
  have hl := lv_entry ([.ref b]) (n := 8) (Nat.le_of_ble_eq_true rfl)
  rw [lg_entry_eq]
  generalize (lg_sl ([.ref b]) ++ List.replicate (8 - (lg_sl ([.ref b])).length) Slot.unset).toArray = ls at hl ⊢
  have hl : lv_has ls 8 [(0, .ref b)] := hl
  refine va_new (D := (dC, dI)) (ci := 0) (fs := [.null, .null, .int 0, .int 0, .int 0, .long 0, .long 0, .int 0, .int 0, .long 0, .long 0, .long 0, .long 0, .null, .null, .int 0]) (C := RX0) (T := TX0) (N := 16) hx hb hts (fun w h => tb (inX0 w h)) tyX0 tyX0_ok hown (hts _ (tb wl_L_8)) (hts _ (tb w_nX0)) (hts _ (tb wi_X0)) hK hP hD hS hA rfl (by decide +kernel) (Nat.le_of_ble_eq_true rfl) (Nat.le_of_ble_eq_true rfl) dL_law_0 (fun x H hP hD hS => ?_)
  have hP : va_P (dC, dI) vwCl [(x, .inr (0, [.null, .null, .int 0, .int 0, .int 0, .long 0, .long 0, .int 0, .int 0, .long 0, .long 0, .long 0, .long 0, .null, .null, .int 0]))] H := hP
  have hD : va_D (fun q : Nat => s.heap.size ≤ q) [(x, .inr (0, [.null, .null, .int 0, .int 0, .int 0, .long 0, .long 0, .int 0, .int 0, .long 0, .long 0, .long 0, .long 0, .null, .null, .int 0]))] := hD
  refine W.widen (k := 1) (n := 16) (Nat.le_of_ble_eq_true rfl) (Nat.le_of_ble_eq_true rfl) ?_
  refine lv_dup hx hb dL_law_3 rfl ?_
  have hPc := hP.sub (ws' := [(x, .inr (0, [.null, .null, .int 0, .int 0, .int 0, .long 0, .long 0, .int 0, .int 0, .long 0, .long 0, .long 0, .long 0, .null, .null, .int 0]))]) [0] rfl
  have hDc := hD.sub (ws' := [(x, .inr (0, [.null, .null, .int 0, .int 0, .int 0, .long 0, .long 0, .int 0, .int 0, .long 0, .long 0, .long 0, .long 0, .null, .null, .int 0]))]) [0] (by decide) rfl
  have hKc2 := hK.sub (tys' := []) [] rfl
  have hFc := va_free (wc := [(x, .inr (0, [.null, .null, .int 0, .int 0, .int 0, .long 0, .long 0, .int 0, .int 0, .long 0, .long 0, .long 0, .long 0, .null, .null, .int 0]))]) hD hS hA [0] rfl
  refine va_callv (va_runI (As := []) (rest := [.ref x]) ⟨hx, hb, hml, hown, hts⟩ (c_X0_init l dC dI H.size x) (cwI 0 hts (gC0 wc_X0_init) rfl rfl rfl (hts _ (tb wi_X0)) (hts _ (tb wl_L_60)) (hts _ (tb wi_X0_init)) rfl (by decide +kernel) ⟨Nat.le_of_ble_eq_true rfl, Nat.le_of_ble_eq_true rfl⟩) ⟨fun a U g mk q => ⟨q.1, q.2.1, q.2.2.1, va_K.moved (u := U) (U := U.calling g mk a) (Vm.Alike.refl U.vm) q.2.2.2.1, q.2.2.2.2⟩, fun U hU hW => ⟨rfl, by rw [hU], by rw [hU]; exact hPc, va_K.moved hW.alike hKc2, hDc.weaken (fun _ _ _ _ => trivial)⟩⟩ rfl rfl hl.1 rfl (lv_room (Nat.le_of_ble_eq_true rfl)) dL_law_4 ⟨Nat.le_of_ble_eq_true rfl, Nat.le_of_ble_eq_true rfl⟩) hS (fun q _ h => hFc q h) hFc (fun u t H1 locs ht hvm hw hB hz1 hk1 hS => ?_)
  obtain ⟨⟨a1, a2, a3, a4⟩, cI⟩ := u
  obtain ⟨hP1, hK1, hD1⟩ := hB
  rw [ht] at hP1
  have hK1 := va_K.moved hvm.symm hK1
  obtain ⟨hP, hD⟩ := va_join (wr := []) (w1 := (wX x a1 a2 a3 a4 cI (fun _ => 0) (fun _ => 0) (fun _ => 0) (fun _ => 0) 0 0 0 0 0 0 0 0 0 0 0 0)) hP hD [0] [] rfl rfl (by decide) (by decide) hk1 hFc hP1 hD1
  generalize H1 = H at hP hS ⊢
  have hP : va_P (dC, dI) vwCl (wX x a1 a2 a3 a4 cI (fun _ => 0) (fun _ => 0) (fun _ => 0) (fun _ => 0) 0 0 0 0 0 0 0 0 0 0 0 0) H := hP
  have hD : va_D (fun q : Nat => s.heap.size ≤ q) (wX x a1 a2 a3 a4 cI (fun _ => 0) (fun _ => 0) (fun _ => 0) (fun _ => 0) 0 0 0 0 0 0 0 0 0 0 0 0) := hD
  refine W.widen (k := 5) (n := 112) (Nat.le_of_ble_eq_true rfl) (Nat.le_of_ble_eq_true rfl) ?_
  have hK : va_K (dC, dI) vwCl [(cI, .int)] s := hK1
  refine lv_astore_n (lv' := [(1, .ref x), (0, .ref b)]) hx hb dL_law_7 rfl hl (by decide) rfl (fun ls hl => ?_)
  refine va_new (D := (dC, dI)) (ci := 1) (fs := [.int 0, .int 0, .null, .null, .int 0, .int 0, .int 0, .long 0, .long 0, .int 0, .null, .null, .int 0, .null, .null, .int 0, .long 0, .long 0]) (C := RX1) (T := TX1) (N := 18) hx hb hts (fun w h => tb (inX1 w h)) tyX1 tyX1_ok hown (hts _ (tb wl_L_61)) (hts _ (tb w_nX1)) (hts _ (tb wi_X1)) hK hP hD hS hA rfl (by decide +kernel) (Nat.le_of_ble_eq_true rfl) (Nat.le_of_ble_eq_true rfl) dL_law_8 (fun m9 H hP hD hS => ?_)
  have hP : va_P (dC, dI) vwCl ((wX x a1 a2 a3 a4 cI (fun _ => 0) (fun _ => 0) (fun _ => 0) (fun _ => 0) 0 0 0 0 0 0 0 0 0 0 0 0) ++ [(m9, .inr (1, [.int 0, .int 0, .null, .null, .int 0, .int 0, .int 0, .long 0, .long 0, .int 0, .null, .null, .int 0, .null, .null, .int 0, .long 0, .long 0]))]) H := hP
  have hD : va_D (fun q : Nat => s.heap.size ≤ q) ((wX x a1 a2 a3 a4 cI (fun _ => 0) (fun _ => 0) (fun _ => 0) (fun _ => 0) 0 0 0 0 0 0 0 0 0 0 0 0) ++ [(m9, .inr (1, [.int 0, .int 0, .null, .null, .int 0, .int 0, .int 0, .long 0, .long 0, .int 0, .null, .null, .int 0, .null, .null, .int 0, .long 0, .long 0]))]) := hD
  refine W.widen (k := 6) (n := 130) (Nat.le_of_ble_eq_true rfl) (Nat.le_of_ble_eq_true rfl) ?_
  refine lv_dup hx hb dL_law_11 rfl ?_
  have hPc := hP.sub (ws' := [(m9, .inr (1, [.int 0, .int 0, .null, .null, .int 0, .int 0, .int 0, .long 0, .long 0, .int 0, .null, .null, .int 0, .null, .null, .int 0, .long 0, .long 0]))]) [5] rfl
  have hDc := hD.sub (ws' := [(m9, .inr (1, [.int 0, .int 0, .null, .null, .int 0, .int 0, .int 0, .long 0, .long 0, .int 0, .null, .null, .int 0, .null, .null, .int 0, .long 0, .long 0]))]) [5] (by decide) rfl
  have hKc2 := hK.sub (tys' := []) [] rfl
  have hFc := va_free (wc := [(m9, .inr (1, [.int 0, .int 0, .null, .null, .int 0, .int 0, .int 0, .long 0, .long 0, .int 0, .null, .null, .int 0, .null, .null, .int 0, .long 0, .long 0]))]) hD hS hA [5] rfl
  refine va_callv (va_runI (As := []) (rest := [.ref m9]) ⟨hx, hb, hml, hown, hts⟩ (c_X1_init l dC dI H.size m9) (cwI 0 hts (gC0 wc_X1_init) rfl rfl rfl (hts _ (tb wi_X1)) (hts _ (tb wl_L_63)) (hts _ (tb wi_X1_init)) rfl (by decide +kernel) ⟨Nat.le_of_ble_eq_true rfl, Nat.le_of_ble_eq_true rfl⟩) ⟨fun a U g mk q => ⟨q.1, q.2.1, q.2.2.1, va_K.moved (u := U) (U := U.calling g mk a) (Vm.Alike.refl U.vm) q.2.2.2.1, q.2.2.2.2⟩, fun U hU hW => ⟨rfl, by rw [hU], by rw [hU]; exact hPc, va_K.moved hW.alike hKc2, hDc.weaken (fun _ _ _ _ => trivial)⟩⟩ rfl rfl hl.1 rfl (lv_room (Nat.le_of_ble_eq_true rfl)) dL_law_12 ⟨Nat.le_of_ble_eq_true rfl, Nat.le_of_ble_eq_true rfl⟩) hS (fun q _ h => hFc q h) hFc (fun u t H1 locs ht hvm hw hB hz1 hk1 hS => ?_)
  obtain ⟨⟨b1, b2, b3, b4, b5, b6⟩, cI2⟩ := u
  obtain ⟨hP1, hK1, hD1⟩ := hB
  rw [ht] at hP1
  have hK1 := va_K.moved hvm.symm hK1
  obtain ⟨hP, hD⟩ := va_join (wr := (wX x a1 a2 a3 a4 cI (fun _ => 0) (fun _ => 0) (fun _ => 0) (fun _ => 0) 0 0 0 0 0 0 0 0 0 0 0 0)) (w1 := (wM m9 b1 b2 b3 b4 b5 b6 cI2 (fun _ => 0) (fun _ => 0) (fun _ => 0) (fun _ => 0) (fun _ => 0) (fun _ => 0) 0 0 0 0 0 0 0 0 0 0 0 0)) hP hD [5] [0, 1, 2, 3, 4] rfl rfl (by decide) (by decide) hk1 hFc hP1 hD1
  generalize H1 = H at hP hS ⊢
  have hP : va_P (dC, dI) vwCl ((wX x a1 a2 a3 a4 cI (fun _ => 0) (fun _ => 0) (fun _ => 0) (fun _ => 0) 0 0 0 0 0 0 0 0 0 0 0 0) ++ (wM m9 b1 b2 b3 b4 b5 b6 cI2 (fun _ => 0) (fun _ => 0) (fun _ => 0) (fun _ => 0) (fun _ => 0) (fun _ => 0) 0 0 0 0 0 0 0 0 0 0 0 0)) H := hP
  have hD : va_D (fun q : Nat => s.heap.size ≤ q) ((wX x a1 a2 a3 a4 cI (fun _ => 0) (fun _ => 0) (fun _ => 0) (fun _ => 0) 0 0 0 0 0 0 0 0 0 0 0 0) ++ (wM m9 b1 b2 b3 b4 b5 b6 cI2 (fun _ => 0) (fun _ => 0) (fun _ => 0) (fun _ => 0) (fun _ => 0) (fun _ => 0) 0 0 0 0 0 0 0 0 0 0 0 0)) := hD
  refine W.widen (k := 12) (n := 242) (Nat.le_of_ble_eq_true rfl) (Nat.le_of_ble_eq_true rfl) ?_
  obtain rfl : cI = cI2 := Option.some.inj ((hK.2 0 _ rfl).2.symm.trans (hK1.2 0 _ rfl).2)
  refine lv_astore_n (lv' := [(2, .ref m9), (1, .ref x), (0, .ref b)]) hx hb dL_law_15 rfl hl (by decide) rfl (fun ls hl => ?_)
  refine lv_iconst (v := 1) hx hb dL_law_16 (by decide) ?_
  refine va_newa (D := (dC, dI)) (atype := .long) (a0 := (1, .inr (.inl (fun _ => 0)))) (ty := .long) (N' := 1) hx hb (hts _ (tb w_aJ)) rfl hK hP hD hS hA (fun cA => rfl) (by decide) (by decide) (by decide) (Nat.le_of_ble_eq_true rfl) (Nat.le_of_ble_eq_true rfl) dL_law_17 (fun o cJ H hK hP hD hS => ?_)
  refine W.widen (k := 13 + 2 * 0) (n := 243 + 12 * 0) (Nat.le_of_ble_eq_true rfl) (Nat.le_of_ble_eq_true rfl) ?_
  have hK : va_K (dC, dI) vwCl [(cI, .int), (cJ, .long)] s := hK
  refine lv_astore_n (lv' := [(3, .ref o), (2, .ref m9), (1, .ref x), (0, .ref b)]) hx hb dL_law_19 rfl hl (by decide) rfl (fun ls hl => ?_)
  refine lv_iconst (v := 0) hx hb dL_law_20 (by decide) ?_
  refine lv_istore (lv' := [(4, .int 0), (3, .ref o), (2, .ref m9), (1, .ref x), (0, .ref b)]) hx hb dL_law_21 hl (by decide) rfl (fun ls hl => ?_)
  have hP : va_P (dC, dI) vwCl ((wXO x a1 a2 a3 a4 cI (fun _ => 0) (fun _ => 0) (fun _ => 0) (fun _ => 0) 0 0 0 0 0 0 0 0 0 0 0 0 o cJ (fun _ => 0)) ++ (wM m9 b1 b2 b3 b4 b5 b6 cI (fun _ => 0) (fun _ => 0) (fun _ => 0) (fun _ => 0) (fun _ => 0) (fun _ => 0) 0 0 0 0 0 0 0 0 0 0 0 0)) H := hP.sub [0, 1, 2, 3, 4, 12, 5, 6, 7, 8, 9, 10, 11] rfl
  have hD : va_D (fun q : Nat => s.heap.size ≤ q) ((wXO x a1 a2 a3 a4 cI (fun _ => 0) (fun _ => 0) (fun _ => 0) (fun _ => 0) 0 0 0 0 0 0 0 0 0 0 0 0 o cJ (fun _ => 0)) ++ (wM m9 b1 b2 b3 b4 b5 b6 cI (fun _ => 0) (fun _ => 0) (fun _ => 0) (fun _ => 0) (fun _ => 0) (fun _ => 0) 0 0 0 0 0 0 0 0 0 0 0 0)) := hD.sub [0, 1, 2, 3, 4, 12, 5, 6, 7, 8, 9, 10, 11] (by decide) rfl
  exact law_loop hst hL C0 hG hK 513 0 (fun _ => 0) (fun _ => 0) (fun _ => 0) (fun _ => 0) (fun _ => 0) (fun _ => 0) 0 0 0 0 0 0 0 0 0 0 0 0 (fun _ => 0) 0 0 0 0 0 0 H _ ls (by omega) (Nat.zero_le L) li_0 hP hD hS (lv_sub hl [4, 3, 2, 1, 0] rfl)
