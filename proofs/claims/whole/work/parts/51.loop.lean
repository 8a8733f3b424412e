set_option maxHeartbeats 8000000 in
set_option maxRecDepth 100000 in
/-- the law's loop: at its head, with j calls done, class and reference agree -/
theorem law_loop {p : Program} {l : Launch} {e : Env} {s : State} {m : MethodId} {below : List Frame} {meth : Method} {c : Code} {dC : Nat → ClassId} {dI : Nat → Nat → Nat} {b L : Nat} {xs : Nat → Int32} {sa : Nat → Nat} {x a1 a2 a3 a4 o m9 b1 b2 b3 b4 b5 b6 : Nat} {cI cJ : ClassId} (hst : l.stackTraces = false) (hL : L ≤ 3072) (C0 : lw_At p s m meth c b L xs) (hG : gl_ok s.heap.size sa s) (hK : va_K (dC, dI) vwCl [(cI, .int), (cJ, .long)] s) : ∀ (f j : Nat) (S F X Y D J : Nat → Int32) (n im tc : Nat) (ar sl ck : Int32) (mu ml ds js ps ss : Int64) (O : Nat → Int64) (th hd : Int32) (hu hw up dn : Int64) (H : Heap) (locs : List Loc) (ls : Array Slot), 513 ≤ j + f → 6 * j ≤ L → li S F D J X Y n im tc ar sl ck mu ml ds js ps ss hd hu hw → va_P (dC, dI) vwCl ((wXO x a1 a2 a3 a4 cI S F X Y n ar sl mu ml ck im ds js ps ss tc o cJ O) ++ (wM m9 b1 b2 b3 b4 b5 b6 cI S F D J X Y th n ar sl hd hu hw im tc ck up dn)) H → va_D (fun q : Nat => s.heap.size ≤ q) ((wXO x a1 a2 a3 a4 cI S F X Y n ar sl mu ml ck im ds js ps ss tc o cJ O) ++ (wM m9 b1 b2 b3 b4 b5 b6 cI S F D J X Y th n ar sl hd hu hw im tc ck up dn)) → va_S (fun q : Nat => s.heap.size ≤ q) s.heap H locs → lv_has ls 8 [(0, .ref b), (1, .ref x), (2, .ref m9), (3, .ref o), (4, .int (nI (6 * j)))] → W p l e room_1 s m #[Value.ref b] below meth c H locs (13 + 2 * j) (243 + 12 * j) (lw_Z below #[Value.ref b] s) (F0 m 23 ls []) := by
  obtain ⟨hx, hb, hr, hml, hown, hts, hX, hbl, hlocks, hgv⟩ := id C0
  have hA : ∀ q : Nat, s.heap.size ≤ q → (fun q : Nat => s.heap.size ≤ q) q := fun _ h => h
  have hbA : ¬ (fun q : Nat => s.heap.size ≤ q) b := Nat.not_le.mpr hbl
  intro f
  induction f with
  | zero => intro j S F X Y D J n im tc ar sl ck mu ml ds js ps ss O th hd hu hw up dn H locs ls h1 h2; exact absurd h1 (by omega)
  | succ f ih =>
    intro j S F X Y D J n im tc ar sl ck mu ml ds js ps ss O th hd hu hw up dn H locs ls hf hj hli hP hD hS hl
    have hN : LN p l e s m below meth c dC dI b x a1 a2 a3 a4 o m9 b1 b2 b3 b4 b5 b6 cI cJ j → W p l e room_1 s m #[Value.ref b] below meth c H locs (13 + 2 * j) (243 + 12 * j) (lw_Z below #[Value.ref b] s) (F0 m 23 ls []) := by
      intro hN
      refine lv_iload hx hb dL_law_23 (lv_at hl 4 rfl) ?_
      refine lv_aload_n hx hb dL_law_25 rfl (lv_at hl 0 rfl) ?_
      refine va_slen hx hb hX hbl hbA hS dL_law_26 ?_
      refine lv_bipush (v := 6) hx hb dL_law_27 (by decide) ?_
      refine lv_isub hx hb dL_law_29 ?_
      refine lv_icmp_gt (tgt := 1028) hx hb dL_law_30 (by decide) (fun c30 => ?_) (fun c30 => ?_)
      · refine lv_iconst (v := 1) hx hb dL_law_1028 (by decide) ?_
        refine va_forget (fun q hq => hS.2.2 q hq) ?_
        refine W.widen (k := 1064) (n := 8597) (by omega) (by omega) ?_
        exact lw_ret hx hb hr hlocks dL_law_1029
      · have h6 : 6 * j + 6 ≤ L := by
          have e1 : (Int32.ofNat L).toInt = (L : Int) := nI_toInt (n := L) (by omega)
          have s6 : (6 : Int32).toInt = 6 := by decide
          have e2 : (Int32.ofNat L - 6).toInt = (L : Int) - 6 := by rw [Kit.i32_sub (by rw [e1, s6]; omega) (by rw [e1, s6]; omega), e1, s6]
          have e3 := nI_toInt (n := 6 * j) (by omega)
          have c : ¬ (Int32.ofNat L - 6).toInt < (nI (6 * j)).toInt := fun q => c30 (Int32.lt_iff_toInt_lt.mpr q)
          omega
        refine lv_aload_n hx hb dL_law_33 rfl (lv_at hl 0 rfl) ?_
        refine lv_iload hx hb dL_law_34 (lv_at hl 4 rfl) ?_
        refine va_sld hx hb hX hbl hbA hS (vp_in_nI (show 6 * j < L by omega) (by omega)) dL_law_36 ?_
        refine lv_bipush (v := 15) hx hb dL_law_37 (by decide) ?_
        refine lv_iand hx hb dL_law_39 ?_
        obtain ⟨w9, hw9, ew⟩ := pk_andE (xs (nI (6 * j)).toNatClampNeg) (m := 15) 4 (by decide)
        refine W.eq (congrArg (fun z => F0 m 40 ls (.int z :: [])) ew) ?_
        rcases (show w9 = 0 ∨ w9 = 1 ∨ w9 = 2 ∨ w9 = 3 ∨ w9 = 4 ∨ w9 = 5 ∨ w9 = 6 ∨ w9 = 7 ∨ w9 = 8 ∨ w9 = 9 ∨ w9 = 10 ∨ w9 = 11 ∨ w9 = 12 ∨ w9 = 13 ∨ 14 ≤ w9 by omega) with rfl | rfl | rfl | rfl | rfl | rfl | rfl | rfl | rfl | rfl | rfl | rfl | rfl | rfl | h14
        · refine lv_tableIn (off := 72) (tgt := 112) hx hb dL_law_40 (by decide) (by decide) (by decide +kernel) (by decide) ?_
          exact law_row hst hL C0 hG hK j h6 hN S F X Y D J n im tc ar sl ck mu ml ds js ps ss O th hd hu hw up dn H locs ls hli hP hD hS hl
        · refine lv_tableIn (off := 140) (tgt := 180) hx hb dL_law_40 (by decide) (by decide) (by decide +kernel) (by decide) ?_
          exact law_section hst hL C0 hG hK j h6 hN S F X Y D J n im tc ar sl ck mu ml ds js ps ss O th hd hu hw up dn H locs ls hli hP hD hS hl
        · refine lv_tableIn (off := 188) (tgt := 228) hx hb dL_law_40 (by decide) (by decide) (by decide +kernel) (by decide) ?_
          exact law_slope hst hL C0 hG hK j h6 hN S F X Y D J n im tc ar sl ck mu ml ds js ps ss O th hd hu hw up dn H locs ls hli hP hD hS hl
        · refine lv_tableIn (off := 267) (tgt := 307) hx hb dL_law_40 (by decide) (by decide) (by decide +kernel) (by decide) ?_
          exact law_offset hst hL C0 hG hK j h6 hN S F X Y D J n im tc ar sl ck mu ml ds js ps ss O th hd hu hw up dn H locs ls hli hP hD hS hl
        · refine lv_tableIn (off := 334) (tgt := 374) hx hb dL_law_40 (by decide) (by decide) (by decide +kernel) (by decide) ?_
          exact law_peak hst hL C0 hG hK j h6 hN S F X Y D J n im tc ar sl ck mu ml ds js ps ss O th hd hu hw up dn H locs ls hli hP hD hS hl
        · refine lv_tableIn (off := 390) (tgt := 430) hx hb dL_law_40 (by decide) (by decide) (by decide +kernel) (by decide) ?_
          exact law_stretch hst hL C0 hG hK j h6 hN S F X Y D J n im tc ar sl ck mu ml ds js ps ss O th hd hu hw up dn H locs ls hli hP hD hS hl
        · refine lv_tableIn (off := 469) (tgt := 509) hx hb dL_law_40 (by decide) (by decide) (by decide +kernel) (by decide) ?_
          exact law_impact hst hL C0 hG hK j h6 hN S F X Y D J n im tc ar sl ck mu ml ds js ps ss O th hd hu hw up dn H locs ls hli hP hD hS hl
        · refine lv_tableIn (off := 537) (tgt := 577) hx hb dL_law_40 (by decide) (by decide) (by decide +kernel) (by decide) ?_
          exact law_fitted hst hL C0 hG hK j h6 hN S F X Y D J n im tc ar sl ck mu ml ds js ps ss O th hd hu hw up dn H locs ls hli hP hD hS hl
        · refine lv_tableIn (off := 604) (tgt := 644) hx hb dL_law_40 (by decide) (by decide) (by decide +kernel) (by decide) ?_
          exact law_table hst hL C0 hG hK j h6 hN S F X Y D J n im tc ar sl ck mu ml ds js ps ss O th hd hu hw up dn H locs ls hli hP hD hS hl
        · refine lv_tableIn (off := 672) (tgt := 712) hx hb dL_law_40 (by decide) (by decide) (by decide +kernel) (by decide) ?_
          exact law_convert hst hL C0 hG hK j h6 hN S F X Y D J n im tc ar sl ck mu ml ds js ps ss O th hd hu hw up dn H locs ls hli hP hD hS hl
        · refine lv_tableIn (off := 740) (tgt := 780) hx hb dL_law_40 (by decide) (by decide) (by decide +kernel) (by decide) ?_
          exact law_round hst hL C0 hG hK j h6 hN S F X Y D J n im tc ar sl ck mu ml ds js ps ss O th hd hu hw up dn H locs ls hli hP hD hS hl
        · refine lv_tableIn (off := 883) (tgt := 923) hx hb dL_law_40 (by decide) (by decide) (by decide +kernel) (by decide) ?_
          exact law_machine hst hL C0 hG hK j h6 hN S F X Y D J n im tc ar sl ck mu ml ds js ps ss O th hd hu hw up dn H locs ls hli hP hD hS hl
        · refine lv_tableIn (off := 958) (tgt := 998) hx hb dL_law_40 (by decide) (by decide) (by decide +kernel) (by decide) ?_
          exact law_invalid hst hL C0 hG hK j h6 hN S F X Y D J n im tc ar sl ck mu ml ds js ps ss O th hd hu hw up dn H locs ls hli hP hD hS hl
        · refine lv_tableIn (off := 971) (tgt := 1011) hx hb dL_law_40 (by decide) (by decide) (by decide +kernel) (by decide) ?_
          exact law_clear hst hL C0 hG hK j h6 hN S F X Y D J n im tc ar sl ck mu ml ds js ps ss O th hd hu hw up dn H locs ls hli hP hD hS hl
        · refine lv_tableOut (tgt := 1022) hx hb dL_law_40 (Or.inr (by rw [nI_toInt (by omega)]; omega)) (by decide) ?_
          refine W.widen (k := 13 + 2 * (j + 1)) (n := 243 + 12 * (j + 1)) (by omega) (by omega) ?_
          exact hN S F X Y D J n im tc ar sl ck mu ml ds js ps ss O th hd hu hw up dn H locs ls hli hP hD hS hl
    by_cases h6 : 6 * j + 6 ≤ L
    · refine hN ?_
      intro S F X Y D J n im tc ar sl ck mu ml ds js ps ss O th hd hu hw up dn H locs ls hli hP hD hS hl
      refine lv_iinc (v := nI (6 * (j + 1))) (lv' := [(4, .int (nI (6 * (j + 1)))), (0, .ref b), (1, .ref x), (2, .ref m9), (3, .ref o)]) hx hb dL_law_1022 hl (k := 4) rfl ((nI_add (6 * j) 6).trans (congrArg nI (by omega))) (by decide) rfl (fun ls hl => ?_)
      refine lv_goto (tgt := 23) hx hb dL_law_1025 (by decide) ?_
      exact ih (j + 1) S F X Y D J n im tc ar sl ck mu ml ds js ps ss O th hd hu hw up dn H locs ls (by omega) (by omega) hli hP hD hS (lv_sub hl [1, 2, 3, 4, 0] rfl)
    · -- the loop ends here: nothing goes on
      refine lv_iload hx hb dL_law_23 (lv_at hl 4 rfl) ?_
      refine lv_aload_n hx hb dL_law_25 rfl (lv_at hl 0 rfl) ?_
      refine va_slen hx hb hX hbl hbA hS dL_law_26 ?_
      refine lv_bipush (v := 6) hx hb dL_law_27 (by decide) ?_
      refine lv_isub hx hb dL_law_29 ?_
      refine lv_icmp_gt (tgt := 1028) hx hb dL_law_30 (by decide) (fun c30 => ?_) (fun c30 => ?_)
      · refine lv_iconst (v := 1) hx hb dL_law_1028 (by decide) ?_
        refine va_forget (fun q hq => hS.2.2 q hq) ?_
        refine W.widen (k := 1064) (n := 8597) (by omega) (by omega) ?_
        exact lw_ret hx hb hr hlocks dL_law_1029
      · have e1 : (Int32.ofNat L).toInt = (L : Int) := nI_toInt (n := L) (by omega)
        have s6 : (6 : Int32).toInt = 6 := by decide
        have e2 : (Int32.ofNat L - 6).toInt = (L : Int) - 6 := by rw [Kit.i32_sub (by rw [e1, s6]; omega) (by rw [e1, s6]; omega), e1, s6]
        have e3 := nI_toInt (n := 6 * j) (by omega)
        have c : ¬ (Int32.ofNat L - 6).toInt < (nI (6 * j)).toInt := fun q => c30 (Int32.lt_iff_toInt_lt.mpr q)
        exact absurd (show 6 * j + 6 ≤ L by omega) h6
