/-! what holds between the class and the reference, between two calls -/
abbrev bd (f : Nat → Int32) (n : Nat) (lo hi : Int) : Prop := ∀ j, j < n → lo ≤ (f j).toInt ∧ (f j).toInt ≤ hi
/-- the modulus: the class keeps it as it came, the reference in lowest terms -/
def mr (mu ml : Int64) (hd : Int32) (hu hw : Int64) : Prop := (mu = 0 ∧ hd = 0) ∨ (hd = 1 ∧ (1 ≤ mu.toInt ∧ mu.toInt ≤ 1000000) ∧ (1 ≤ ml.toInt ∧ ml.toInt ≤ 1000000) ∧ hu.toInt = fr mu.toInt ml.toInt 0 ∧ hw.toInt = fr mu.toInt ml.toInt 1)
def li (S F D J X Y : Nat → Int32) (n im tc : Nat) (ar sl ck : Int32) (mu ml ds js ps ss : Int64) (hd : Int32) (hu hw : Int64) : Prop :=
  (n ≤ 40 ∧ ris S n ∧ bd S n 0 1000000 ∧ bd F n 0 1000000) ∧ ((0 ≤ ar.toInt ∧ ar.toInt ≤ 10000) ∧ (0 ≤ sl.toInt ∧ sl.toInt ≤ 1000000) ∧ (ck = 0 ∨ ck = 1)) ∧ mr mu ml hd hu hw ∧
  (tc ≤ 8 ∧ ris X tc ∧ bd X tc 0 2000 ∧ bd Y tc 0 2000) ∧ (im ≤ 8 ∧ bd D im (-200) 200 ∧ bd J im 0 400 ∧ fts D J im ds js ss ps)
theorem upd_eq {f : Nat → Int32} {k : Nat} {x : Int32} : upd f k x k = x := pk_us
theorem upd_ne {f : Nat → Int32} {k j : Nat} {x : Int32} (h : j ≠ k) : upd f k x j = f j := pk_un h
theorem bd_up {f : Nat → Int32} {n : Nat} {lo hi : Int} {x : Int32} (h : bd f n lo hi) (hx : lo ≤ x.toInt ∧ x.toInt ≤ hi) : bd (upd f n x) (n + 1) lo hi := by
  intro j hj
  by_cases q : j = n
  · subst q
    rw [upd_eq]
    exact hx
  · rw [upd_ne q]
    exact h j (by omega)
theorem ris_up {f : Nat → Int32} {n : Nat} {x : Int32} (h : ris f n) (hx : n = 0 ∨ (f (n - 1)).toInt < x.toInt) : ris (upd f n x) (n + 1) := by
  intro j k h1 h2
  by_cases q : k = n
  · subst q
    rw [upd_eq, upd_ne (by omega)]
    rcases hx with e | hx
    · omega
    · rcases Nat.lt_or_eq_of_le (show j ≤ k - 1 by omega) with w | w
      · have := h j (k - 1) w (by omega)
        omega
      · rw [w]
        exact hx
  · rw [upd_ne q, upd_ne (by omega)]
    exact h j k h1 (by omega)
theorem sm_up {D : Nat → Int32} {x : Int32} {n : Nat} {g : Int32 → Int} : sm (fun j => g (upd D n x j)) n = sm (fun j => g (D j)) n := by
  have key : ∀ k, k ≤ n → sm (fun j => g (upd D n x j)) k = sm (fun j => g (D j)) k := by
    intro k
    induction k with
    | zero => intro _; rfl
    | succ k ih =>
      intro hk
      show sm (fun j => g (upd D n x j)) k + g (upd D n x k) = sm (fun j => g (D j)) k + g (D k)
      rw [ih (by omega), upd_ne (by omega)]
  exact key n (Nat.le_refl n)
theorem sP_s (D J : Nat → Int32) (k : Nat) : sP D J (k + 1) = sP D J k + (D k).toInt * (J k).toInt := by
  unfold sP
  rw [sm]
theorem sP_0 (D J : Nat → Int32) : sP D J 0 = 0 := by
  unfold sP
  rw [sm]
theorem sP_up {D J : Nat → Int32} {x y : Int32} {n : Nat} : sP (upd D n x) (upd J n y) n = sP D J n := by
  have key : ∀ k, k ≤ n → sP (upd D n x) (upd J n y) k = sP D J k := by
    intro k
    induction k with
    | zero => intro _; rw [sP_0, sP_0]
    | succ k ih =>
      intro hk
      rw [sP_s, sP_s, ih (by omega), upd_ne (by omega), upd_ne (by omega)]
  exact key n (Nat.le_refl n)
theorem fts_imp {D J : Nat → Int32} {n : Nat} {ds js ss ps : Int64} {x y : Int32} (h : fts D J n ds js ss ps) (hn : n < 8) (hD : bd D n (-200) 200) (hJ : bd J n 0 400) (hx : -200 ≤ x.toInt ∧ x.toInt ≤ 200) (hy : 0 ≤ y.toInt ∧ y.toInt ≤ 400) :
    fts (upd D n x) (upd J n y) (n + 1) (ds + x.toInt64) (js + y.toInt64) (ss + (x * x).toInt64) (ps + (x * y).toInt64) := by
  have h' : fts (upd D n x) (upd J n y) n ds js ss ps := by
    obtain ⟨h1, h2, h3, h4⟩ := h
    refine ⟨h1.trans ?_, h2.trans ?_, h3.trans ?_, h4.trans sP_up.symm⟩
    · exact (sm_up (D := D) (x := x) (n := n) (g := fun z => z.toInt)).symm
    · exact (sm_up (D := J) (x := y) (n := n) (g := fun z => z.toInt)).symm
    · exact (sm_up (D := D) (x := x) (n := n) (g := fun z => z.toInt * z.toInt)).symm
  have b := fts_b (D := upd D n x) (J := upd J n y) (k := n) (fun j hj => by rw [upd_ne (by omega)]; exact hD j hj) (fun j hj => by rw [upd_ne (by omega)]; exact hJ j hj) (by omega)
  have e := fts_s h' hn (by rw [upd_eq]; exact hx) (by rw [upd_eq]; exact hy) b
  rw [upd_eq, upd_eq] at e
  exact e
theorem li_0 {S F D J X Y : Nat → Int32} : li S F D J X Y 0 0 0 0 0 0 0 0 0 0 0 0 0 0 0 :=
  ⟨⟨by decide, fun j k _ h => absurd h (Nat.not_lt_zero k), fun j h => absurd h (Nat.not_lt_zero j), fun j h => absurd h (Nat.not_lt_zero j)⟩, ⟨by decide, by decide, Or.inl rfl⟩, Or.inl ⟨rfl, rfl⟩, ⟨by decide, fun j k _ h => absurd h (Nat.not_lt_zero k), fun j h => absurd h (Nat.not_lt_zero j), fun j h => absurd h (Nat.not_lt_zero j)⟩, ⟨by decide, fun j h => absurd h (Nat.not_lt_zero j), fun j h => absurd h (Nat.not_lt_zero j), fts_0⟩⟩
section LI
variable {S F D J X Y : Nat → Int32} {n im tc : Nat} {ar sl ck : Int32} {mu ml ds js ps ss : Int64} {hd : Int32} {hu hw : Int64}
theorem li_row {p1 p2 : Int32} (h : li S F D J X Y n im tc ar sl ck mu ml ds js ps ss hd hu hw) (ho : ok_row n S p1 p2) (hn : n < 40) : li (upd S n p1) (upd F n p2) D J X Y (n + 1) im tc ar sl ck mu ml ds js ps ss hd hu hw := by
  obtain ⟨⟨h1, h2, h3, h4⟩, h5⟩ := h
  exact ⟨⟨by omega, ris_up h2 ho.2.2, bd_up h3 ho.1, bd_up h4 ho.2.1⟩, h5⟩
theorem li_sec {p1 p2 : Int32} (h : li S F D J X Y n im tc ar sl ck mu ml ds js ps ss hd hu hw) (ho : ok_sec p1 p2) : li S F D J X Y n im tc p1 p2 ck mu ml ds js ps ss hd hu hw := by
  obtain ⟨h1, ⟨-, -, h2⟩, h3⟩ := h
  exact ⟨h1, ⟨by omega, ho.2, h2⟩, h3⟩
theorem li_imp {p1 p2 : Int32} (h : li S F D J X Y n im tc ar sl ck mu ml ds js ps ss hd hu hw) (ho : ok_imp p1 p2) (hn : im < 8) : li S F (upd D im p1) (upd J im p2) X Y n (im + 1) tc ar sl ck mu ml (ds + p1.toInt64) (js + p2.toInt64) (ps + (p1 * p2).toInt64) (ss + (p1 * p1).toInt64) hd hu hw := by
  obtain ⟨h1, h2, h3, h4, h5, h6, h7, h8⟩ := h
  exact ⟨h1, h2, h3, h4, by omega, bd_up h6 ho.1, bd_up h7 ho.2, fts_imp h8 hn h6 h7 ho.1 ho.2⟩
theorem li_tab {p1 p2 : Int32} (h : li S F D J X Y n im tc ar sl ck mu ml ds js ps ss hd hu hw) (ho : ok_tab tc X p1 p2) (hn : tc < 8) : li S F D J (upd X tc p1) (upd Y tc p2) n im (tc + 1) ar sl ck mu ml ds js ps ss hd hu hw := by
  obtain ⟨h1, h2, h3, ⟨h4, h5, h6, h7⟩, h8⟩ := h
  exact ⟨h1, h2, h3, ⟨by omega, ris_up h5 ho.2.2, bd_up h6 ho.1, bd_up h7 ho.2.1⟩, h8⟩
theorem li_mac {c : Prop} [Decidable c] (h : li S F D J X Y n im tc ar sl ck mu ml ds js ps ss hd hu hw) : li S F D J X Y n im tc ar sl (bI c) mu ml ds js ps ss hd hu hw := by
  obtain ⟨h1, ⟨h2, h3, -⟩, h4⟩ := h
  refine ⟨h1, ⟨h2, h3, ?_⟩, h4⟩
  by_cases q : c
  · exact Or.inr (bI_1 q)
  · exact Or.inl (bI_0 q)
theorem li_clear (h : li S F D J X Y n im tc ar sl ck mu ml ds js ps ss hd hu hw) : li S F D J X Y 0 im tc 0 0 0 0 0 ds js ps ss 0 hu hw := by
  obtain ⟨-, -, -, h4⟩ := h
  exact ⟨⟨by decide, fun j k _ h => absurd h (Nat.not_lt_zero k), fun j h => absurd h (Nat.not_lt_zero j), fun j h => absurd h (Nat.not_lt_zero j)⟩, ⟨by decide, by decide, Or.inl rfl⟩, Or.inl ⟨rfl, rfl⟩, h4⟩
theorem li_slope {U L : Int} {hd' : Int32} {mu' ml' hu' hw' : Int64} (h : li S F D J X Y n im tc ar sl ck mu ml ds js ps ss hd hu hw) (hU : 0 < U → U ≤ 1000000) (hL : 1 ≤ L ∧ L ≤ 1000000)
    (hx : (0 < U ∧ mu'.toInt = U ∧ ml'.toInt = L) ∨ (¬ 0 < U ∧ mu' = mu ∧ ml' = ml)) (hm : (0 < U ∧ hd' = 1 ∧ hu'.toInt = fr U L 0 ∧ hw'.toInt = fr U L 1) ∨ (¬ 0 < U ∧ hd' = hd ∧ hu' = hu ∧ hw' = hw)) : li S F D J X Y n im tc ar sl ck mu' ml' ds js ps ss hd' hu' hw' := by
  obtain ⟨h1, h2, h3, h4⟩ := h
  refine ⟨h1, h2, ?_, h4⟩
  rcases hx with ⟨u, x1, x2⟩ | ⟨u, x1, x2⟩
  · rcases hm with ⟨-, m1, m2, m3⟩ | ⟨w, -⟩
    · have := hU u
      exact Or.inr ⟨m1, by omega, by omega, by rw [x1, x2]; exact m2, by rw [x1, x2]; exact m3⟩
    · exact absurd u w
  · rcases hm with ⟨w, -⟩ | ⟨-, m1, m2, m3⟩
    · exact absurd w u
    · rw [x1, x2, m1, m2, m3]
      exact h3
end LI
