/-! machine numbers with bounds -/
theorem mulb {a b A B : Int} (h1 : -A ≤ a) (h2 : a ≤ A) (h3 : -B ≤ b) (h4 : b ≤ B) : -(A * B) ≤ a * b ∧ a * b ≤ A * B := by
  have e1 : 0 ≤ (A - a) * (B - b) := Int.mul_nonneg (by omega) (by omega)
  have e2 : 0 ≤ (A + a) * (B + b) := Int.mul_nonneg (by omega) (by omega)
  have e3 : 0 ≤ (A - a) * (B + b) := Int.mul_nonneg (by omega) (by omega)
  have e4 : 0 ≤ (A + a) * (B - b) := Int.mul_nonneg (by omega) (by omega)
  grind
theorem mu64 {x y : Int64} {a b : Int} (hx : x.toInt = a) (hy : y.toInt = b) (h : -4611686018427387904 ≤ a * b ∧ a * b ≤ 4611686018427387904) : (x * y).toInt = a * b := by
  rw [Kit.i64_mul (by rw [hx, hy]; omega) (by rw [hx, hy]; omega), hx, hy]
theorem ad64 {x y : Int64} {a b : Int} (hx : x.toInt = a) (hy : y.toInt = b) (h : -4611686018427387904 ≤ a + b ∧ a + b ≤ 4611686018427387904) : (x + y).toInt = a + b := by
  rw [Kit.i64_add (by rw [hx, hy]; omega) (by rw [hx, hy]; omega), hx, hy]
theorem sb64 {x y : Int64} {a b : Int} (hx : x.toInt = a) (hy : y.toInt = b) (h : -4611686018427387904 ≤ a - b ∧ a - b ≤ 4611686018427387904) : (x - y).toInt = a - b := by
  rw [Kit.i64_sub (by rw [hx, hy]; omega) (by rw [hx, hy]; omega), hx, hy]
theorem hd_b {z : Int32} (h : z = 0 ∨ z = 1) : z = bI (z.toInt = 1) := by
  rcases h with rfl | rfl
  · exact (bI_0 (by decide)).symm
  · exact (bI_1 (by decide)).symm
theorem mac_a {p1 p2 : Int32} (h : ok_mac p1 p2) : ((if 0 ≤ p1 - p2 then p1 - p2 else 0 - (p1 - p2)) * 100).toInt = if 0 ≤ p1.toInt - p2.toInt then 100 * (p1.toInt - p2.toInt) else 100 * (p2.toInt - p1.toInt) := by
  obtain ⟨e1, e2, e3, a1, a2, a3, a4⟩ := mac_e h
  have c : (100 : Int32).toInt = 100 := by decide
  have z : (0 : Int32).toInt = 0 := by decide
  by_cases q : 0 ≤ p1 - p2
  · have q2 := Int32.le_iff_toInt_le.mp q
    rw [z] at q2
    rw [if_pos q, if_pos (by omega), e1]
  · have q2 : ¬ (0 : Int32).toInt ≤ (p1 - p2).toInt := fun w => q (Int32.le_iff_toInt_le.mpr w)
    rw [z] at q2
    have e4 : (0 - (p1 - p2)).toInt = p2.toInt - p1.toInt := by
      rw [Kit.i32_sub (by rw [z]; omega) (by rw [z]; omega), z]
      omega
    rw [if_neg q, if_neg (by omega), Kit.i32_mul (by rw [e4, c]; omega) (by rw [e4, c]; omega), e4, c]
    omega
theorem iv_c4 {F : Nat → Int32} {n : Nat} {r : Int32} (h : ¬ pk F n = n - 1) (hr : (r = 1 ∧ hfb F n (pk F n)) ∨ (r = 0 ∧ ¬ hfb F n (pk F n))) (hc : r.toInt = 0) : ¬ (pk F n = n - 1 ∨ hfb F n (pk F n)) := by
  rintro (q | q)
  · exact h q
  · exact iv_z hr hc q
theorem iv_c5 {F : Nat → Int32} {n : Nat} {r : Int32} (hr : (r = 1 ∧ hfb F n (pk F n)) ∨ (r = 0 ∧ ¬ hfb F n (pk F n))) (hc : ¬ r.toInt = 0) : pk F n = n - 1 ∨ hfb F n (pk F n) := Or.inr (iv_nz hr hc)
/-! the proof strength -/
def ofs (F : Nat → Int32) (n : Nat) (ex : Nat → Int64) (p : Int) (r : Int64) : Prop :=
  (∃ k, 1 ≤ k ∧ k < n ∧ mtg ex k ∧ (∀ j, 1 ≤ j → j < k → ¬ mtg ex j) ∧ r.toInt = fr ((F k).toInt * (ex (k - 1)).toInt - (F (k - 1)).toInt * (ex k).toInt) ((ex (k - 1)).toInt - (ex k).toInt) p) ∨
  ((∀ j, 1 ≤ j → j < n → ¬ mtg ex j) ∧ ((p = 0 ∧ r = (-9223372036854775808)) ∨ (¬ p = 0 ∧ r = 0)))
theorem exl_v {S F : Nat → Int32} {mu ml : Int64} {ls : Int32} {k : Nat} (h1 : 0 ≤ mu.toInt ∧ mu.toInt ≤ 1000000) (h2 : 0 ≤ ml.toInt ∧ ml.toInt ≤ 1000000) (h3 : 0 ≤ ls.toInt ∧ ls.toInt ≤ 2000000) (h4 : 0 ≤ (S k).toInt ∧ (S k).toInt ≤ 1000000) (h5 : 0 ≤ (F k).toInt ∧ (F k).toInt ≤ 1000000) :
    (exl S F mu ml ls k).toInt = (F k).toInt * ml.toInt - mu.toInt * ((S k).toInt - ls.toInt) ∧ -3000000000000 ≤ (exl S F mu ml ls k).toInt ∧ (exl S F mu ml ls k).toInt ≤ 3000000000000 := by
  have b1 := mulb (a := (F k).toInt) (b := ml.toInt) (A := 1000000) (B := 1000000) (by omega) (by omega) (by omega) (by omega)
  have b2 := mulb (a := mu.toInt) (b := (S k).toInt - ls.toInt) (A := 1000000) (B := 2000000) (by omega) (by omega) (by omega) (by omega)
  have e0 : (S k - ls).toInt64.toInt = (S k).toInt - ls.toInt := by rw [Kit.i64_of_i32, Kit.i32_sub (by omega) (by omega)]
  have e1 := mu64 (Kit.i64_of_i32 (F k)) (y := ml) rfl (by omega)
  have e2 := mu64 (x := mu) rfl e0 (by omega)
  have e3 : (exl S F mu ml ls k).toInt = (F k).toInt * ml.toInt - mu.toInt * ((S k).toInt - ls.toInt) := sb64 e1 e2 (by omega)
  exact ⟨e3, by omega, by omega⟩
theorem exm_v {S F : Nat → Int32} {hu hw : Int64} {sl sh : Int32} {k : Nat} (h1 : 0 ≤ hu.toInt ∧ hu.toInt ≤ 1000000) (h2 : 0 ≤ hw.toInt ∧ hw.toInt ≤ 1000000) (h3 : 0 ≤ sl.toInt ∧ sl.toInt ≤ 1000000) (h6 : 0 ≤ sh.toInt ∧ sh.toInt ≤ 1000000) (h4 : 0 ≤ (S k).toInt ∧ (S k).toInt ≤ 1000000) (h5 : 0 ≤ (F k).toInt ∧ (F k).toInt ≤ 1000000) :
    (exm S F hu hw sl sh k).toInt = (F k).toInt * hw.toInt - hu.toInt * ((S k).toInt - sl.toInt - sh.toInt) ∧ -3000000000000 ≤ (exm S F hu hw sl sh k).toInt ∧ (exm S F hu hw sl sh k).toInt ≤ 3000000000000 := by
  have b1 := mulb (a := (F k).toInt) (b := hw.toInt) (A := 1000000) (B := 1000000) (by omega) (by omega) (by omega) (by omega)
  have b2 := mulb (a := hu.toInt) (b := (S k).toInt - sl.toInt - sh.toInt) (A := 1000000) (B := 2000000) (by omega) (by omega) (by omega) (by omega)
  have e9 : (S k - sl).toInt = (S k).toInt - sl.toInt := Kit.i32_sub (by omega) (by omega)
  have e0 : (S k - sl - sh).toInt64.toInt = (S k).toInt - sl.toInt - sh.toInt := by rw [Kit.i64_of_i32, Kit.i32_sub (by omega) (by omega), e9]
  have e1 := mu64 (Kit.i64_of_i32 (F k)) (y := hw) rfl (by omega)
  have e2 := mu64 (x := hu) rfl e0 (by omega)
  have e3 : (exm S F hu hw sl sh k).toInt = (F k).toInt * hw.toInt - hu.toInt * ((S k).toInt - sl.toInt - sh.toInt) := sb64 e1 e2 (by omega)
  exact ⟨e3, by omega, by omega⟩
theorem off_g {e0 e1 : Int64} {f0 f1 : Int32} (h0 : 0 < e0.toInt) (h1 : e1.toInt ≤ 0) (hL : e0.toInt - e1.toInt ≤ 2000000000000) (hf0 : 0 ≤ f0.toInt ∧ f0.toInt ≤ 1000000) (hf1 : 0 ≤ f1.toInt ∧ f1.toInt ≤ 1000000) :
    (f1.toInt64 * e0 - f0.toInt64 * e1).toInt = f1.toInt * e0.toInt - f0.toInt * e1.toInt ∧ (e0 - e1).toInt = e0.toInt - e1.toInt ∧ (f1.toInt64 * e0 - f0.toInt64 * e1).toInt ≠ -2 ^ 63 ∧ 0 < (e0 - e1).toInt ∧ (e0 - e1).toInt ≤ 2 ^ 41 := by
  have b1 := mulb (a := f1.toInt) (b := e0.toInt) (A := 1000000) (B := 2000000000000) (by omega) (by omega) (by omega) (by omega)
  have b2 := mulb (a := f0.toInt) (b := e1.toInt) (A := 1000000) (B := 2000000000000) (by omega) (by omega) (by omega) (by omega)
  have g1 := sb64 (mu64 (Kit.i64_of_i32 f1) (y := e0) rfl (by omega)) (mu64 (Kit.i64_of_i32 f0) (y := e1) rfl (by omega)) (by omega)
  have g2 := sb64 (x := e0) (y := e1) rfl rfl (by omega)
  exact ⟨g1, g2, by omega, by omega, by omega⟩
theorem off_c {S F : Nat → Int32} {mu ml : Int64} {sl p : Int32} {k : Nat} (hsl : 0 ≤ sl.toInt ∧ sl.toInt ≤ 1000000) (hp : 0 ≤ p.toInt ∧ p.toInt ≤ 1000000) (h1 : 1 ≤ mu.toInt ∧ mu.toInt ≤ 1000000) (h2 : 1 ≤ ml.toInt ∧ ml.toInt ≤ 1000000) (s1 : 0 ≤ (S k).toInt ∧ (S k).toInt ≤ 1000000) (s0 : 0 ≤ (S (k - 1)).toInt ∧ (S (k - 1)).toInt ≤ 1000000) (f1 : 0 ≤ (F k).toInt ∧ (F k).toInt ≤ 1000000) (f0 : 0 ≤ (F (k - 1)).toInt ∧ (F (k - 1)).toInt ≤ 1000000) (hm : mtg (exl S F mu ml (sl + p)) k) :
    ((F k).toInt64 * exl S F mu ml (sl + p) (k - 1) - (F (k - 1)).toInt64 * exl S F mu ml (sl + p) k).toInt = (F k).toInt * (exl S F mu ml (sl + p) (k - 1)).toInt - (F (k - 1)).toInt * (exl S F mu ml (sl + p) k).toInt ∧ (exl S F mu ml (sl + p) (k - 1) - exl S F mu ml (sl + p) k).toInt = (exl S F mu ml (sl + p) (k - 1)).toInt - (exl S F mu ml (sl + p) k).toInt ∧ ((F k).toInt64 * exl S F mu ml (sl + p) (k - 1) - (F (k - 1)).toInt64 * exl S F mu ml (sl + p) k).toInt ≠ -2 ^ 63 ∧ 0 < (exl S F mu ml (sl + p) (k - 1) - exl S F mu ml (sl + p) k).toInt ∧ (exl S F mu ml (sl + p) (k - 1) - exl S F mu ml (sl + p) k).toInt ≤ 2 ^ 41 := by
  have e9 : (sl + p).toInt = sl.toInt + p.toInt := Kit.i32_add (by omega) (by omega)
  obtain ⟨v1, -⟩ := exl_v (S := S) (F := F) (mu := mu) (ml := ml) (ls := sl + p) (k := k) (by omega) (by omega) (by omega) s1 f1
  obtain ⟨v0, -⟩ := exl_v (S := S) (F := F) (mu := mu) (ml := ml) (ls := sl + p) (k := k - 1) (by omega) (by omega) (by omega) s0 f0
  have b1 := mulb (a := (F (k - 1)).toInt - (F k).toInt) (b := ml.toInt) (A := 1000000) (B := 1000000) (by omega) (by omega) (by omega) (by omega)
  have b2 := mulb (a := mu.toInt) (b := (S k).toInt - (S (k - 1)).toInt) (A := 1000000) (B := 1000000) (by omega) (by omega) (by omega) (by omega)
  refine off_g hm.2 hm.1 ?_ f0 f1
  rw [v0, v1]
  grind
theorem off_m {S F : Nat → Int32} {hu hw : Int64} {sl p : Int32} {k : Nat} (hsl : 0 ≤ sl.toInt ∧ sl.toInt ≤ 1000000) (hp : 0 ≤ p.toInt ∧ p.toInt ≤ 1000000) (h1 : 1 ≤ hu.toInt ∧ hu.toInt ≤ 1000000) (h2 : 1 ≤ hw.toInt ∧ hw.toInt ≤ 1000000) (s1 : 0 ≤ (S k).toInt ∧ (S k).toInt ≤ 1000000) (s0 : 0 ≤ (S (k - 1)).toInt ∧ (S (k - 1)).toInt ≤ 1000000) (f1 : 0 ≤ (F k).toInt ∧ (F k).toInt ≤ 1000000) (f0 : 0 ≤ (F (k - 1)).toInt ∧ (F (k - 1)).toInt ≤ 1000000) (c0 : ¬ (exm S F hu hw sl p (k - 1)).toInt ≤ 0) (c1 : ¬ 0 < (exm S F hu hw sl p k).toInt) :
    ((F k).toInt64 * exm S F hu hw sl p (k - 1) - (F (k - 1)).toInt64 * exm S F hu hw sl p k).toInt = (F k).toInt * (exm S F hu hw sl p (k - 1)).toInt - (F (k - 1)).toInt * (exm S F hu hw sl p k).toInt ∧ (exm S F hu hw sl p (k - 1) - exm S F hu hw sl p k).toInt = (exm S F hu hw sl p (k - 1)).toInt - (exm S F hu hw sl p k).toInt ∧ ((F k).toInt64 * exm S F hu hw sl p (k - 1) - (F (k - 1)).toInt64 * exm S F hu hw sl p k).toInt ≠ -2 ^ 63 ∧ 0 < (exm S F hu hw sl p (k - 1) - exm S F hu hw sl p k).toInt ∧ (exm S F hu hw sl p (k - 1) - exm S F hu hw sl p k).toInt ≤ 2 ^ 41 := by
  obtain ⟨v1, -⟩ := exm_v (S := S) (F := F) (hu := hu) (hw := hw) (sl := sl) (sh := p) (k := k) (by omega) (by omega) hsl hp s1 f1
  obtain ⟨v0, -⟩ := exm_v (S := S) (F := F) (hu := hu) (hw := hw) (sl := sl) (sh := p) (k := k - 1) (by omega) (by omega) hsl hp s0 f0
  have b1 := mulb (a := (F (k - 1)).toInt - (F k).toInt) (b := hw.toInt) (A := 1000000) (B := 1000000) (by omega) (by omega) (by omega) (by omega)
  have b2 := mulb (a := hu.toInt) (b := (S k).toInt - (S (k - 1)).toInt) (A := 1000000) (B := 1000000) (by omega) (by omega) (by omega) (by omega)
  refine off_g (by omega) (by omega) ?_ f0 f1
  rw [v0, v1]
  grind
/-! the table's value -/
def cvU (X Y : Nat → Int32) (k : Nat) (p : Int) : Int := (Y (k - 1)).toInt * ((X k).toInt - (X (k - 1)).toInt) + ((Y k).toInt - (Y (k - 1)).toInt) * (p - (X (k - 1)).toInt)
def cvs (X Y : Nat → Int32) (tc : Nat) (p rule : Int) (r : Int32) : Prop := ∃ k, k < tc ∧ (∀ j, j < k → (X j).toInt < p) ∧ p ≤ (X k).toInt ∧ ((p = (X k).toInt ∧ r = Y k) ∨ (¬ p = (X k).toInt ∧ 1 ≤ k ∧ r.toInt = rnd (cvU X Y k p) ((X k).toInt - (X (k - 1)).toInt) rule))
theorem cvU_b {X Y : Nat → Int32} {k : Nat} {p : Int} (hx : (X (k - 1)).toInt < (X k).toInt) (y1 : 0 ≤ (Y k).toInt ∧ (Y k).toInt ≤ 2000) (y0 : 0 ≤ (Y (k - 1)).toInt ∧ (Y (k - 1)).toInt ≤ 2000) (h0 : (X (k - 1)).toInt < p) (h1 : p ≤ (X k).toInt) : 0 ≤ cvU X Y k p ∧ cvU X Y k p ≤ 2000 * ((X k).toInt - (X (k - 1)).toInt) := by
  unfold cvU
  have e1 : 0 ≤ (Y (k - 1)).toInt * ((X k).toInt - p) := Int.mul_nonneg (by omega) (by omega)
  have e2 : 0 ≤ (Y k).toInt * (p - (X (k - 1)).toInt) := Int.mul_nonneg (by omega) (by omega)
  have e3 : 0 ≤ (2000 - (Y (k - 1)).toInt) * ((X k).toInt - p) := Int.mul_nonneg (by omega) (by omega)
  have e4 : 0 ≤ (2000 - (Y k).toInt) * (p - (X (k - 1)).toInt) := Int.mul_nonneg (by omega) (by omega)
  constructor <;> grind
theorem rnd_b {U L p : Int} (hL : 1 ≤ L) (h0 : 0 ≤ U) (h1 : U ≤ 2000 * L) : 0 ≤ rnd U L p ∧ rnd U L p ≤ 2001 := by
  have a1 : 0 ≤ U / L := Int.ediv_nonneg h0 (by omega)
  have a2 : U / L ≤ 2000 := by
    refine Int.le_of_lt_add_one ((Int.ediv_lt_iff_lt_mul (by omega)).mpr ?_)
    omega
  unfold rnd
  split
  · omega
  · split <;> omega
theorem cv_r {X Y : Nat → Int32} {k : Nat} {p rule : Int} {y1 y2 r : Int64} (g1 : y1.toInt = cvU X Y k p) (g2 : y2.toInt = (X k).toInt - (X (k - 1)).toInt) (g3 : 1 ≤ (X k).toInt - (X (k - 1)).toInt ∧ 0 ≤ cvU X Y k p ∧ cvU X Y k p ≤ 2000 * ((X k).toInt - (X (k - 1)).toInt)) (h : r.toInt = rnd y1.toInt y2.toInt rule) : r.toInt32.toInt = rnd (cvU X Y k p) ((X k).toInt - (X (k - 1)).toInt) rule := by
  rw [g1, g2] at h
  have b := rnd_b (p := rule) g3.1 g3.2.1 g3.2.2
  rw [Kit.i32_of_i64 (by omega) (by omega), h]
theorem cv_m {X Y : Nat → Int32} {k : Nat} {p : Int32} (hx : (X (k - 1)).toInt < (X k).toInt) (x1 : 0 ≤ (X k).toInt ∧ (X k).toInt ≤ 2000) (x0 : 0 ≤ (X (k - 1)).toInt ∧ (X (k - 1)).toInt ≤ 2000) (y1 : 0 ≤ (Y k).toInt ∧ (Y k).toInt ≤ 2000) (y0 : 0 ≤ (Y (k - 1)).toInt ∧ (Y (k - 1)).toInt ≤ 2000) (h0 : (X (k - 1)).toInt < p.toInt) (h1 : p.toInt ≤ (X k).toInt) :
    ((Y (k - 1) * (X k - X (k - 1)) + (Y k - Y (k - 1)) * (p - X (k - 1))).toInt64.toInt = cvU X Y k p.toInt) ∧ (X k - X (k - 1)).toInt64.toInt = (X k).toInt - (X (k - 1)).toInt ∧ (1 ≤ (X k).toInt - (X (k - 1)).toInt ∧ 0 ≤ cvU X Y k p.toInt ∧ cvU X Y k p.toInt ≤ 2000 * ((X k).toInt - (X (k - 1)).toInt)) ∧ (X k).toInt - (X (k - 1)).toInt ≤ 2000 := by
  have b := cvU_b hx y1 y0 h0 h1
  have e1 : (X k - X (k - 1)).toInt = (X k).toInt - (X (k - 1)).toInt := Kit.i32_sub (by omega) (by omega)
  have e2 : (Y k - Y (k - 1)).toInt = (Y k).toInt - (Y (k - 1)).toInt := Kit.i32_sub (by omega) (by omega)
  have e3 : (p - X (k - 1)).toInt = p.toInt - (X (k - 1)).toInt := Kit.i32_sub (by omega) (by omega)
  have m1 := mulb (a := (Y (k - 1)).toInt) (b := (X k).toInt - (X (k - 1)).toInt) (A := 2000) (B := 2000) (by omega) (by omega) (by omega) (by omega)
  have m2 := mulb (a := (Y k).toInt - (Y (k - 1)).toInt) (b := p.toInt - (X (k - 1)).toInt) (A := 2000) (B := 2000) (by omega) (by omega) (by omega) (by omega)
  have e4 : (Y (k - 1) * (X k - X (k - 1))).toInt = (Y (k - 1)).toInt * ((X k).toInt - (X (k - 1)).toInt) := by rw [Kit.i32_mul (by rw [e1]; omega) (by rw [e1]; omega), e1]
  have e5 : ((Y k - Y (k - 1)) * (p - X (k - 1))).toInt = ((Y k).toInt - (Y (k - 1)).toInt) * (p.toInt - (X (k - 1)).toInt) := by rw [Kit.i32_mul (by rw [e2, e3]; omega) (by rw [e2, e3]; omega), e2, e3]
  refine ⟨?_, by rw [Kit.i64_of_i32, e1], ⟨by omega, b⟩, by omega⟩
  rw [Kit.i64_of_i32, Kit.i32_add (by rw [e4, e5]; omega) (by rw [e4, e5]; omega), e4, e5]
  rfl
theorem cv_c {X Y : Nat → Int32} {k : Nat} {p : Int32} (hx : (X (k - 1)).toInt < (X k).toInt) (x1 : 0 ≤ (X k).toInt ∧ (X k).toInt ≤ 2000) (x0 : 0 ≤ (X (k - 1)).toInt ∧ (X (k - 1)).toInt ≤ 2000) (y1 : 0 ≤ (Y k).toInt ∧ (Y k).toInt ≤ 2000) (y0 : 0 ≤ (Y (k - 1)).toInt ∧ (Y (k - 1)).toInt ≤ 2000) (h0 : (X (k - 1)).toInt < p.toInt) (h1 : p.toInt ≤ (X k).toInt) :
    (((Y (k - 1)).toInt64 * (X k - X (k - 1)).toInt64 + (Y k - Y (k - 1)).toInt64 * (p - X (k - 1)).toInt64).toInt = cvU X Y k p.toInt) ∧ (X k - X (k - 1)).toInt64.toInt = (X k).toInt - (X (k - 1)).toInt ∧ (1 ≤ (X k).toInt - (X (k - 1)).toInt ∧ 0 ≤ cvU X Y k p.toInt ∧ cvU X Y k p.toInt ≤ 2000 * ((X k).toInt - (X (k - 1)).toInt)) ∧ (X k).toInt - (X (k - 1)).toInt ≤ 2000 := by
  have b := cvU_b hx y1 y0 h0 h1
  have e1 : (X k - X (k - 1)).toInt64.toInt = (X k).toInt - (X (k - 1)).toInt := by rw [Kit.i64_of_i32, Kit.i32_sub (by omega) (by omega)]
  have e2 : (Y k - Y (k - 1)).toInt64.toInt = (Y k).toInt - (Y (k - 1)).toInt := by rw [Kit.i64_of_i32, Kit.i32_sub (by omega) (by omega)]
  have e3 : (p - X (k - 1)).toInt64.toInt = p.toInt - (X (k - 1)).toInt := by rw [Kit.i64_of_i32, Kit.i32_sub (by omega) (by omega)]
  have m1 := mulb (a := (Y (k - 1)).toInt) (b := (X k).toInt - (X (k - 1)).toInt) (A := 2000) (B := 2000) (by omega) (by omega) (by omega) (by omega)
  have m2 := mulb (a := (Y k).toInt - (Y (k - 1)).toInt) (b := p.toInt - (X (k - 1)).toInt) (A := 2000) (B := 2000) (by omega) (by omega) (by omega) (by omega)
  refine ⟨?_, e1, ⟨by omega, b⟩, by omega⟩
  exact ad64 (mu64 (Kit.i64_of_i32 _) e1 (by omega)) (mu64 e2 e3 (by omega)) (by omega)
theorem cv_0 {X Y : Nat → Int32} {tc k : Nat} {p rule : Int} (hk : k < tc) (ha : ∀ j, j < k → (X j).toInt < p) (hb : p ≤ (X k).toInt) (h0 : k = 0) (h1 : (X 0).toInt ≤ p) : cvs X Y tc p rule (Y 0) := by
  subst h0
  exact ⟨0, hk, ha, hb, Or.inl ⟨by omega, rfl⟩⟩
theorem rnd_ex {a L p : Int} (hL : 1 ≤ L) : rnd (a * L) L p = a := by
  have e1 : a * L % L = 0 := Int.mul_emod_left a L
  have e2 : a * L / L = a := Int.mul_ediv_cancel a (by omega)
  rw [rnd_1 (by rw [e1]; omega), e2]
theorem cv_k {X Y : Nat → Int32} {tc k : Nat} {p rule : Int} {y1 y2 r : Int64} (hk : k < tc) (ha : ∀ j, j < k → (X j).toInt < p) (hb : p ≤ (X k).toInt) (h1 : 1 ≤ k) (g1 : y1.toInt = cvU X Y k p) (g2 : y2.toInt = (X k).toInt - (X (k - 1)).toInt) (g3 : 1 ≤ (X k).toInt - (X (k - 1)).toInt ∧ 0 ≤ cvU X Y k p ∧ cvU X Y k p ≤ 2000 * ((X k).toInt - (X (k - 1)).toInt)) (h : r.toInt = rnd y1.toInt y2.toInt rule) : cvs X Y tc p rule r.toInt32 := by
  have e := cv_r g1 g2 g3 h
  refine ⟨k, hk, ha, hb, ?_⟩
  by_cases q : p = (X k).toInt
  · refine Or.inl ⟨q, Int32.toInt_inj.mp ?_⟩
    have e2 : cvU X Y k p = (Y k).toInt * ((X k).toInt - (X (k - 1)).toInt) := by
      unfold cvU
      rw [q]
      grind
    rw [e, e2, rnd_ex g3.1]
  · exact Or.inr ⟨q, h1, e⟩
/-! the fit -/
def sm (f : Nat → Int) : Nat → Int
  | 0 => 0
  | n + 1 => sm f n + f n
def sD (D : Nat → Int32) : Nat → Int := sm (fun j => (D j).toInt)
def sQ (D : Nat → Int32) : Nat → Int := sm (fun j => (D j).toInt * (D j).toInt)
def sP (D J : Nat → Int32) : Nat → Int := sm (fun j => (D j).toInt * (J j).toInt)
def ftb (D : Nat → Int32) (im : Nat) : Int := (im : Int) * sQ D im - sD D im * sD D im
def fta (D J : Nat → Int32) (im : Nat) : Int := (im : Int) * sP D J im - sD D im * sD J im
def ftu (D J : Nat → Int32) (im : Nat) (p : Int) : Int := sD J im * ftb D im + fta D J im * ((im : Int) * p - sD D im)
def fts (D J : Nat → Int32) (k : Nat) (x1 x2 x3 x4 : Int64) : Prop := x1.toInt = sD D k ∧ x2.toInt = sD J k ∧ x3.toInt = sQ D k ∧ x4.toInt = sP D J k
theorem fts_0 {D J : Nat → Int32} : fts D J 0 0 0 0 0 := ⟨rfl, rfl, rfl, rfl⟩
theorem sm_b {f : Nat → Int} {lo hi : Int} {n : Nat} (h : ∀ j, j < n → lo ≤ f j ∧ f j ≤ hi) : (n : Int) * lo ≤ sm f n ∧ sm f n ≤ (n : Int) * hi := by
  induction n with
  | zero => simp [sm]
  | succ n ih =>
    have h1 := ih (fun j hj => h j (by omega))
    have h2 := h n (by omega)
    have e : sm f (n + 1) = sm f n + f n := rfl
    rw [e, Int.natCast_add, Int.add_mul, Int.add_mul]
    omega
theorem fts_b {D J : Nat → Int32} {k : Nat} (hD : ∀ j, j < k → -200 ≤ (D j).toInt ∧ (D j).toInt ≤ 200) (hJ : ∀ j, j < k → 0 ≤ (J j).toInt ∧ (J j).toInt ≤ 400) (hk : k ≤ 8) : (-1600 ≤ sD D k ∧ sD D k ≤ 1600) ∧ (0 ≤ sD J k ∧ sD J k ≤ 3200) ∧ (0 ≤ sQ D k ∧ sQ D k ≤ 320000) ∧ (-640000 ≤ sP D J k ∧ sP D J k ≤ 640000) := by
  have a1 := sm_b (f := fun j => (D j).toInt) hD
  have a2 := sm_b (f := fun j => (J j).toInt) hJ
  have a3 := sm_b (f := fun j => (D j).toInt * (D j).toInt) (lo := 0) (hi := 40000) (n := k) (fun j hj => by
    have h1 := hD j hj
    have h2 := mulb (a := (D j).toInt) (b := (D j).toInt) (A := 200) (B := 200) (by omega) (by omega) (by omega) (by omega)
    exact ⟨by rcases Int.le_total 0 (D j).toInt with q | q; exact Int.mul_nonneg q q; exact Int.mul_nonneg_of_nonpos_of_nonpos q q, by omega⟩)
  have a4 := sm_b (f := fun j => (D j).toInt * (J j).toInt) (lo := -80000) (hi := 80000) (n := k) (fun j hj => by
    have h1 := hD j hj
    have h2 := hJ j hj
    have h3 := mulb (a := (D j).toInt) (b := (J j).toInt) (A := 200) (B := 400) (by omega) (by omega) (by omega) (by omega)
    omega)
  unfold sD sQ sP
  omega
theorem fts_s {D J : Nat → Int32} {k : Nat} {x1 x2 x3 x4 : Int64} (hs : fts D J k x1 x2 x3 x4) (hk : k < 8) (d : -200 ≤ (D k).toInt ∧ (D k).toInt ≤ 200) (j : 0 ≤ (J k).toInt ∧ (J k).toInt ≤ 400) (hb : (-1600 ≤ sD D k ∧ sD D k ≤ 1600) ∧ (0 ≤ sD J k ∧ sD J k ≤ 3200) ∧ (0 ≤ sQ D k ∧ sQ D k ≤ 320000) ∧ (-640000 ≤ sP D J k ∧ sP D J k ≤ 640000)) : fts D J (k + 1) (x1 + (D k).toInt64) (x2 + (J k).toInt64) (x3 + (D k * D k).toInt64) (x4 + (D k * J k).toInt64) := by
  obtain ⟨h1, h2, h3, h4⟩ := hs
  have m1 := mulb (a := (D k).toInt) (b := (D k).toInt) (A := 200) (B := 200) (by omega) (by omega) (by omega) (by omega)
  have m2 := mulb (a := (D k).toInt) (b := (J k).toInt) (A := 200) (B := 400) (by omega) (by omega) (by omega) (by omega)
  have e1 : (D k * D k).toInt64.toInt = (D k).toInt * (D k).toInt := by rw [Kit.i64_of_i32, Kit.i32_mul (by omega) (by omega)]
  have e2 : (D k * J k).toInt64.toInt = (D k).toInt * (J k).toInt := by rw [Kit.i64_of_i32, Kit.i32_mul (by omega) (by omega)]
  have q1 : (x1 + (D k).toInt64).toInt = sD D k + (D k).toInt := ad64 h1 (Kit.i64_of_i32 _) (by omega)
  have q2 : (x2 + (J k).toInt64).toInt = sD J k + (J k).toInt := ad64 h2 (Kit.i64_of_i32 _) (by omega)
  have q3 : (x3 + (D k * D k).toInt64).toInt = sQ D k + (D k).toInt * (D k).toInt := ad64 h3 e1 (by omega)
  have q4 : (x4 + (D k * J k).toInt64).toInt = sP D J k + (D k).toInt * (J k).toInt := ad64 h4 e2 (by omega)
  exact ⟨q1, q2, q3, q4⟩
theorem nIL {n : Nat} (h : n ≤ 8) : (nI n).toInt64.toInt = (n : Int) := by rw [Kit.i64_of_i32, nI_toInt (by omega)]
theorem fit_m {D J : Nat → Int32} {im : Nat} {x1 x2 x3 x4 : Int64} (hi : im ≤ 8) (hs : fts D J im x1 x2 x3 x4) (hb : (-1600 ≤ sD D im ∧ sD D im ≤ 1600) ∧ (0 ≤ sD J im ∧ sD J im ≤ 3200) ∧ (0 ≤ sQ D im ∧ sQ D im ≤ 320000) ∧ (-640000 ≤ sP D J im ∧ sP D J im ≤ 640000)) :
    (nI im).toInt64.toInt = (im : Int) ∧ ((nI im).toInt64 * x3 - x1 * x1).toInt = ftb D im ∧ ((nI im).toInt64 * x4 - x1 * x2).toInt = fta D J im ∧ (-2560000 ≤ ftb D im ∧ ftb D im ≤ 2560000) ∧ (-10240000 ≤ fta D J im ∧ fta D J im ≤ 10240000) := by
  obtain ⟨h1, h2, h3, h4⟩ := hs
  have n0 := nIL hi
  have m1 := mulb (a := (im : Int)) (b := sQ D im) (A := 8) (B := 320000) (by omega) (by omega) (by omega) (by omega)
  have m1' : 0 ≤ (im : Int) * sQ D im := Int.mul_nonneg (by omega) (by omega)
  have m2 := mulb (a := sD D im) (b := sD D im) (A := 1600) (B := 1600) (by omega) (by omega) (by omega) (by omega)
  have m2' : 0 ≤ sD D im * sD D im := by rcases Int.le_total 0 (sD D im) with q | q; exact Int.mul_nonneg q q; exact Int.mul_nonneg_of_nonpos_of_nonpos q q
  have m3 := mulb (a := (im : Int)) (b := sP D J im) (A := 8) (B := 640000) (by omega) (by omega) (by omega) (by omega)
  have m4 := mulb (a := sD D im) (b := sD J im) (A := 1600) (B := 3200) (by omega) (by omega) (by omega) (by omega)
  refine ⟨n0, sb64 (mu64 n0 h3 (by omega)) (mu64 h1 h1 (by omega)) (by omega), sb64 (mu64 n0 h4 (by omega)) (mu64 h1 h2 (by omega)) (by omega), ?_, ?_⟩
  · unfold ftb; omega
  · unfold fta; omega
theorem fit_u {D J : Nat → Int32} {im : Nat} {x1 x2 x3 x4 : Int64} {p : Int32} (hi : im ≤ 8) (e2 : 2 ≤ im ∧ 0 < ftb D im) (e3 : -200 ≤ p.toInt ∧ p.toInt ≤ 200) (hs : fts D J im x1 x2 x3 x4) (hb : (-1600 ≤ sD D im ∧ sD D im ≤ 1600) ∧ (0 ≤ sD J im ∧ sD J im ≤ 3200) ∧ (0 ≤ sQ D im ∧ sQ D im ≤ 320000) ∧ (-640000 ≤ sP D J im ∧ sP D J im ≤ 640000)) :
    (x2 * ((nI im).toInt64 * x3 - x1 * x1) - ((nI im).toInt64 * x4 - x1 * x2) * x1 + ((nI im).toInt64 * x4 - x1 * x2) * p.toInt64 * (nI im).toInt64).toInt = ftu D J im p.toInt ∧ ((nI im).toInt64 * ((nI im).toInt64 * x3 - x1 * x1)).toInt = (im : Int) * ftb D im ∧ (x2 * ((nI im).toInt64 * x3 - x1 * x1) - ((nI im).toInt64 * x4 - x1 * x2) * x1 + ((nI im).toInt64 * x4 - x1 * x2) * p.toInt64 * (nI im).toInt64).toInt ≠ -2 ^ 63 ∧ 0 < ((nI im).toInt64 * ((nI im).toInt64 * x3 - x1 * x1)).toInt := by
  obtain ⟨g1, g2, g3, g4, g5⟩ := fit_m hi hs hb
  obtain ⟨h1, h2, h3, h4⟩ := hs
  have m1 := mulb (a := sD J im) (b := ftb D im) (A := 3200) (B := 2560000) (by omega) (by omega) (by omega) (by omega)
  have m2 := mulb (a := fta D J im) (b := sD D im) (A := 10240000) (B := 1600) (by omega) (by omega) (by omega) (by omega)
  have m3 := mulb (a := fta D J im) (b := p.toInt) (A := 10240000) (B := 200) (by omega) (by omega) (by omega) (by omega)
  have m4 := mulb (a := fta D J im * p.toInt) (b := (im : Int)) (A := 10240000 * 200) (B := 8) (by omega) (by omega) (by omega) (by omega)
  have m5 := mulb (a := (im : Int)) (b := ftb D im) (A := 8) (B := 2560000) (by omega) (by omega) (by omega) (by omega)
  have m6 : 0 < (im : Int) * ftb D im := Int.mul_pos (by omega) e2.2
  have k1 := ad64 (sb64 (mu64 h2 g2 (by omega)) (mu64 g3 h1 (by omega)) (by omega)) (mu64 (mu64 g3 (Kit.i64_of_i32 p) (by omega)) g1 (by omega)) (by omega)
  have k2 := mu64 g1 g2 (by omega)
  have ku : sD J im * ftb D im - fta D J im * sD D im + fta D J im * p.toInt * (im : Int) = ftu D J im p.toInt := by
    unfold ftu
    grind
  refine ⟨k1.trans ku, k2, by omega, by omega⟩
theorem fitx_b {ic : Nat} {ds ss : Int64} (hi : ic ≤ 8) (hd : -1600 ≤ ds.toInt ∧ ds.toInt ≤ 1600) (hs : 0 ≤ ss.toInt ∧ ss.toInt ≤ 320000) : ((nI ic).toInt64 * ss - ds * ds).toInt = (ic : Int) * ss.toInt - ds.toInt * ds.toInt ∧ (-2560000 ≤ (ic : Int) * ss.toInt - ds.toInt * ds.toInt ∧ (ic : Int) * ss.toInt - ds.toInt * ds.toInt ≤ 2560000) := by
  have n0 := nIL hi
  have m1 := mulb (a := (ic : Int)) (b := ss.toInt) (A := 8) (B := 320000) (by omega) (by omega) (by omega) (by omega)
  have m1' : 0 ≤ (ic : Int) * ss.toInt := Int.mul_nonneg (by omega) (by omega)
  have m2 := mulb (a := ds.toInt) (b := ds.toInt) (A := 1600) (B := 1600) (by omega) (by omega) (by omega) (by omega)
  have m2' : 0 ≤ ds.toInt * ds.toInt := by rcases Int.le_total 0 ds.toInt with q | q; exact Int.mul_nonneg q q; exact Int.mul_nonneg_of_nonpos_of_nonpos q q
  exact ⟨sb64 (mu64 n0 rfl (by omega)) (mu64 (x := ds) (y := ds) rfl rfl (by omega)) (by omega), by omega⟩
theorem fitx_u {ic : Nat} {ds js ps ss : Int64} {p : Int32} (hi : ic ≤ 8) (hd : -1600 ≤ ds.toInt ∧ ds.toInt ≤ 1600) (hj : 0 ≤ js.toInt ∧ js.toInt ≤ 3200) (hp : -640000 ≤ ps.toInt ∧ ps.toInt ≤ 640000) (hs : 0 ≤ ss.toInt ∧ ss.toInt ≤ 320000) (h0 : 0 < (ic : Int) * ss.toInt - ds.toInt * ds.toInt) (e3 : -200 ≤ p.toInt ∧ p.toInt ≤ 200) :
    (js * ((nI ic).toInt64 * ss - ds * ds) + ((nI ic).toInt64 * ps - ds * js) * ((nI ic * p).toInt64 - ds)).toInt = js.toInt * ((ic : Int) * ss.toInt - ds.toInt * ds.toInt) + ((ic : Int) * ps.toInt - ds.toInt * js.toInt) * ((ic : Int) * p.toInt - ds.toInt) ∧ ((nI ic).toInt64 * ((nI ic).toInt64 * ss - ds * ds)).toInt = (ic : Int) * ((ic : Int) * ss.toInt - ds.toInt * ds.toInt) ∧ (js * ((nI ic).toInt64 * ss - ds * ds) + ((nI ic).toInt64 * ps - ds * js) * ((nI ic * p).toInt64 - ds)).toInt ≠ -2 ^ 63 ∧ 0 < ((nI ic).toInt64 * ((nI ic).toInt64 * ss - ds * ds)).toInt ∧ ((nI ic).toInt64 * ((nI ic).toInt64 * ss - ds * ds)).toInt ≤ 2 ^ 41 := by
  obtain ⟨g1, g2⟩ := fitx_b hi hd hs
  have n0 := nIL hi
  have n1 := nI_toInt (n := ic) (by omega)
  have m3 := mulb (a := (ic : Int)) (b := ps.toInt) (A := 8) (B := 640000) (by omega) (by omega) (by omega) (by omega)
  have m4 := mulb (a := ds.toInt) (b := js.toInt) (A := 1600) (B := 3200) (by omega) (by omega) (by omega) (by omega)
  have m5 := mulb (a := (ic : Int)) (b := p.toInt) (A := 8) (B := 200) (by omega) (by omega) (by omega) (by omega)
  have a1 := sb64 (mu64 n0 (y := ps) rfl (by omega)) (mu64 (x := ds) (y := js) rfl rfl (by omega)) (by omega)
  have q1 : (nI ic * p).toInt64.toInt = (ic : Int) * p.toInt := by rw [Kit.i64_of_i32, Kit.i32_mul (by rw [n1]; omega) (by rw [n1]; omega), n1]
  have a2 := sb64 q1 (y := ds) rfl (by omega)
  have m6 := mulb (a := js.toInt) (b := (ic : Int) * ss.toInt - ds.toInt * ds.toInt) (A := 3200) (B := 2560000) (by omega) (by omega) (by omega) (by omega)
  have m7 := mulb (a := (ic : Int) * ps.toInt - ds.toInt * js.toInt) (b := (ic : Int) * p.toInt - ds.toInt) (A := 10240000) (B := 3200) (by omega) (by omega) (by omega) (by omega)
  have m8 := mulb (a := (ic : Int)) (b := (ic : Int) * ss.toInt - ds.toInt * ds.toInt) (A := 8) (B := 2560000) (by omega) (by omega) (by omega) (by omega)
  have m9 : 0 < (ic : Int) * ((ic : Int) * ss.toInt - ds.toInt * ds.toInt) := by
    refine Int.mul_pos ?_ h0
    rcases Nat.eq_zero_or_pos ic with q | q
    · subst q
      have : 0 ≤ ds.toInt * ds.toInt := by rcases Int.le_total 0 ds.toInt with q | q; exact Int.mul_nonneg q q; exact Int.mul_nonneg_of_nonpos_of_nonpos q q
      omega
    · omega
  have k1 := ad64 (mu64 (x := js) rfl g1 (by omega)) (mu64 a1 a2 (by omega)) (by omega)
  have k2 := mu64 n0 g1 (by omega)
  exact ⟨k1, k2, by omega, by omega, by omega⟩
