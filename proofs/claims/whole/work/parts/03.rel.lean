/-! what a call is refused for: the number of the first condition that fails -/
def kd4 (a b c d : Prop) [Decidable a] [Decidable b] [Decidable c] [Decidable d] : Int32 := if ¬ a then 1 else if ¬ b then 2 else if ¬ c then 3 else if ¬ d then 4 else 0
section KD
variable {a b c d : Prop}
theorem kd_1 [Decidable a] [Decidable b] [Decidable c] [Decidable d] (h1 : ¬ a) : kd4 a b c d = 1 := by unfold kd4; rw [if_pos h1]
theorem kd_2 [Decidable a] [Decidable b] [Decidable c] [Decidable d] (h1 : a) (h2 : ¬ b) : kd4 a b c d = 2 := by unfold kd4; rw [if_neg (fun q => q h1), if_pos h2]
theorem kd_3 [Decidable a] [Decidable b] [Decidable c] [Decidable d] (h1 : a) (h2 : b) (h3 : ¬ c) : kd4 a b c d = 3 := by unfold kd4; rw [if_neg (fun q => q h1), if_neg (fun q => q h2), if_pos h3]
theorem kd_4 [Decidable a] [Decidable b] [Decidable c] [Decidable d] (h1 : a) (h2 : b) (h3 : c) (h4 : ¬ d) : kd4 a b c d = 4 := by unfold kd4; rw [if_neg (fun q => q h1), if_neg (fun q => q h2), if_neg (fun q => q h3), if_pos h4]
theorem kd_0 [Decidable a] [Decidable b] [Decidable c] [Decidable d] (h1 : a) (h2 : b) (h3 : c) (h4 : d) : kd4 a b c d = 0 := by unfold kd4; rw [if_neg (fun q => q h1), if_neg (fun q => q h2), if_neg (fun q => q h3), if_neg (fun q => q h4)]
theorem kd_z [Decidable a] [Decidable b] [Decidable c] [Decidable d] (h : kd4 a b c d = 0) : a ∧ b ∧ c ∧ d := by
  by_cases h1 : a
  · by_cases h2 : b
    · by_cases h3 : c
      · by_cases h4 : d
        · exact ⟨h1, h2, h3, h4⟩
        · rw [kd_4 h1 h2 h3 h4] at h; exact absurd h (by decide)
      · rw [kd_3 h1 h2 h3] at h; exact absurd h (by decide)
    · rw [kd_2 h1 h2] at h; exact absurd h (by decide)
  · rw [kd_1 h1] at h; exact absurd h (by decide)
end KD
theorem kd_congr {a b c d a' b' c' d' : Prop} [Decidable a] [Decidable b] [Decidable c] [Decidable d] [Decidable a'] [Decidable b'] [Decidable c'] [Decidable d'] (h1 : a ↔ a') (h2 : a → (b ↔ b')) (h3 : a → b → (c ↔ c')) (h4 : a → b → c → (d ↔ d')) : kd4 a b c d = kd4 a' b' c' d' := by
  by_cases q1 : a
  · by_cases q2 : b
    · by_cases q3 : c
      · by_cases q4 : d
        · rw [kd_0 q1 q2 q3 q4, kd_0 (h1.mp q1) ((h2 q1).mp q2) ((h3 q1 q2).mp q3) ((h4 q1 q2 q3).mp q4)]
        · rw [kd_4 q1 q2 q3 q4, kd_4 (h1.mp q1) ((h2 q1).mp q2) ((h3 q1 q2).mp q3) (fun z => q4 ((h4 q1 q2 q3).mpr z))]
      · rw [kd_3 q1 q2 q3, kd_3 (h1.mp q1) ((h2 q1).mp q2) (fun z => q3 ((h3 q1 q2).mpr z))]
    · rw [kd_2 q1 q2, kd_2 (h1.mp q1) (fun z => q2 ((h2 q1).mpr z))]
  · rw [kd_1 q1, kd_1 (fun z => q1 (h1.mpr z))]
abbrev ok_row (n : Nat) (S : Nat → Int32) (p1 p2 : Int32) : Prop := (0 ≤ p1.toInt ∧ p1.toInt ≤ 1000000) ∧ (0 ≤ p2.toInt ∧ p2.toInt ≤ 1000000) ∧ (n = 0 ∨ (S (n - 1)).toInt < p1.toInt)
abbrev ok_sec (p1 p2 : Int32) : Prop := (1 ≤ p1.toInt ∧ p1.toInt ≤ 10000) ∧ (0 ≤ p2.toInt ∧ p2.toInt ≤ 1000000)
abbrev ok_span (p1 p2 : Int32) : Prop := (0 ≤ p1.toInt ∧ p1.toInt ≤ 1000000) ∧ (0 ≤ p2.toInt ∧ p2.toInt ≤ 1000000) ∧ p1.toInt < p2.toInt
abbrev ok_len (p1 p2 : Int32) : Prop := (1 ≤ p1.toInt ∧ p1.toInt ≤ 1000000) ∧ (1 ≤ p2.toInt ∧ p2.toInt ≤ 1000000)
abbrev ok_mac (p1 p2 : Int32) : Prop := (1 ≤ p1.toInt ∧ p1.toInt ≤ 1000000) ∧ (1 ≤ p2.toInt ∧ p2.toInt ≤ 1000000)
abbrev ok_imp (p1 p2 : Int32) : Prop := (-200 ≤ p1.toInt ∧ p1.toInt ≤ 200) ∧ (0 ≤ p2.toInt ∧ p2.toInt ≤ 400)
abbrev ok_tab (tc : Nat) (X : Nat → Int32) (p1 p2 : Int32) : Prop := (0 ≤ p1.toInt ∧ p1.toInt ≤ 2000) ∧ (0 ≤ p2.toInt ∧ p2.toInt ≤ 2000) ∧ (tc = 0 ∨ (X (tc - 1)).toInt < p1.toInt)
abbrev ok_rd (y1 y2 : Int64) : Prop := (1 ≤ y2.toInt ∧ y2.toInt ≤ 1000000000000) ∧ (-1000000000000 ≤ y1.toInt ∧ y1.toInt ≤ 1000000000000)
abbrev ok_cv (tc : Nat) (X : Nat → Int32) (p1 : Int32) : Prop := 0 < tc ∧ (X 0).toInt ≤ p1.toInt ∧ p1.toInt ≤ (X (tc - 1)).toInt
abbrev ok_pk (n : Nat) (ar p1 : Int32) : Prop := 0 < n ∧ (¬ p1.toInt = 2 ∨ 0 < ar.toInt)
abbrev mfail (p1 p2 : Int32) : Prop := p1.toInt < 100 * (p1.toInt - p2.toInt) ∨ p1.toInt < 100 * (p2.toInt - p1.toInt)
theorem nI_p1 {n : Nat} (h : 1 ≤ n) : nI n - 1 = nI (n - 1) := by
  obtain ⟨k, rfl⟩ : ∃ k, n = k + 1 := ⟨n - 1, by omega⟩
  rw [nI_pred, Nat.add_sub_cancel]
theorem bI_nar {c : Prop} [Decidable c] : narrow .boolean (.int (bI c)) = .int (bI c) := by
  by_cases h : c
  · rw [bI_1 h]; rfl
  · rw [bI_0 h]; rfl
theorem bI_fit {c : Prop} [Decidable c] : fits .boolean (.int (bI c)) = true := by
  by_cases h : c
  · rw [bI_1 h]; rfl
  · rw [bI_0 h]; rfl
/-- of n rows, how many lie below v -/
def cl (S : Nat → Int32) (v : Int) : Nat → Nat
  | 0 => 0
  | n + 1 => cl S v n + if (S n).toInt < v then 1 else 0
theorem cl_t {S : Nat → Int32} {v : Int} {n : Nat} (h : (S n).toInt < v) : cl S v (n + 1) = cl S v n + 1 := by rw [cl, if_pos h]
theorem cl_f {S : Nat → Int32} {v : Int} {n : Nat} (h : ¬ (S n).toInt < v) : cl S v (n + 1) = cl S v n := by rw [cl, if_neg h]; rfl
theorem cl_le (S : Nat → Int32) (v : Int) (n : Nat) : cl S v n ≤ n := by
  induction n with
  | zero => exact Nat.le_refl 0
  | succ n ih =>
    by_cases h : (S n).toInt < v
    · rw [cl_t h]; omega
    · rw [cl_f h]; omega
/-- rising rows -/
abbrev ris (S : Nat → Int32) (n : Nat) : Prop := ∀ j k, j < k → k < n → (S j).toInt < (S k).toInt
theorem ris_le {S : Nat → Int32} {n k : Nat} (h : ris S n) (hk : k ≤ n) : ris S k := fun i j h1 h2 => h i j h1 (by omega)
theorem cl_all {S : Nat → Int32} {v : Int} {n : Nat} (h : ∀ j, j < n → (S j).toInt < v) : cl S v n = n := by
  induction n with
  | zero => rfl
  | succ n ih => rw [cl_t (h n (by omega)), ih (fun j hj => h j (by omega))]
theorem cl_none {S : Nat → Int32} {v : Int} {n k : Nat} (h : ∀ j, k ≤ j → j < n → ¬ (S j).toInt < v) (hk : k ≤ n) : cl S v n = cl S v k := by
  induction n with
  | zero => rw [show k = 0 by omega]
  | succ n ih =>
    by_cases q : k ≤ n
    · rw [cl_f (h n q (by omega)), ih (fun j h1 h2 => h j h1 (by omega)) q]
    · rw [show k = n + 1 by omega]
theorem cl_is {S : Nat → Int32} {v : Int} {n k : Nat} (hk : k ≤ n) (h1 : ∀ j, j < k → (S j).toInt < v) (h2 : ∀ j, k ≤ j → j < n → ¬ (S j).toInt < v) : cl S v n = k := by
  rw [cl_none h2 hk, cl_all h1]
/-- the class's first row from v on -/
theorem cl_first {S : Nat → Int32} {v : Int} {n k : Nat} (hr : ris S n) (hk : k ≤ n) (h1 : ∀ j, j < k → (S j).toInt < v) (h2 : k < n → v ≤ (S k).toInt) : cl S v n = k := by
  refine cl_is hk h1 (fun j a b => ?_)
  have h3 := h2 (by omega)
  rcases Nat.lt_or_eq_of_le a with q | q
  · have := hr k j q b
    omega
  · subst q
    omega
/-- the class's last row up to v -/
theorem cl_last {S : Nat → Int32} {v : Int} {n k : Nat} (hr : ris S n) (hk : k ≤ n) (h1 : ∀ j, k ≤ j → j < n → v < (S j).toInt) (h2 : 0 < k → (S (k - 1)).toInt ≤ v) : cl S (v + 1) n = k := by
  refine cl_is hk (fun j a => ?_) (fun j a b => ?_)
  · have h3 := h2 (by omega)
    rcases Nat.lt_or_eq_of_le (show j ≤ k - 1 by omega) with q | q
    · have := hr j (k - 1) q (by omega)
      omega
    · rw [q]
      omega
  · have := h1 j a b
    omega
/-- the reference's way through the rows of a span -/
def spf (a b : Nat) (z4 z5 : Int32) : Prop := (b ≤ a ∧ z4.toInt = -1 ∧ z5.toInt = -1) ∨ (a < b ∧ z4.toInt = (a : Int) ∧ z5.toInt = (b : Int) - 1)
theorem cl_pre {S : Nat → Int32} {v : Int} {n k : Nat} (hr : ris S n) (hk : k < n) (h : (S k).toInt < v) : cl S v k = k := cl_all (fun j hj => by have := hr j k hj hk; omega)
theorem sp_lo {S : Nat → Int32} {v w : Int} {n k : Nat} {z4 z5 : Int32} (hr : ris S n) (hk : k < n) (hf : spf (cl S v k) (cl S w k) z4 z5) (h : (S k).toInt < v) : spf (cl S v (k + 1)) (cl S w (k + 1)) z4 z5 := by
  have a := cl_pre hr hk h
  have b := cl_le S w k
  have b2 := cl_le S w (k + 1)
  rw [cl_t h, a]
  rw [a] at hf
  unfold spf at hf ⊢
  omega
theorem sp_hi {S : Nat → Int32} {v w : Int} {k : Nat} {z4 z5 : Int32} (hf : spf (cl S v k) (cl S w k) z4 z5) (h : ¬ (S k).toInt < v) (h2 : ¬ (S k).toInt < w) : spf (cl S v (k + 1)) (cl S w (k + 1)) z4 z5 := by
  rw [cl_f h, cl_f h2]
  exact hf
theorem sp_in1 {S : Nat → Int32} {v w : Int} {n k : Nat} {z4 z5 : Int32} (hr : ris S n) (hk : k < n) (hn : n ≤ 40) (hf : spf (cl S v k) (cl S w k) z4 z5) (h : ¬ (S k).toInt < v) (h2 : (S k).toInt < w) (hz : ¬ 0 ≤ z4.toInt) : spf (cl S v (k + 1)) (cl S w (k + 1)) (nI k) (nI k) := by
  have a := cl_pre hr hk h2
  have b := cl_le S v k
  have e := nI_toInt (n := k) (by omega)
  rw [cl_f h, cl_t h2, a]
  rw [a] at hf
  unfold spf at hf ⊢
  rw [e]
  omega
theorem sp_in2 {S : Nat → Int32} {v w : Int} {n k : Nat} {z4 z5 : Int32} (hr : ris S n) (hk : k < n) (hn : n ≤ 40) (hf : spf (cl S v k) (cl S w k) z4 z5) (h : ¬ (S k).toInt < v) (h2 : (S k).toInt < w) (hz : 0 ≤ z4.toInt) : spf (cl S v (k + 1)) (cl S w (k + 1)) z4 (nI k) := by
  have a := cl_pre hr hk h2
  have b := cl_le S v k
  have e := nI_toInt (n := k) (by omega)
  rw [cl_f h, cl_t h2, a]
  rw [a] at hf
  unfold spf at hf ⊢
  rw [e]
  omega
theorem part_g {y1 y2 g1 : Int64} {u v : Nat} (h2 : 0 < y2.toInt) (hu : g1.toInt = (u : Int)) (hg : Nat.gcd u v = Nat.gcd y1.toInt.natAbs y2.toInt.natAbs) (hv : v = 0) : g1.toInt = (Int.gcd y1.toInt y2.toInt : Int) ∧ 1 ≤ g1.toInt :=
  pit_g h2 (by rw [hu, ← hg, hv, Nat.gcd_zero_right])
theorem part_u {y1 y2 g1 : Int64} (h1 : y1.toInt ≠ -2 ^ 63) (hg : g1.toInt = (Int.gcd y1.toInt y2.toInt : Int) ∧ 1 ≤ g1.toInt) : (y1 / g1).toInt = fr y1.toInt y2.toInt 0 := by
  have := hg.2
  unfold fr
  rw [if_pos rfl, ← hg.1, Kit.i64_div (by omega)]
theorem part_l {y1 y2 g1 : Int64} (h2 : 0 < y2.toInt) (hg : g1.toInt = (Int.gcd y1.toInt y2.toInt : Int) ∧ 1 ≤ g1.toInt) : (y2 / g1).toInt = fr y1.toInt y2.toInt 1 := by
  have := hg.2
  unfold fr
  rw [if_neg (by decide), ← hg.1, Kit.i64_div (by omega)]
theorem fr_1 {U L p : Int} (h : ¬ p = 0) : fr U L p = fr U L 1 := by
  unfold fr
  rw [if_neg h, if_neg (by decide)]
theorem part_r0 {U L p : Int} {r : Int} (hp : p = 0) (h : r = fr U L 0) : r = fr U L p := by rw [hp]; exact h
theorem part_r1 {U L p : Int} {r : Int} (hp : ¬ p = 0) (h : r = fr U L 1) : r = fr U L p := by rw [fr_1 hp]; exact h
theorem str_e {p1 p2 : Int32} (h : ok_len p1 p2) : (p2 - p1).toInt64.toInt = p2.toInt - p1.toInt ∧ p1.toInt64.toInt = p1.toInt ∧ 1 ≤ p1.toInt ∧ p1.toInt ≤ 1000000 ∧ 1 ≤ p2.toInt ∧ p2.toInt ≤ 1000000 := by
  obtain ⟨⟨a1, a2⟩, a3, a4⟩ := h
  refine ⟨?_, Kit.i64_of_i32 _, a1, a2, a3, a4⟩
  rw [Kit.i64_of_i32, Kit.i32_sub (by omega) (by omega)]
theorem mac_e {p1 p2 : Int32} (h : ok_mac p1 p2) : ((p1 - p2) * 100).toInt = 100 * (p1.toInt - p2.toInt) ∧ ((p2 - p1) * 100).toInt = 100 * (p2.toInt - p1.toInt) ∧ (p1 - p2).toInt = p1.toInt - p2.toInt ∧ 1 ≤ p1.toInt ∧ p1.toInt ≤ 1000000 ∧ 1 ≤ p2.toInt ∧ p2.toInt ≤ 1000000 := by
  obtain ⟨⟨a1, a2⟩, a3, a4⟩ := h
  have c : (100 : Int32).toInt = 100 := by decide
  have e1 : (p1 - p2).toInt = p1.toInt - p2.toInt := Kit.i32_sub (by omega) (by omega)
  have e2 : (p2 - p1).toInt = p2.toInt - p1.toInt := Kit.i32_sub (by omega) (by omega)
  refine ⟨?_, ?_, e1, a1, a2, a3, a4⟩
  · rw [Kit.i32_mul (by rw [e1, c]; omega) (by rw [e1, c]; omega), e1, c]; omega
  · rw [Kit.i32_mul (by rw [e2, c]; omega) (by rw [e2, c]; omega), e2, c]; omega
theorem sp_end {a b : Nat} {z4 z5 : Int32} (hf : spf a b z4 z5) (h : a + 1 < b) : z4.toInt = (a : Int) ∧ z5.toInt = (b : Int) - 1 := by
  unfold spf at hf
  omega
theorem sl_e {S F : Nat → Int32} {n a b : Nat} (hn : n ≤ 40) (hr : ris S n) (hS : ∀ j, j < n → 0 ≤ (S j).toInt ∧ (S j).toInt ≤ 1000000) (hF : ∀ j, j < n → 0 ≤ (F j).toInt ∧ (F j).toInt ≤ 1000000) (h : a + 1 < b) (hb : b ≤ n) :
    (F (b - 1) - F a).toInt64.toInt = (F (b - 1)).toInt - (F a).toInt ∧ (S (b - 1) - S a).toInt64.toInt = (S (b - 1)).toInt - (S a).toInt ∧ (-1000000 ≤ (F (b - 1)).toInt - (F a).toInt ∧ (F (b - 1)).toInt - (F a).toInt ≤ 1000000) ∧ (1 ≤ (S (b - 1)).toInt - (S a).toInt ∧ (S (b - 1)).toInt - (S a).toInt ≤ 1000000) := by
  have f1 := hF (b - 1) (by omega)
  have f2 := hF a (by omega)
  have s1 := hS (b - 1) (by omega)
  have s2 := hS a (by omega)
  have s3 := hr a (b - 1) (by omega) (by omega)
  refine ⟨?_, ?_, by omega, by omega⟩
  · rw [Kit.i64_of_i32, Kit.i32_sub (by omega) (by omega)]
  · rw [Kit.i64_of_i32, Kit.i32_sub (by omega) (by omega)]
theorem sl_r {y1 y2 : Int64} {U L p r : Int} (h1 : y1.toInt = U) (h2 : y2.toInt = L) (h : r = fr y1.toInt y2.toInt p) : r = fr U L p := by rw [h, h1, h2]
theorem fr_sgn {U L : Int} (hL : 1 ≤ L) : 0 < fr U L 0 ↔ 0 < U := by
  unfold fr
  rw [if_pos rfl]
  have hg : 0 < (Int.gcd U L : Int) := by
    have := Int.gcd_pos_of_ne_zero_right U (b := L) (by omega)
    omega
  rw [Int.tdiv_eq_ediv_of_dvd (Int.gcd_dvd_left U L)]
  have h1 : U / (Int.gcd U L : Int) * (Int.gcd U L : Int) = U := Int.ediv_mul_cancel (Int.gcd_dvd_left U L)
  constructor
  · intro h
    have := Int.mul_pos h hg
    omega
  · intro h
    rcases Int.lt_or_le 0 (U / (Int.gcd U L : Int)) with q | q
    · exact q
    · have := Int.mul_nonpos_of_nonpos_of_nonneg q (show (0 : Int) ≤ (Int.gcd U L : Int) by omega)
      omega
theorem sl_p {y1 y2 : Int64} {U L r : Int} (h1 : y1.toInt = U) (h2 : y2.toInt = L) (hL : 1 ≤ L ∧ L ≤ 1000000) (h : r = fr y1.toInt y2.toInt 0) : 0 < r ↔ 0 < U := by
  rw [h, h1, h2]
  exact fr_sgn hL.1
/-- of the peak: its force, its strain without the slack, its strength -/
def pka (S F : Nat → Int32) (n : Nat) (sl ar p : Int32) : Int32 := if p.toInt = 0 then F (pk F n) else if p.toInt = 1 then S (pk F n) - sl else F (pk F n) * 1000 / ar
theorem pka_0 {S F : Nat → Int32} {n : Nat} {sl ar p : Int32} (h : p.toInt = 0) : pka S F n sl ar p = F (pk F n) := if_pos h
theorem pka_1 {S F : Nat → Int32} {n : Nat} {sl ar p : Int32} (h : p.toInt = 1) : pka S F n sl ar p = S (pk F n) - sl := by
  unfold pka
  rw [if_neg (by omega), if_pos h]
theorem pka_2 {S F : Nat → Int32} {n : Nat} {sl ar p : Int32} (h0 : ¬ p.toInt = 0) (h : ¬ p.toInt = 1) : pka S F n sl ar p = F (pk F n) * 1000 / ar := by
  unfold pka
  rw [if_neg h0, if_neg h]
/-- by which rule a test is invalid -/
def ivs (F : Nat → Int32) (n : Nat) (ar : Int) (ck : Prop) (r : Int32) : Prop :=
  (ar = 0 ∧ r = 1) ∨ (¬ ar = 0 ∧ n < 5 ∧ r = 2) ∨ (¬ ar = 0 ∧ 5 ≤ n ∧ pk F n = 0 ∧ r = 3) ∨ (¬ ar = 0 ∧ 5 ≤ n ∧ ¬ pk F n = 0 ∧ ¬ (pk F n = n - 1 ∨ hfb F n (pk F n)) ∧ r = 4) ∨
  (¬ ar = 0 ∧ 5 ≤ n ∧ ¬ pk F n = 0 ∧ (pk F n = n - 1 ∨ hfb F n (pk F n)) ∧ ck ∧ r = 5) ∨ (¬ ar = 0 ∧ 5 ≤ n ∧ ¬ pk F n = 0 ∧ (pk F n = n - 1 ∨ hfb F n (pk F n)) ∧ ¬ ck ∧ r = 0)
theorem hfb_0 {F : Nat → Int32} {q : Nat} : ¬ hfb F (q + 1) q := fun ⟨j, h1, h2, _⟩ => by omega
theorem iv_s {F : Nat → Int32} {n q : Nat} (h : q = n - 1) : ((1 : Int32) = 1 ∧ (q = n - 1 ∨ hfb F (q + 1) q)) ∨ ((1 : Int32) = 0 ∧ ¬ (q = n - 1 ∨ hfb F (q + 1) q)) := Or.inl ⟨rfl, Or.inl h⟩
theorem iv_n {F : Nat → Int32} {n q : Nat} (h : ¬ q = n - 1) : ((0 : Int32) = 1 ∧ (q = n - 1 ∨ hfb F (q + 1) q)) ∨ ((0 : Int32) = 0 ∧ ¬ (q = n - 1 ∨ hfb F (q + 1) q)) := Or.inr ⟨rfl, fun z => z.elim h hfb_0⟩
theorem iv_1 {F : Nat → Int32} {n q k : Nat} (hk : q < k) (h : (F k).toInt * 2 < (F q).toInt) : ((1 : Int32) = 1 ∧ (q = n - 1 ∨ hfb F (k + 1) q)) ∨ ((1 : Int32) = 0 ∧ ¬ (q = n - 1 ∨ hfb F (k + 1) q)) := Or.inl ⟨rfl, Or.inr ⟨k, hk, by omega, h⟩⟩
theorem iv_0 {F : Nat → Int32} {n q k : Nat} {z : Int32} (hz : (z = 1 ∧ (q = n - 1 ∨ hfb F k q)) ∨ (z = 0 ∧ ¬ (q = n - 1 ∨ hfb F k q))) (h : ¬ (F k).toInt * 2 < (F q).toInt) : (z = 1 ∧ (q = n - 1 ∨ hfb F (k + 1) q)) ∨ (z = 0 ∧ ¬ (q = n - 1 ∨ hfb F (k + 1) q)) := by
  rcases hz with ⟨e, hz⟩ | ⟨e, hz⟩
  · refine Or.inl ⟨e, hz.imp id ?_⟩
    rintro ⟨j, h1, h2, h3⟩
    exact ⟨j, h1, by omega, h3⟩
  · refine Or.inr ⟨e, fun w => hz (w.imp id ?_)⟩
    rintro ⟨j, h1, h2, h3⟩
    rcases Nat.lt_or_ge j k with g | g
    · exact ⟨j, h1, g, h3⟩
    · rw [show j = k by omega] at h3
      exact absurd h3 h
theorem iv_z {z : Int32} {P : Prop} (hz : (z = 1 ∧ P) ∨ (z = 0 ∧ ¬ P)) (h : z.toInt = 0) : ¬ P := by
  rcases hz with ⟨e, -⟩ | ⟨-, hz⟩
  · rw [e] at h; exact absurd h (by decide)
  · exact hz
theorem iv_nz {z : Int32} {P : Prop} (hz : (z = 1 ∧ P) ∨ (z = 0 ∧ ¬ P)) (h : ¬ z.toInt = 0) : P := by
  rcases hz with ⟨-, hz⟩ | ⟨e, -⟩
  · exact hz
  · rw [e] at h; exact absurd h (by decide)
