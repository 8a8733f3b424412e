/-! pure rows: numbers alone, no machine -/
def bI (c : Prop) [Decidable c] : Int32 := if c then 1 else 0
theorem bI_1 {c : Prop} [Decidable c] (h : c) : bI c = 1 := if_pos h
theorem bI_0 {c : Prop} [Decidable c] (h : ¬ c) : bI c = 0 := if_neg h
theorem bI_eq0 {c : Prop} [Decidable c] : bI c = 0 ↔ ¬ c := by
  constructor
  · intro h q
    rw [bI_1 q] at h
    exact absurd h (by decide)
  · exact bI_0
theorem bI_ne0 {c : Prop} [Decidable c] : ¬ bI c = 0 ↔ c := by
  constructor
  · intro h
    exact Decidable.byContradiction (fun q => h (bI_0 q))
  · intro h q
    exact bI_eq0.mp q h
theorem one32 : (1 : Int32).toInt = 1 := by decide
theorem m132 : (-1 : Int32).toInt = -1 := by decide
theorem two32 : (2 : Int32).toInt = 2 := by decide
theorem one64 : (1 : Int64).toInt = 1 := by decide
theorem two64 : (2 : Int64).toInt = 2 := by decide
theorem zero64 : (0 : Int64).toInt = 0 := by decide
theorem cl_of {z : Int32} {j : Nat} (h : z.toInt = (j : Int)) : z.toNatClampNeg = j := by
  rw [← Int32.toNat_toInt, h]
  rfl
theorem nI_m1 {n : Nat} (h : n ≤ 40) : (nI n - 1).toInt = (n : Int) - 1 := by
  have h2 := nI_toInt (n := n) (by omega)
  rw [Kit.i32_sub (by rw [one32, h2]; omega) (by rw [one32, h2]; omega), one32, h2]
theorem nI_sub1 {k : Nat} (h : 1 ≤ k) (h2 : k < 2 ^ 31) : (nI k - 1).toInt = ((k - 1 : Nat) : Int) := by
  have h3 := nI_toInt (n := k) h2
  rw [Kit.i32_sub (by rw [one32, h3]; omega) (by rw [one32, h3]; omega), one32, h3]
  omega
theorem i32_m1 {z : Int32} {b : Int} (h0 : 0 ≤ z.toInt) (h : z.toInt = b + 1) : (z + (-1)).toInt = b := by
  have h1 := z.toInt_lt
  rw [Kit.i32_add (by rw [m132]; omega) (by rw [m132]; omega), m132]
  omega
theorem i32_x2 {a : Int32} (h1 : 0 ≤ a.toInt) (h2 : a.toInt ≤ 1000000) : (a * 2).toInt = a.toInt * 2 := by
  rw [Kit.i32_mul (by rw [two32]; omega) (by rw [two32]; omega), two32]
theorem i32_x2' {a : Int32} (h1 : 0 ≤ a.toInt) (h2 : a.toInt ≤ 1000000) : (2 * a).toInt = a.toInt * 2 := by
  rw [Kit.i32_mul (by rw [two32]; omega) (by rw [two32]; omega), two32]
  omega
theorem ext_dn {P : Nat → Prop} {k n : Nat} (h : 0 < k) (ha : ∀ j, k ≤ j → j < n → P j) (hp : P (k - 1)) : ∀ j, k - 1 ≤ j → j < n → P j := by
  intro j h1 h2
  rcases Nat.lt_or_ge j k with q | q
  · rw [show j = k - 1 by omega]
    exact hp
  · exact ha j q h2
theorem ext_up {P : Nat → Prop} {k : Nat} (ha : ∀ j, 1 ≤ j → j < k → P j) (hp : P k) : ∀ j, 1 ≤ j → j < k + 1 → P j := by
  intro j h1 h2
  rcases Nat.lt_or_ge j k with q | q
  · exact ha j h1 q
  · rw [show j = k by omega]
    exact hp
theorem ext_q {P : Nat → Prop} {k q0 : Nat} (ha : ∀ j, q0 < j → j < k → P j) (hp : P k) : ∀ j, q0 < j → j < k + 1 → P j := by
  intro j h1 h2
  rcases Nat.lt_or_ge j k with q | q
  · exact ha j h1 q
  · rw [show j = k by omega]
    exact hp
/-- how far a row is above the line, as the class has it, and as the reference has it -/
def exl (S F : Nat → Int32) (mu ml : Int64) (ls : Int32) (k : Nat) : Int64 := (F k).toInt64 * ml - mu * (S k - ls).toInt64
def exm (S F : Nat → Int32) (hu hw : Int64) (sl sh : Int32) (k : Nat) : Int64 := (F k).toInt64 * hw - hu * (S k - sl - sh).toInt64
def mtg (g : Nat → Int64) (k : Nat) : Prop := (g k).toInt ≤ 0 ∧ 0 < (g (k - 1)).toInt
/-- the first place of the greatest force among n rows -/
def pk (F : Nat → Int32) : Nat → Nat
  | 0 => 0
  | k + 1 => if (F (pk F k)).toInt < (F k).toInt then k else pk F k
theorem pkf_t (F : Nat → Int32) (k : Nat) (h : (F (pk F k)).toInt < (F k).toInt) : pk F (k + 1) = k := by
  unfold pk
  rw [if_pos h]
theorem pkf_f (F : Nat → Int32) (k : Nat) (h : ¬ (F (pk F k)).toInt < (F k).toInt) : pk F (k + 1) = pk F k := by
  rw [pk, if_neg h]
theorem pkf_1 (F : Nat → Int32) : (0 : Int32) = nI (pk F 1) := by
  rw [pkf_f F 0 (by unfold pk; omega)]
  rfl
theorem pkf_lt (F : Nat → Int32) {k : Nat} (h : 1 ≤ k) : pk F k < k := by
  induction k with
  | zero => omega
  | succ k ih =>
    by_cases q : (F (pk F k)).toInt < (F k).toInt
    · rw [pkf_t F k q]
      omega
    · rw [pkf_f F k q]
      rcases Nat.eq_zero_or_pos k with z | z
      · subst z
        exact Nat.zero_lt_one
      · have := ih z
        omega
/-- behind row q some force is below a half of its force -/
def hfb (F : Nat → Int32) (n q : Nat) : Prop := ∃ j, q < j ∧ j < n ∧ (F j).toInt * 2 < (F q).toInt
/-! Euclid's way: the product of the two numbers halves at each step -/
def eu_inv (a b i u v : Nat) : Prop := Nat.gcd u v = Nat.gcd a b ∧ ((i = 0 ∧ v ≤ 2 ^ 41) ∨ (0 < i ∧ v ≤ u ∧ u * v * 2 ^ (i - 1) ≤ 2 ^ 82))
theorem eu_0 {a b : Nat} (h : b ≤ 2 ^ 41) : eu_inv a b 0 a b := ⟨rfl, Or.inl ⟨rfl, h⟩⟩
theorem eu_half {x y : Nat} (hy : 0 < y) (h : y ≤ x) : 2 * (y * (x % y)) ≤ x * y := by
  have h1 := Nat.mod_lt x hy
  have h2 := Nat.mod_add_div x y
  have h3 : 1 ≤ x / y := (Nat.le_div_iff_mul_le hy).mpr (by omega)
  have h4 : y * 1 ≤ y * (x / y) := Nat.mul_le_mul_left y h3
  rw [Nat.mul_left_comm, Nat.mul_comm x y]
  exact Nat.mul_le_mul_left y (by omega)
theorem eu_gcd (u v : Nat) : Nat.gcd v (u % v) = Nat.gcd u v := by
  rw [Nat.gcd_comm u v, Nat.gcd_rec v u, Nat.gcd_comm]
theorem eu_next {a b i u v : Nat} (h : eu_inv a b i u v) (hv : v ≠ 0) : eu_inv a b (i + 1) v (u % v) := by
  obtain ⟨hg, h⟩ := h
  have hv0 : 0 < v := by omega
  have hm := Nat.mod_lt u hv0
  refine ⟨(eu_gcd u v).trans hg, Or.inr ⟨by omega, by omega, ?_⟩⟩
  rw [Nat.add_sub_cancel]
  rcases h with ⟨rfl, h⟩ | ⟨hi, hvu, hb⟩
  · have h1 : v * (u % v) ≤ 2 ^ 41 * 2 ^ 41 := Nat.mul_le_mul h (by omega)
    rw [Nat.pow_zero, Nat.mul_one]
    exact Nat.le_trans h1 (by decide)
  · have h1 := eu_half hv0 hvu
    have h2 : 2 ^ i = 2 * 2 ^ (i - 1) := by
      obtain ⟨k, rfl⟩ : ∃ k, i = k + 1 := ⟨i - 1, by omega⟩
      rw [Nat.add_sub_cancel, Nat.pow_succ, Nat.mul_comm]
    rw [h2, ← Nat.mul_assoc, Nat.mul_comm (v * (u % v)) 2]
    exact Nat.le_trans (Nat.mul_le_mul_right _ h1) hb
theorem eu_end {a b i u v : Nat} (hi : i = 100) (h : eu_inv a b i u v) : v = 0 := by
  obtain ⟨-, h⟩ := h
  rcases h with ⟨h, -⟩ | ⟨-, hvu, hb⟩
  · omega
  · rcases Nat.eq_zero_or_pos v with q | q
    · exact q
    · have h1 : 1 * 1 ≤ u * v := Nat.mul_le_mul (by omega) q
      have h2 : 1 * 2 ^ (i - 1) ≤ u * v * 2 ^ (i - 1) := Nat.mul_le_mul_right _ (by omega)
      rw [hi] at h2 hb
      exact absurd (Nat.le_trans h2 hb) (by decide)
theorem eu_out {a b i u v : Nat} {g1 : Int64} (h : eu_inv a b i u v) (hu : g1.toInt = (u : Int)) (hv : v = 0) : g1.toInt = (Nat.gcd a b : Int) := by
  rw [hu, ← h.1, hv, Nat.gcd_zero_right]
theorem eu_rem {g1 g2 : Int64} {u v : Nat} (hu : g1.toInt = (u : Int)) (hv : g2.toInt = (v : Int)) : (g1 - g1 / g2 * g2).toInt = ((u % v : Nat) : Int) := by
  rw [Kit.i64_rem_nonneg (by omega), hu, hv]
  rfl
/-- a part of a fraction in lowest terms -/
def fr (U L p : Int) : Int := (if p = 0 then U else L).tdiv (Int.gcd U L)
theorem fr_scale {U L p : Int} {g : Nat} (hg : 0 < g) : fr ((g : Int) * U) ((g : Int) * L) p = fr U L p := by
  unfold fr
  rw [Int.gcd_mul_left, Int.natAbs_natCast, Int.natCast_mul]
  split
  · exact Int.mul_tdiv_mul_of_pos _ _ (by omega)
  · exact Int.mul_tdiv_mul_of_pos _ _ (by omega)
theorem pit_abs {y1 : Int64} (h1 : y1.toInt ≠ -2 ^ 63) : (if 0 < y1 then y1 else -y1).toInt = (y1.toInt.natAbs : Int) := by
  split
  · rename_i h
    have := Int64.lt_iff_toInt_lt.mp h
    rw [zero64] at this
    omega
  · rename_i h
    have : ¬ (0 : Int64).toInt < y1.toInt := fun q => h (Int64.lt_iff_toInt_lt.mpr q)
    rw [zero64] at this
    rw [Kit.i64_neg h1]
    omega
theorem pit_pos {y2 : Int64} (h2 : 0 < y2.toInt) : y2.toInt = (y2.toInt.natAbs : Int) := by omega
theorem pit_41 {y2 : Int64} (h2 : 0 < y2.toInt) (h3 : y2.toInt ≤ 2 ^ 41) : y2.toInt.natAbs ≤ 2 ^ 41 := by omega
theorem pit_g {y1 y2 r : Int64} (h2 : 0 < y2.toInt) (h : r.toInt = (Nat.gcd y1.toInt.natAbs y2.toInt.natAbs : Int)) : r.toInt = (Int.gcd y1.toInt y2.toInt : Int) ∧ 1 ≤ r.toInt := by
  refine ⟨h, ?_⟩
  have : 0 < Nat.gcd y1.toInt.natAbs y2.toInt.natAbs := Nat.gcd_pos_of_pos_right _ (by omega)
  omega
theorem pit_uk {y1 y2 r : Int64} {p : Int} (h1 : y1.toInt ≠ -2 ^ 63) (h2 : 0 < y2.toInt) (hp : p = 0) (h : r.toInt = (Nat.gcd y1.toInt.natAbs y2.toInt.natAbs : Int)) (hc : r.toInt ≤ 1) : y1.toInt = fr y1.toInt y2.toInt p := by
  obtain ⟨e1, e2⟩ := pit_g h2 h
  unfold fr
  rw [if_pos hp, ← e1, show r.toInt = 1 by omega, Int.tdiv_one]
theorem pit_lk {y1 y2 r : Int64} {p : Int} (h1 : y1.toInt ≠ -2 ^ 63) (h2 : 0 < y2.toInt) (hp : ¬ p = 0) (h : r.toInt = (Nat.gcd y1.toInt.natAbs y2.toInt.natAbs : Int)) (hc : r.toInt ≤ 1) : y2.toInt = fr y1.toInt y2.toInt p := by
  obtain ⟨e1, e2⟩ := pit_g h2 h
  unfold fr
  rw [if_neg hp, ← e1, show r.toInt = 1 by omega, Int.tdiv_one]
theorem pit_ud {y1 y2 r : Int64} {p : Int} (h1 : y1.toInt ≠ -2 ^ 63) (h2 : 0 < y2.toInt) (hp : p = 0) (h : r.toInt = (Nat.gcd y1.toInt.natAbs y2.toInt.natAbs : Int)) (hc : ¬ r.toInt ≤ 1) : (y1 / r).toInt = fr y1.toInt y2.toInt p := by
  obtain ⟨e1, e2⟩ := pit_g h2 h
  unfold fr
  rw [if_pos hp, ← e1, Kit.i64_div (by omega)]
theorem pit_ld {y1 y2 r : Int64} {p : Int} (h1 : y1.toInt ≠ -2 ^ 63) (h2 : 0 < y2.toInt) (hp : ¬ p = 0) (h : r.toInt = (Nat.gcd y1.toInt.natAbs y2.toInt.natAbs : Int)) (hc : ¬ r.toInt ≤ 1) : (y2 / r).toInt = fr y1.toInt y2.toInt p := by
  obtain ⟨e1, e2⟩ := pit_g h2 h
  unfold fr
  rw [if_neg hp, ← e1, Kit.i64_div (by omega)]
/-- rounding by a rule: 0 half up, 1 half to even, 2 down -/
def rnd (U L p : Int) : Int := if p = 2 ∨ 2 * (U % L) < L then U / L else if 2 * (U % L) = L ∧ (U / L) % 2 = 0 ∧ p = 1 then U / L else U / L + 1
theorem rnd_1 {U L p : Int} (h : p = 2 ∨ 2 * (U % L) < L) : rnd U L p = U / L := if_pos h
theorem rnd_2 {U L p : Int} (h : ¬ (p = 2 ∨ 2 * (U % L) < L)) (h2 : 2 * (U % L) = L ∧ (U / L) % 2 = 0 ∧ p = 1) : rnd U L p = U / L := by
  unfold rnd
  rw [if_neg h, if_pos h2]
theorem rnd_3 {U L p : Int} (h : ¬ (p = 2 ∨ 2 * (U % L) < L)) (h2 : ¬ (2 * (U % L) = L ∧ (U / L) % 2 = 0 ∧ p = 1)) : rnd U L p = U / L + 1 := by
  unfold rnd
  rw [if_neg h, if_neg h2]
theorem fl_bd {U L : Int} (h1 : -1000000000000 ≤ U) (h2 : U ≤ 1000000000000) (h3 : 1 ≤ L) : -1000000000000 ≤ U / L ∧ U / L ≤ 1000000000000 := by
  constructor
  · exact (Int.le_ediv_iff_mul_le (by omega)).mpr (by have := Int.mul_le_mul_of_nonneg_left h3 (show (0 : Int) ≤ 1000000000000 by decide); omega)
  · refine Int.le_of_lt_add_one ((Int.ediv_lt_iff_lt_mul (by omega)).mpr ?_)
    have := Int.mul_le_mul_of_nonneg_left h3 (show (0 : Int) ≤ 1000000000001 by decide)
    omega
theorem fl_rem {U L : Int} (h3 : 1 ≤ L) : U - U / L * L = U % L ∧ 0 ≤ U % L ∧ U % L < L := by
  refine ⟨?_, Int.emod_nonneg _ (by omega), Int.emod_lt_of_pos _ (by omega)⟩
  have := Int.mul_ediv_add_emod U L
  rw [Int.mul_comm] at this
  omega
/-- what is left, twice, in machine numbers -/
theorem rbr_tw {y1 y2 q : Int64} (h1 : -1000000000000 ≤ y1.toInt) (h2 : y1.toInt ≤ 1000000000000) (h3 : 1 ≤ y2.toInt) (h4 : y2.toInt ≤ 1000000000000) (hq : q.toInt = y1.toInt / y2.toInt) :
    (q * y2).toInt = y1.toInt - y1.toInt % y2.toInt ∧ (y1 - q * y2).toInt = y1.toInt % y2.toInt ∧ (2 * (y1 - q * y2)).toInt = 2 * (y1.toInt % y2.toInt) := by
  obtain ⟨a1, a2, a3⟩ := fl_rem (U := y1.toInt) h3
  have e1 : (q * y2).toInt = y1.toInt / y2.toInt * y2.toInt := by
    rw [Kit.i64_mul (by rw [hq]; omega) (by rw [hq]; omega), hq]
  have e2 : (y1 - q * y2).toInt = y1.toInt % y2.toInt := by
    rw [Kit.i64_sub (by rw [e1]; omega) (by rw [e1]; omega), e1]
    omega
  refine ⟨by omega, e2, ?_⟩
  rw [Kit.i64_mul (by rw [e2, two64]; omega) (by rw [e2, two64]; omega), e2, two64]
theorem rbr_up {y1 y2 q : Int64} (h1 : -1000000000000 ≤ y1.toInt) (h2 : y1.toInt ≤ 1000000000000) (h3 : 1 ≤ y2.toInt) (hq : q.toInt = y1.toInt / y2.toInt) : (q + 1).toInt = y1.toInt / y2.toInt + 1 ∧ (q &&& 1).toInt = (y1.toInt / y2.toInt) % 2 := by
  have b := fl_bd h1 h2 h3
  constructor
  · rw [Kit.i64_add (by rw [hq, one64]; omega) (by rw [hq, one64]; omega), hq, one64]
  · rw [Kit.i64_mask q 1 (k := 1) (by decide) (by decide), hq]
    rfl
/-- truncated division, set right to the floor -/
theorem fl_t {U L : Int} (h3 : 1 ≤ L) : (0 ≤ U ∧ U.tdiv L = U / L) ∨ (U < 0 ∧ ((U % L = 0 ∧ U.tdiv L = U / L) ∨ (U % L ≠ 0 ∧ U.tdiv L = U / L + 1))) := by
  rcases Int.le_total 0 U with h | h
  · exact Or.inl ⟨h, Int.tdiv_eq_ediv_of_nonneg h⟩
  · rcases Int.lt_or_eq_of_le h with h | h
    · refine Or.inr ⟨h, ?_⟩
      by_cases q : U % L = 0
      · exact Or.inl ⟨q, Int.tdiv_eq_ediv_of_dvd (Int.dvd_of_emod_eq_zero q)⟩
      · refine Or.inr ⟨q, ?_⟩
        rw [Int.tdiv_eq_ediv, if_neg (by rintro (a | a); omega; exact q (Int.emod_eq_zero_of_dvd a)), Int.sign_eq_one_of_pos (by omega)]
    · exact Or.inl ⟨by omega, Int.tdiv_eq_ediv_of_nonneg (by omega)⟩
theorem fl_d {y1 y2 : Int64} (h1 : -1000000000000 ≤ y1.toInt) (h2 : y1.toInt ≤ 1000000000000) (h3 : 1 ≤ y2.toInt) (h4 : y2.toInt ≤ 1000000000000) :
    ((y1 / y2).toInt = y1.toInt.tdiv y2.toInt) ∧ ((y1 / y2 * y2).toInt = y1.toInt.tdiv y2.toInt * y2.toInt) ∧ ((y1 / y2 - 1).toInt = y1.toInt.tdiv y2.toInt - 1) ∧ y1.toInt / y2.toInt * y2.toInt = y1.toInt - y1.toInt % y2.toInt ∧ 0 ≤ y1.toInt % y2.toInt ∧ y1.toInt % y2.toInt < y2.toInt := by
  obtain ⟨a1, a2, a3⟩ := fl_rem (U := y1.toInt) h3
  have b := fl_bd h1 h2 h3
  have t := fl_t (U := y1.toInt) h3
  have e1 : (y1 / y2).toInt = y1.toInt.tdiv y2.toInt := Kit.i64_div (by omega)
  have e2 : y1.toInt.tdiv y2.toInt * y2.toInt = y1.toInt / y2.toInt * y2.toInt ∨ y1.toInt.tdiv y2.toInt * y2.toInt = y1.toInt / y2.toInt * y2.toInt + y2.toInt := by
    rcases t with ⟨-, t⟩ | ⟨-, ⟨-, t⟩ | ⟨-, t⟩⟩
    · left; rw [t]
    · left; rw [t]
    · right; rw [t, Int.add_mul, Int.one_mul]
  refine ⟨e1, ?_, ?_, by omega, a2, a3⟩
  · rw [Kit.i64_mul (by rw [e1]; omega) (by rw [e1]; omega), e1]
  · rw [Kit.i64_sub (by rw [e1, one64]; omega) (by rw [e1, one64]; omega), e1, one64]
theorem fl_k {U L : Int} (h3 : 1 ≤ L) : (U.tdiv L = U / L ∧ U.tdiv L * L = U / L * L) ∨ (U.tdiv L = U / L + 1 ∧ U.tdiv L * L = U / L * L + L) := by
  rcases fl_t (U := U) h3 with ⟨-, t⟩ | ⟨-, ⟨-, t⟩ | ⟨-, t⟩⟩
  · left; rw [t]; exact ⟨rfl, rfl⟩
  · left; rw [t]; exact ⟨rfl, rfl⟩
  · right; rw [t, Int.add_mul, Int.one_mul]; exact ⟨rfl, rfl⟩
