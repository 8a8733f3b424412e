/-! the class's answers are the reference's -/
theorem fr_div {U L : Int} : fr U L 0 * (Int.gcd U L : Int) = U ∧ fr U L 1 * (Int.gcd U L : Int) = L := by
  unfold fr
  rw [if_pos rfl, if_neg (by decide), Int.tdiv_eq_ediv_of_dvd (Int.gcd_dvd_left U L), Int.tdiv_eq_ediv_of_dvd (Int.gcd_dvd_right U L)]
  exact ⟨Int.ediv_mul_cancel (Int.gcd_dvd_left U L), Int.ediv_mul_cancel (Int.gcd_dvd_right U L)⟩
theorem fac_b {a g u : Int} (hg : 1 ≤ g) (hu : 1 ≤ u) (h : a * g = u) : 1 ≤ a ∧ a ≤ u := by
  have h1 : 1 ≤ a := by
    rcases Int.lt_or_le 0 a with q | q
    · omega
    · have := Int.mul_nonpos_of_nonpos_of_nonneg q (show (0 : Int) ≤ g by omega)
      omega
  have h2 : 0 ≤ a * (g - 1) := Int.mul_nonneg (by omega) (by omega)
  refine ⟨h1, ?_⟩
  grind
theorem mr_b {mu ml : Int64} {hd : Int32} {hu hw : Int64} (h : mr mu ml hd hu hw) : (hd = 0 ∨ hd = 1) ∧ (hd.toInt = 1 ↔ ¬ mu.toInt = 0) ∧ (hd.toInt = 1 → (1 ≤ hu.toInt ∧ hu.toInt ≤ 1000000) ∧ (1 ≤ hw.toInt ∧ hw.toInt ≤ 1000000)) ∧ (mu = 0 ∨ ((1 ≤ mu.toInt ∧ mu.toInt ≤ 1000000) ∧ (1 ≤ ml.toInt ∧ ml.toInt ≤ 1000000))) := by
  rcases h with ⟨rfl, rfl⟩ | ⟨rfl, h1, h2, h3, h4⟩
  · exact ⟨Or.inl rfl, by decide, fun q => absurd q (by decide), Or.inl rfl⟩
  · have hg : 1 ≤ (Int.gcd mu.toInt ml.toInt : Int) := by
      have := Int.gcd_pos_of_ne_zero_right mu.toInt (b := ml.toInt) (by omega)
      omega
    obtain ⟨d1, d2⟩ := fr_div (U := mu.toInt) (L := ml.toInt)
    have b1 := fac_b hg h1.1 d1
    have b2 := fac_b hg h2.1 d2
    refine ⟨Or.inr rfl, ⟨fun _ => by omega, fun _ => by decide⟩, fun _ => ⟨by omega, by omega⟩, Or.inr ⟨h1, h2⟩⟩
theorem ex_sc {S F : Nat → Int32} {mu ml hu hw : Int64} {sl p : Int32} {n : Nat} (hm : (1 ≤ mu.toInt ∧ mu.toInt ≤ 1000000) ∧ (1 ≤ ml.toInt ∧ ml.toInt ≤ 1000000)) (h3 : hu.toInt = fr mu.toInt ml.toInt 0) (h4 : hw.toInt = fr mu.toInt ml.toInt 1) (hsl : 0 ≤ sl.toInt ∧ sl.toInt ≤ 1000000) (hp : 0 ≤ p.toInt ∧ p.toInt ≤ 1000000) (hS : bd S n 0 1000000) (hF : bd F n 0 1000000) :
    ∃ g : Nat, 0 < g ∧ ∀ k, k < n → (exl S F mu ml (sl + p) k).toInt = (g : Int) * (exm S F hu hw sl p k).toInt := by
  have hg := Int.gcd_pos_of_ne_zero_right mu.toInt (b := ml.toInt) (by omega)
  obtain ⟨d1, d2⟩ := fr_div (U := mu.toInt) (L := ml.toInt)
  have b1 := fac_b (show 1 ≤ (Int.gcd mu.toInt ml.toInt : Int) by omega) hm.1.1 d1
  have b2 := fac_b (show 1 ≤ (Int.gcd mu.toInt ml.toInt : Int) by omega) hm.2.1 d2
  refine ⟨Int.gcd mu.toInt ml.toInt, hg, fun k hk => ?_⟩
  have e9 : (sl + p).toInt = sl.toInt + p.toInt := Kit.i32_add (by omega) (by omega)
  obtain ⟨v1, -⟩ := exl_v (S := S) (F := F) (mu := mu) (ml := ml) (ls := sl + p) (k := k) (by omega) (by omega) (by omega) (hS k hk) (hF k hk)
  obtain ⟨v2, -⟩ := exm_v (S := S) (F := F) (hu := hu) (hw := hw) (sl := sl) (sh := p) (k := k) (by omega) (by omega) hsl hp (hS k hk) (hF k hk)
  rw [v1, v2, e9]
  rw [← h3] at d1
  rw [← h4] at d2
  generalize (Int.gcd mu.toInt ml.toInt : Int) = g at d1 d2 ⊢
  rw [← d1, ← d2]
  grind
theorem mtg_sc {f h : Nat → Int64} {g n k : Nat} (hg : 0 < g) (he : ∀ k, k < n → (f k).toInt = (g : Int) * (h k).toInt) (hk : k < n) : mtg f k ↔ mtg h k := by
  have e1 := he k hk
  have e2 := he (k - 1) (by omega)
  have s : ∀ z : Int, ((g : Int) * z ≤ 0 ↔ z ≤ 0) := fun z => by
    constructor
    · intro q
      rcases Int.lt_or_le 0 z with w | w
      · have := Int.mul_pos (show (0 : Int) < g by omega) w
        omega
      · exact w
    · intro q
      exact Int.mul_nonpos_of_nonneg_of_nonpos (by omega) q
  unfold mtg
  rw [e1, e2]
  have s1 := s (h k).toInt
  have s2 := s (h (k - 1)).toInt
  omega
theorem ofs_eq {F : Nat → Int32} {n g : Nat} {f h : Nat → Int64} {p : Int} {r r' : Int64} (hg : 0 < g) (he : ∀ k, k < n → (f k).toInt = (g : Int) * (h k).toInt) (hx : ofs F n f p r) (hm : ofs F n h p r') : r = r' := by
  rcases hx with ⟨k, k1, k2, k3, k4, k5⟩ | ⟨x1, x2⟩
  · rcases hm with ⟨j, j1, j2, j3, j4, j5⟩ | ⟨m1, m2⟩
    · have hjk : j = k := by
        rcases Nat.lt_trichotomy j k with q | q | q
        · exact absurd ((mtg_sc hg he j2).mpr j3) (k4 j j1 q)
        · exact q
        · exact absurd ((mtg_sc hg he k2).mp k3) (j4 k k1 q)
      subst hjk
      refine Int64.toInt_inj.mp ?_
      rw [k5, j5, he j j2, he (j - 1) (by omega), ← fr_scale (U := (F j).toInt * (h (j - 1)).toInt - (F (j - 1)).toInt * (h j).toInt) hg]
      congr 1
      · grind
      · grind
    · exact absurd ((mtg_sc hg he k2).mp k3) (m1 k k1 k2)
  · rcases hm with ⟨j, j1, j2, j3, j4, j5⟩ | ⟨m1, m2⟩
    · exact absurd ((mtg_sc hg he j2).mpr j3) (x1 j j1 j2)
    · rcases x2 with ⟨a, rfl⟩ | ⟨a, rfl⟩
      · rcases m2 with ⟨b, rfl⟩ | ⟨b, rfl⟩
        · rfl
        · exact absurd a b
      · rcases m2 with ⟨b, rfl⟩ | ⟨b, rfl⟩
        · exact absurd b a
        · rfl
theorem cvs_eq {X Y : Nat → Int32} {tc : Nat} {p q : Int} {r r' : Int32} (hx : cvs X Y tc p q r) (hm : cvs X Y tc p q r') : r = r' := by
  obtain ⟨k, k1, k2, k3, k4⟩ := hx
  obtain ⟨j, j1, j2, j3, j4⟩ := hm
  have hjk : j = k := by
    rcases Nat.lt_trichotomy j k with w | w | w
    · have := k2 j w
      omega
    · exact w
    · have := j2 k w
      omega
  subst hjk
  rcases k4 with ⟨a, e⟩ | ⟨a, -, e⟩
  · rcases j4 with ⟨b, f⟩ | ⟨b, -⟩
    · rw [e, f]
    · exact absurd a b
  · rcases j4 with ⟨b, f⟩ | ⟨b, -, f⟩
    · exact absurd b a
    · exact Int32.toInt_inj.mp (e.trans f.symm)
theorem ivs_eq {F : Nat → Int32} {n : Nat} {ar : Int} {ck : Prop} {r r' : Int32} (hx : ivs F n ar ck r) (hm : ivs F n ar ck r') : r = r' := by
  unfold ivs at hx hm
  rcases hx with ⟨a, rfl⟩ | ⟨a, b, rfl⟩ | ⟨a, b, c, rfl⟩ | ⟨a, b, c, d, rfl⟩ | ⟨a, b, c, d, e, rfl⟩ | ⟨a, b, c, d, e, rfl⟩ <;>
  rcases hm with ⟨a', rfl⟩ | ⟨a', b', rfl⟩ | ⟨a', b', c', rfl⟩ | ⟨a', b', c', d', rfl⟩ | ⟨a', b', c', d', e', rfl⟩ | ⟨a', b', c', d', e', rfl⟩ <;>
  first | rfl | (exfalso; omega) | exact absurd d' d | exact absurd d d' | exact absurd e' e | exact absurd e e'
theorem ftb_01 {D : Nat → Int32} {im : Nat} (h : im ≤ 1) : ftb D im = 0 := by
  rcases (show im = 0 ∨ im = 1 by omega) with rfl | rfl
  · rfl
  · show (1 : Int) * (0 + (D 0).toInt * (D 0).toInt) - (0 + (D 0).toInt) * (0 + (D 0).toInt) = 0
    grind
theorem fit_kd {D J : Nat → Int32} {im : Nat} {ds js ss ps : Int64} (h : fts D J im ds js ss ps) : (0 < (im : Int) * ss.toInt - ds.toInt * ds.toInt) ↔ (2 ≤ im ∧ 0 < ftb D im) := by
  obtain ⟨h1, h2, h3, h4⟩ := h
  rw [h1, h3]
  constructor
  · intro q
    refine ⟨?_, q⟩
    rcases Nat.lt_or_ge im 2 with w | w
    · have e := ftb_01 (D := D) (show im ≤ 1 by omega)
      unfold ftb at e
      omega
    · exact w
  · intro q
    exact q.2
theorem fit_eq {D J : Nat → Int32} {im : Nat} {ds js ss ps : Int64} {p q r r' : Int} (h : fts D J im ds js ss ps) (hx : r = fr (js.toInt * ((im : Int) * ss.toInt - ds.toInt * ds.toInt) + ((im : Int) * ps.toInt - ds.toInt * js.toInt) * ((im : Int) * p - ds.toInt)) ((im : Int) * ((im : Int) * ss.toInt - ds.toInt * ds.toInt)) q) (hm : r' = fr (ftu D J im p) ((im : Int) * ftb D im) q) : r = r' := by
  obtain ⟨h1, h2, h3, h4⟩ := h
  rw [hx, hm, h1, h2, h3, h4]
  rfl
