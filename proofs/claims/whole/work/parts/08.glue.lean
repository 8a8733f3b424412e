/-! what the law's comparisons rest on -/
theorem law_sl1 {k : Int32} {a A r : Int} {P Q R : Prop} (hk : k = 0) (ha : a = A ∧ P) (hm : (k = 0 ∧ r = A ∧ Q) ∨ (¬ k = 0 ∧ R)) : a = r := by
  rcases hm with ⟨-, h, -⟩ | ⟨h, -⟩
  · rw [ha.1, h]
  · exact absurd hk h
section
variable {S F D J X Y : Nat → Int32} {n im tc : Nat} {ar sl ck : Int32} {mu ml ds js ps ss : Int64} {hd : Int32} {hu hw : Int64}
theorem law_sl2 {p1 p2 p3 : Int32} {a r : Int} {mu' ml' hu' hw' : Int64} {hd' : Int32} (h : li S F D J X Y n im tc ar sl ck mu ml ds js ps ss hd hu hw) (hrs : ris S n) (hSb : bd S n 0 1000000) (hFb : bd F n 0 1000000) (hn : n ≤ 40)
    (hk : kd4 (0 ≤ p3.toInt ∧ p3.toInt ≤ 1) (ok_span p1 p2) (cl S p1.toInt n + 1 < cl S (p2.toInt + 1) n) True = 0)
    (ha : a = fr ((F (cl S (p2.toInt + 1) n - 1)).toInt - (F (cl S p1.toInt n)).toInt) ((S (cl S (p2.toInt + 1) n - 1)).toInt - (S (cl S p1.toInt n)).toInt) p3.toInt ∧ ((0 < ((F (cl S (p2.toInt + 1) n - 1)).toInt - (F (cl S p1.toInt n)).toInt) ∧ mu'.toInt = ((F (cl S (p2.toInt + 1) n - 1)).toInt - (F (cl S p1.toInt n)).toInt) ∧ ml'.toInt = ((S (cl S (p2.toInt + 1) n - 1)).toInt - (S (cl S p1.toInt n)).toInt)) ∨ (¬ 0 < ((F (cl S (p2.toInt + 1) n - 1)).toInt - (F (cl S p1.toInt n)).toInt) ∧ mu' = mu ∧ ml' = ml)))
    (hm : (kd4 (0 ≤ p3.toInt ∧ p3.toInt ≤ 1) (ok_span p1 p2) (cl S p1.toInt n + 1 < cl S (p2.toInt + 1) n) True = 0 ∧ r = fr ((F (cl S (p2.toInt + 1) n - 1)).toInt - (F (cl S p1.toInt n)).toInt) ((S (cl S (p2.toInt + 1) n - 1)).toInt - (S (cl S p1.toInt n)).toInt) p3.toInt ∧ ((0 < ((F (cl S (p2.toInt + 1) n - 1)).toInt - (F (cl S p1.toInt n)).toInt) ∧ hd' = 1 ∧ hu'.toInt = fr ((F (cl S (p2.toInt + 1) n - 1)).toInt - (F (cl S p1.toInt n)).toInt) ((S (cl S (p2.toInt + 1) n - 1)).toInt - (S (cl S p1.toInt n)).toInt) 0 ∧ hw'.toInt = fr ((F (cl S (p2.toInt + 1) n - 1)).toInt - (F (cl S p1.toInt n)).toInt) ((S (cl S (p2.toInt + 1) n - 1)).toInt - (S (cl S p1.toInt n)).toInt) 1) ∨ (¬ 0 < ((F (cl S (p2.toInt + 1) n - 1)).toInt - (F (cl S p1.toInt n)).toInt) ∧ hd' = hd ∧ hu' = hu ∧ hw' = hw))) ∨ (¬ kd4 (0 ≤ p3.toInt ∧ p3.toInt ≤ 1) (ok_span p1 p2) (cl S p1.toInt n + 1 < cl S (p2.toInt + 1) n) True = 0 ∧ hd' = hd ∧ hu' = hu ∧ hw' = hw)) :
    li S F D J X Y n im tc ar sl ck mu' ml' ds js ps ss hd' hu' hw' := by
  rcases hm with ⟨-, -, hm⟩ | ⟨q, -⟩
  · obtain ⟨-, -, s3, s4⟩ := sl_e hn hrs hSb hFb (kd_z hk).2.2.1 (cl_le S (p2.toInt + 1) n)
    exact li_slope h (fun _ => s3.2) s4 ha.2 hm
  · exact absurd hk q
theorem law_sl3 {k : Int32} {P : Prop} {hu' hw' : Int64} {hd' : Int32} (h : li S F D J X Y n im tc ar sl ck mu ml ds js ps ss hd hu hw) (hk : ¬ k = 0) (hm : (k = 0 ∧ P) ∨ (¬ k = 0 ∧ hd' = hd ∧ hu' = hu ∧ hw' = hw)) : li S F D J X Y n im tc ar sl ck mu ml ds js ps ss hd' hu' hw' := by
  rcases hm with ⟨q, -⟩ | ⟨-, e1, e2, e3⟩
  · exact absurd q hk
  · rw [e1, e2, e3]
    exact h
theorem law_of {p1 p2 : Int32} {u r : Int64} (hmr : mr mu ml hd hu hw) (hsl : 0 ≤ sl.toInt ∧ sl.toInt ≤ 1000000) (hSb : bd S n 0 1000000) (hFb : bd F n 0 1000000)
    (hk : kd4 (0 ≤ p2.toInt ∧ p2.toInt ≤ 1) (hd.toInt = 1) (0 ≤ p1.toInt ∧ p1.toInt ≤ 1000000) True = 0) (hx : ofs F n (exl S F mu ml (sl + p1)) p2.toInt u) (hm : ofs F n (exm S F hu hw sl p1) p2.toInt r) : u = r := by
  obtain ⟨-, h1, hp, -⟩ := kd_z hk
  rcases hmr with ⟨-, e⟩ | ⟨-, m1, m2, m3, m4⟩
  · rw [e] at h1
    exact absurd h1 (by decide)
  · obtain ⟨g, hg, he⟩ := ex_sc (S := S) (F := F) (n := n) ⟨m1, m2⟩ m3 m4 hsl hp hSb hFb
    exact ofs_eq hg he hx hm
theorem law_cv {p q : Int} {u : Int64} {r : Int32} (hx : ∃ z : Int32, u = z.toInt64 ∧ cvs X Y tc p q z) (hm : cvs X Y tc p q r) : u.toInt = r.toInt64.toInt := by
  obtain ⟨z, rfl, h⟩ := hx
  rw [cvs_eq h hm]
end
