/-! the sign of an exclusive or with a number that is not below 0 -/
theorem xor_neg {x y : Int64} (h : 0 ≤ y.toInt) : (x ^^^ y).toInt < 0 ↔ x.toInt < 0 := by
  have e : ∀ z : Int64, z.toInt < 0 ↔ z.toBitVec.msb = true := fun z => by
    rw [BitVec.msb_eq_toInt]
    exact (decide_eq_true_iff (p := z.toBitVec.toInt < 0)).symm
  have hy : y.toBitVec.msb = false := by
    rw [BitVec.msb_eq_toInt]
    exact decide_eq_false (show ¬ y.toInt < 0 by omega)
  rw [e, e, Int64.toBitVec_xor, BitVec.msb_xor, hy, Bool.xor_false]
