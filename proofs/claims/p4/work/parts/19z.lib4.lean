theorem kz_iv {v : Int32} (h : 0 ≤ v.toInt ∧ v.toInt ≤ 1) : kZ v := by
  have h2 : v.toInt = 0 ∨ v.toInt = 1 := by omega
  rcases h2 with h2 | h2
  · exact Or.inl (Int32.toInt_inj.mp (by rw [h2]; decide))
  · exact Or.inr (Int32.toInt_inj.mp (by rw [h2]; decide))
theorem kz_to {v : Int32} (h : kZ v) : 0 ≤ v.toInt ∧ v.toInt ≤ 1 := by rcases h with rfl | rfl <;> decide
theorem and01 {a b : Int32} (ha : kZ a) (hb : kZ b) : kZ (a &&& b) := by
  rcases ha with rfl | rfl <;> rcases hb with rfl | rfl
  · exact Or.inl (by decide)
  · exact Or.inl (by decide)
  · exact Or.inl (by decide)
  · exact Or.inr (by decide)
theorem and_0 {a : Int32} (ha : kZ a) : vp_nar .boolean (a &&& 0) = 0 := by rcases ha with rfl | rfl <;> rfl
