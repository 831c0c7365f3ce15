/-- hidden from omega -/
def hid (p : Prop) : Prop := p
theorem cl_lt {a b : Int32} (h : 0 ≤ a.toInt) (h2 : a.toInt < b.toInt) : a.toNatClampNeg < b.toNatClampNeg := by
  have h3 := nn_cl h
  have h4 := nn_cl (z := b) (by omega)
  omega
theorem AtK_rng {a b c d e : Int32} {v m ln sz : Nat → Int32} {t : Int32} (n : Nat) (h : AtK a b c d e v m ln sz t n) : 1 ≤ t.toInt ∧ t.toInt ≤ 7 := by
  unfold AtK at h
  split at h
  all_goals first | exact h.elim | omega
theorem Tc_rng {ro dr : Nat → Int32} {i : Nat} {t : Int32} (h : Tc ro dr i t) : 1 ≤ t.toInt ∧ t.toInt ≤ 7 := by
  obtain ⟨lf, dg, v, m, ln, sz, ce, -, -, -, -, h⟩ := h
  exact AtK_rng _ h
