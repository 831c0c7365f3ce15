/-- a FILL on its way: up to below p, t what it has thrown -/
def fiP (xa ya ar la ln sz p t : Int) : Prop := xa ≤ p ∧ ((t = 0 ∧ (p = xa ∨ (xa < p ∧ p ≤ ya ∧ 0 ≤ ar ∧ ln = la ∧ 0 ≤ xa ∧ p ≤ sz))) ∨ (¬ t = 0 ∧ xa < ya ∧ ((ar < 0 ∧ t = 1) ∨ (0 ≤ ar ∧ ((¬ ln = la ∧ t = 2) ∨ ((xa < 0 ∨ sz < ya) ∧ t = 5))))))
theorem fi_0 {xa ya ar la ln sz t : Int} (ht : t = 0) : fiP xa ya ar la ln sz xa t := ⟨Int.le_refl _, Or.inl ⟨ht, Or.inl rfl⟩⟩
theorem fi_s {xa ya ar la ln sz p p' t r : Int} (h : fiP xa ya ar la ln sz p t) (ht : t = 0) (hp : p < ya) (hp' : p' = p + 1) (hr : (r = 0 ∧ 0 ≤ ar ∧ ln = la ∧ 0 ≤ p ∧ p < sz) ∨ (¬ r = 0 ∧ ((ar < 0 ∧ r = 1) ∨ (0 ≤ ar ∧ ¬ ln = la ∧ r = 2) ∨ (0 ≤ ar ∧ ln = la ∧ (p < 0 ∨ sz ≤ p) ∧ r = 5)))) : fiP xa ya ar la ln sz p' r := by
  unfold fiP at h ⊢
  subst ht hp'
  obtain ⟨h1, ⟨-, h2⟩ | ⟨h2, -⟩⟩ := h
  · rcases hr with ⟨r1, r2, r3, r4, r5⟩ | ⟨r1, r2⟩
    · exact ⟨by omega, Or.inl ⟨r1, Or.inr ⟨by omega, by omega, r2, r3, by omega, by omega⟩⟩⟩
    · refine ⟨by omega, Or.inr ⟨r1, by omega, ?_⟩⟩
      rcases r2 with r2 | ⟨r2, r3, r4⟩ | ⟨r2, r3, r4, r5⟩
      · exact Or.inl r2
      · exact Or.inr ⟨r2, Or.inl ⟨r3, r4⟩⟩
      · exact Or.inr ⟨r2, Or.inr ⟨by omega, r5⟩⟩
  · exact absurd rfl h2
theorem fi_e {xa ya ar la ln sz p t : Int} (h : fiP xa ya ar la ln sz p t) (he : ya ≤ p ∨ ¬ t = 0) : (t = 0 ∧ ((ya ≤ xa ∧ p = xa) ∨ (xa < ya ∧ 0 ≤ ar ∧ ln = la ∧ 0 ≤ xa ∧ ya ≤ sz ∧ p = ya))) ∨ (¬ t = 0 ∧ xa < ya ∧ ((ar < 0 ∧ t = 1) ∨ (0 ≤ ar ∧ ((¬ ln = la ∧ t = 2) ∨ ((xa < 0 ∨ sz < ya) ∧ t = 5))))) := by
  obtain ⟨h1, ⟨h2, h3⟩ | h2⟩ := h
  · refine Or.inl ⟨h2, ?_⟩
    rcases h3 with h3 | ⟨a1, a2, a3, a4, a5, a6⟩
    · exact Or.inl ⟨by omega, h3⟩
    · exact Or.inr ⟨by omega, a3, a4, a5, by omega, by omega⟩
  · exact Or.inr h2
