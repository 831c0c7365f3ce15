section
variable {isR isR' : Int32} {le gr : Nat → Int} {si : Nat → Int64} {mn kn la : Nat → Int32} {sh lg pl ph le' gr' : Nat → Int} {si' : Nat → Int64} {mn' kn' la' : Nat → Int32} {sh' lg' pl' ph' : Nat → Int} {i i2 : Nat} {a b c d e b2 c2 d2 e2 may : Int32} {v m ln sz ce v' m' ln' sz' ce' : Nat → Int32} {t : Int32}
theorem an_irr4 (h : AnK i a b c d e v m ln sz ce v' m' ln' sz' ce' 4) : AnK i a b c d2 e2 v m ln sz ce v' m' ln' sz' ce' 4 := by
  simp only [AnK] at h ⊢
  exact h
theorem at_irr4 (h : AtK a b c d e v m ln sz t 4) : AtK a b c d2 e2 v m ln sz t 4 := by
  simp only [AtK] at h ⊢
  exact h
theorem ps_irr4 (h : PsK 4 isR le gr si mn kn la sh lg pl ph isR' le' gr' si' mn' kn' la' sh' lg' pl' ph' i a b c d2 e2 may) : PsK 4 isR le gr si mn kn la sh lg pl ph isR' le' gr' si' mn' kn' la' sh' lg' pl' ph' i a b c d e may := fun v m ln sz ce hw hi => ⟨fun v' m' ln' sz' ce' hw' hA => (h v m ln sz ce hw hi).1 v' m' ln' sz' ce' hw' (an_irr4 hA), fun t ht => (h v m ln sz ce hw hi).2 t (at_irr4 ht)⟩
theorem an_irr8 (h : AnK i a b c d e v m ln sz ce v' m' ln' sz' ce' 8) : AnK i a b c2 d2 e2 v m ln sz ce v' m' ln' sz' ce' 8 := by
  simp only [AnK] at h ⊢
  exact h
theorem at_irr8 (h : AtK a b c d e v m ln sz t 8) : AtK a b c2 d2 e2 v m ln sz t 8 := by
  simp only [AtK] at h ⊢
  exact h
theorem ps_irr8 (h : PsK 8 isR le gr si mn kn la sh lg pl ph isR' le' gr' si' mn' kn' la' sh' lg' pl' ph' i a b c2 d2 e2 may) : PsK 8 isR le gr si mn kn la sh lg pl ph isR' le' gr' si' mn' kn' la' sh' lg' pl' ph' i a b c d e may := fun v m ln sz ce hw hi => ⟨fun v' m' ln' sz' ce' hw' hA => (h v m ln sz ce hw hi).1 v' m' ln' sz' ce' hw' (an_irr8 hA), fun t ht => (h v m ln sz ce hw hi).2 t (at_irr8 ht)⟩
theorem an_irr9 (h : AnK i a b c d e v m ln sz ce v' m' ln' sz' ce' 9) : AnK i2 a b c d e2 v m ln sz ce v' m' ln' sz' ce' 9 := by
  simp only [AnK] at h ⊢
  exact h
theorem at_irr9 (h : AtK a b c d e v m ln sz t 9) : AtK a b c d e2 v m ln sz t 9 := by
  simp only [AtK] at h ⊢
  exact h
theorem ps_irr9 (h : PsK 9 isR le gr si mn kn la sh lg pl ph isR' le' gr' si' mn' kn' la' sh' lg' pl' ph' i2 a b c d e2 may) : PsK 9 isR le gr si mn kn la sh lg pl ph isR' le' gr' si' mn' kn' la' sh' lg' pl' ph' i a b c d e may := fun v m ln sz ce hw hi => ⟨fun v' m' ln' sz' ce' hw' hA => (h v m ln sz ce hw hi).1 v' m' ln' sz' ce' hw' (an_irr9 hA), fun t ht => (h v m ln sz ce hw hi).2 t (at_irr9 ht)⟩
theorem an_irr10 (h : AnK i a b c d e v m ln sz ce v' m' ln' sz' ce' 10) : AnK i2 a b c d e2 v m ln sz ce v' m' ln' sz' ce' 10 := by
  simp only [AnK] at h ⊢
  exact h
theorem at_irr10 (h : AtK a b c d e v m ln sz t 10) : AtK a b c d e2 v m ln sz t 10 := by
  simp only [AtK] at h ⊢
  exact h
theorem ps_irr10 (h : PsK 10 isR le gr si mn kn la sh lg pl ph isR' le' gr' si' mn' kn' la' sh' lg' pl' ph' i2 a b c d e2 may) : PsK 10 isR le gr si mn kn la sh lg pl ph isR' le' gr' si' mn' kn' la' sh' lg' pl' ph' i a b c d e may := fun v m ln sz ce hw hi => ⟨fun v' m' ln' sz' ce' hw' hA => (h v m ln sz ce hw hi).1 v' m' ln' sz' ce' hw' (an_irr10 hA), fun t ht => (h v m ln sz ce hw hi).2 t (at_irr10 ht)⟩
theorem an_irr11 (h : AnK i a b c d e v m ln sz ce v' m' ln' sz' ce' 11) : AnK i2 a b c d e v m ln sz ce v' m' ln' sz' ce' 11 := by
  simp only [AnK] at h ⊢
  exact h
theorem at_irr11 (h : AtK a b c d e v m ln sz t 11) : AtK a b c d e v m ln sz t 11 := by
  simp only [AtK] at h ⊢
  exact h
theorem ps_irr11 (h : PsK 11 isR le gr si mn kn la sh lg pl ph isR' le' gr' si' mn' kn' la' sh' lg' pl' ph' i2 a b c d e may) : PsK 11 isR le gr si mn kn la sh lg pl ph isR' le' gr' si' mn' kn' la' sh' lg' pl' ph' i a b c d e may := fun v m ln sz ce hw hi => ⟨fun v' m' ln' sz' ce' hw' hA => (h v m ln sz ce hw hi).1 v' m' ln' sz' ce' hw' (an_irr11 hA), fun t ht => (h v m ln sz ce hw hi).2 t (at_irr11 ht)⟩
theorem an_irr12 (h : AnK i a b c d e v m ln sz ce v' m' ln' sz' ce' 12) : AnK i2 a b c d e v m ln sz ce v' m' ln' sz' ce' 12 := by
  simp only [AnK] at h ⊢
  exact h
theorem at_irr12 (h : AtK a b c d e v m ln sz t 12) : AtK a b c d e v m ln sz t 12 := by
  simp only [AtK] at h ⊢
  exact h
theorem ps_irr12 (h : PsK 12 isR le gr si mn kn la sh lg pl ph isR' le' gr' si' mn' kn' la' sh' lg' pl' ph' i2 a b c d e may) : PsK 12 isR le gr si mn kn la sh lg pl ph isR' le' gr' si' mn' kn' la' sh' lg' pl' ph' i a b c d e may := fun v m ln sz ce hw hi => ⟨fun v' m' ln' sz' ce' hw' hA => (h v m ln sz ce hw hi).1 v' m' ln' sz' ce' hw' (an_irr12 hA), fun t ht => (h v m ln sz ce hw hi).2 t (at_irr12 ht)⟩
theorem an_irr13 (h : AnK i a b c d e v m ln sz ce v' m' ln' sz' ce' 13) : AnK i2 a b c2 d2 e2 v m ln sz ce v' m' ln' sz' ce' 13 := by
  simp only [AnK] at h ⊢
  exact h
theorem at_irr13 (h : AtK a b c d e v m ln sz t 13) : AtK a b c2 d2 e2 v m ln sz t 13 := by
  simp only [AtK] at h ⊢
  exact h
theorem ps_irr13 (h : PsK 13 isR le gr si mn kn la sh lg pl ph isR' le' gr' si' mn' kn' la' sh' lg' pl' ph' i2 a b c2 d2 e2 may) : PsK 13 isR le gr si mn kn la sh lg pl ph isR' le' gr' si' mn' kn' la' sh' lg' pl' ph' i a b c d e may := fun v m ln sz ce hw hi => ⟨fun v' m' ln' sz' ce' hw' hA => (h v m ln sz ce hw hi).1 v' m' ln' sz' ce' hw' (an_irr13 hA), fun t ht => (h v m ln sz ce hw hi).2 t (at_irr13 ht)⟩
end
