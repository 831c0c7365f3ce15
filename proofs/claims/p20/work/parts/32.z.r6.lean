section
variable {isR : Int32} {le gr : Nat → Int} {si : Nat → Int64} {mn kn la : Nat → Int32} {sh lg pl ph le' gr' : Nat → Int} {i : Nat} {a b c d e may : Int32} {lo hi : Int}
theorem ps_0a (hl : upZ le a.toNatClampNeg lo le') (hg : upZ gr a.toNatClampNeg hi gr') (hh : lo ≤ b.toInt ∧ b.toInt ≤ hi) : PsK 0 isR le gr si mn kn la sh lg pl ph isR le' gr' si mn kn la sh lg pl ph i a b c d e may := fun v m ln sz ce hw h => ⟨fun v' m' ln' sz' ce' hw' hA => span_ok h hl hg hA.1 hh hA.2.1 hA.2.2.1 hA.2.2.2.1 hA.2.2.2.2, fun t ht => absurd ht (fun q => q)⟩
theorem ps_1a (hl : upZ le a.toNatClampNeg lo le') (hg : upZ gr a.toNatClampNeg hi gr') (hh : lo ≤ b.toInt ∧ c.toInt ≤ hi) : PsK 1 isR le gr si mn kn la sh lg pl ph isR le' gr' si mn kn la sh lg pl ph i a b c d e may := fun v m ln sz ce hw h => ⟨fun v' m' ln' sz' ce' hw' hA => by
  obtain ⟨⟨w, w1, w2, w3⟩, h1, h2, h3, h4⟩ := hA
  exact span_ok h hl hg w3 ⟨Int.le_trans hh.1 w1, Int.le_trans w2 hh.2⟩ h1 h2 h3 h4, fun t ht => absurd ht (fun q => q)⟩
end
