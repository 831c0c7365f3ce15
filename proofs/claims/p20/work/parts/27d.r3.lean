section
variable {α : Type} {C C' g : Nat → α} {val : α} {w k it ld A B : Nat} {K K' W bb : Int}
/-- one more place of bank 0 into bank 1 (w apart) -/
theorem cp_1 (h : ∀ j : Nat, (w ≤ j ∧ (j : Int) < W + K → C j = g (j - w)) ∧ (¬ (w ≤ j ∧ (j : Int) < W + K) → C j = g j)) (hu : ∀ j : Nat, (j = it → C' j = val) ∧ (¬ j = it → C' j = C j)) (hv : val = C ld) (hW : W = w) (hK : K = k) (hK' : K' = k + 1) (hi : it = w + k) (hl : ld = k) (hk : k < w) : ∀ j : Nat, (w ≤ j ∧ (j : Int) < W + K' → C' j = g (j - w)) ∧ (¬ (w ≤ j ∧ (j : Int) < W + K') → C' j = g j) := fun j => by
  by_cases hq : j = it
  · have e := (hu j).1 hq
    have c := (h ld).2 (by omega)
    refine ⟨fun _ => ?_, fun h2 => absurd (by omega) h2⟩
    rw [e, hv, c, show j - w = ld from by omega]
  · have e := (hu j).2 hq
    exact ⟨fun h2 => by rw [e]; exact (h j).1 (by omega), fun h2 => by rw [e]; exact (h j).2 (by omega)⟩
theorem cp_0 (h : ∀ j : Nat, ((j : Int) < K → C j = g (w + j)) ∧ (¬ ((j : Int) < K) → C j = g j)) (hu : ∀ j : Nat, (j = it → C' j = val) ∧ (¬ j = it → C' j = C j)) (hv : val = C ld) (hK : K = k) (hK' : K' = k + 1) (hi : it = k) (hl : ld = w + k) (hk : k < w) : ∀ j : Nat, ((j : Int) < K' → C' j = g (w + j)) ∧ (¬ ((j : Int) < K') → C' j = g j) := fun j => by
  by_cases hq : j = it
  · have e := (hu j).1 hq
    have c := (h ld).2 (by omega)
    refine ⟨fun _ => ?_, fun h2 => absurd (by omega) h2⟩
    rw [e, hv, c, show w + j = ld from by omega]
  · have e := (hu j).2 hq
    exact ⟨fun h2 => by rw [e]; exact (h j).1 (by omega), fun h2 => by rw [e]; exact (h j).2 (by omega)⟩
/-- the same by blocks of 12 -/
theorem cb_1 (h : ∀ j : Nat, (480 ≤ j ∧ (j : Int) < 480 + 12 * K → C j = g (j - 480)) ∧ (¬ (480 ≤ j ∧ (j : Int) < 480 + 12 * K) → C j = g j)) (hu : ∀ j : Nat, (12 * bb ≤ j ∧ (j : Int) < 12 * bb + 12 → C' j = C (12 * A + (j - 12 * B))) ∧ (¬ (12 * bb ≤ j ∧ (j : Int) < 12 * bb + 12) → C' j = C j)) (hb : bb = 40 + k) (hK : K = k) (hK' : K' = k + 1) (hB : B = 40 + k) (hA : A = k) (hk : k < 40) : ∀ j : Nat, (480 ≤ j ∧ (j : Int) < 480 + 12 * K' → C' j = g (j - 480)) ∧ (¬ (480 ≤ j ∧ (j : Int) < 480 + 12 * K') → C' j = g j) := fun j => by
  by_cases hq : 12 * bb ≤ j ∧ (j : Int) < 12 * bb + 12
  · have e := (hu j).1 hq
    have c := (h (12 * A + (j - 12 * B))).2 (by omega)
    refine ⟨fun _ => ?_, fun h2 => absurd (by omega) h2⟩
    rw [e, c, show 12 * A + (j - 12 * B) = j - 480 from by omega]
  · have e := (hu j).2 hq
    exact ⟨fun h2 => by rw [e]; exact (h j).1 (by omega), fun h2 => by rw [e]; exact (h j).2 (by omega)⟩
theorem cb_0 (h : ∀ j : Nat, ((j : Int) < 12 * K → C j = g (480 + j)) ∧ (¬ ((j : Int) < 12 * K) → C j = g j)) (hu : ∀ j : Nat, (12 * bb ≤ j ∧ (j : Int) < 12 * bb + 12 → C' j = C (12 * A + (j - 12 * B))) ∧ (¬ (12 * bb ≤ j ∧ (j : Int) < 12 * bb + 12) → C' j = C j)) (hb : bb = k) (hK : K = k) (hK' : K' = k + 1) (hB : B = k) (hA : A = 40 + k) (hk : k < 40) : ∀ j : Nat, ((j : Int) < 12 * K' → C' j = g (480 + j)) ∧ (¬ ((j : Int) < 12 * K') → C' j = g j) := fun j => by
  by_cases hq : 12 * bb ≤ j ∧ (j : Int) < 12 * bb + 12
  · have e := (hu j).1 hq
    have c := (h (12 * A + (j - 12 * B))).2 (by omega)
    refine ⟨fun _ => ?_, fun h2 => absurd (by omega) h2⟩
    rw [e, c, show 12 * A + (j - 12 * B) = 480 + j from by omega]
  · have e := (hu j).2 hq
    exact ⟨fun h2 => by rw [e]; exact (h j).1 (by omega), fun h2 => by rw [e]; exact (h j).2 (by omega)⟩
end
section
variable {isR isR1 may : Int32} {le gr : Nat → Int} {si : Nat → Int64} {mn kn la : Nat → Int32} {sh lg pl ph le' gr' : Nat → Int} {si1 si' : Nat → Int64} {mn1 mn' kn' la' : Nat → Int32} {sh' lg' pl' ph' le1 gr1 : Nat → Int} {i : Nat} {a b c d e : Int32}
theorem ps_9w {low high : Int} {ba : Int32} (ha : a.toNatClampNeg < 6) (hc : c.toNatClampNeg < 6) (hd : d.toNatClampNeg < 6) (hb3 : 0 ≤ b.toInt ∧ b.toInt ≤ 2)
    (m1 : (mn a.toNatClampNeg).toInt = 0 ∨ lbit may 1) (m2 : ∀ j : Nat, j < 40 → sbit (si a.toNatClampNeg) j → ∀ q : Nat, q < 3 → lbit (la j) q → ¬ q = b.toNatClampNeg → lbit may 2) (m5 : ba.toInt = 0 ∨ lbit may 5) (mm : ¬ ba.toInt = 0 ∨ (0 ≤ (le c.toNatClampNeg) ∧ (∀ j : Nat, j < 40 → sbit (si a.toNatClampNeg) j → (gr c.toNatClampNeg) + 1 ≤ (sh j))))
    (hN : ∀ v m ln sz ce : Nat → Int32, wmS m ln sz → inC isR le gr si mn kn la sh lg pl ph v m ln sz ce → plN ln sz (m a.toNatClampNeg) b (v c.toNatClampNeg) → inC isR1 le1 gr1 si1 mn1 kn la sh lg pl ph v m ln sz ce)
    (hlo : ∀ n w : Int, (le1 d.toNatClampNeg) ≤ n → n ≤ (gr1 d.toNatClampNeg) → castR b.toInt n w → low ≤ w) (hhi : ∀ n w : Int, (le1 d.toNatClampNeg) ≤ n → n ≤ (gr1 d.toNatClampNeg) → castR b.toInt n w → w ≤ high)
    (h1 : ∀ k k0 p p0 : Nat, k < 40 → p < 12 → k0 < 40 → p0 < 12 → sbit (si1 a.toNatClampNeg) k0 → (le1 c.toNatClampNeg) ≤ p0 → (p0 : Int) ≤ (gr1 c.toNatClampNeg) → ¬ 12 * k + p = 12 * k0 + p0 → (pl' (12 * k + p)) ≤ (pl (12 * k + p)) ∧ (ph (12 * k + p)) ≤ (ph' (12 * k + p)))
    (h2 : ∀ k p : Nat, k < 40 → p < 12 → sbit (si1 a.toNatClampNeg) k → (le1 c.toNatClampNeg) ≤ p → (p : Int) ≤ (gr1 c.toNatClampNeg) → (p : Int) < (lg k) → (pl' (12 * k + p)) ≤ low ∧ high ≤ (ph' (12 * k + p))) :
    PsK 9 isR le gr si mn kn la sh lg pl ph isR1 le1 gr1 si1 mn1 kn la sh lg pl' ph' i a b c d e may := fun v m ln sz ce hw h => ⟨fun v' m' ln' sz' ce' hw' hA => by
  obtain ⟨a1, a2, a3, a4, a5, a6⟩ := hA
  have g := hN v m ln sz ce hw h a1
  rw [eqI_eq a2, eqI_eq a3, eqI_eq a4, eqI_eq a5]
  have n1 := nn_cl a1.1
  have n2 := nn_cl a1.2.2.1
  have w1 := hw.1 a.toNatClampNeg
  have tgt := (g.2.2 _ ha).2 a1.1
  have bx := g.2.1 _ hc
  have c1 := hlo _ _ (g.2.1 _ hd).1 (g.2.1 _ hd).2 ((a6 _).1 rfl)
  have c2 := hhi _ _ (g.2.1 _ hd).1 (g.2.1 _ hd).2 ((a6 _).1 rfl)
  refine ⟨g.1, g.2.1, fun r hr => ⟨(g.2.2 r hr).1, fun hm => ⟨((g.2.2 r hr).2 hm).1, ?_⟩⟩⟩
  have n3 := nn_cl hm
  have w3 := hw.1 r
  obtain ⟨o1, o2, o3, o4, o5⟩ := ((g.2.2 r hr).2 hm).2
  have z3 := hw.2.2 (m r).toNatClampNeg
  have t4 := tgt.2.2.2.2.1
  have a1c := a1.2.2
  have zA := hw.2.2 (m a.toNatClampNeg).toNatClampNeg
  refine ⟨o1, o2, o3, o4, fun p hp => ?_⟩
  have b5 := o5 p hp
  have k40 : (m r).toNatClampNeg < 40 := by omega
  have p12 : p < 12 := by omega
  by_cases ht : 12 * (m r).toNatClampNeg + p = 12 * (m a.toNatClampNeg).toNatClampNeg + (v c.toNatClampNeg).toNatClampNeg
  · have e1 : (m r).toNatClampNeg = (m a.toNatClampNeg).toNatClampNeg := by omega
    have d2 := h2 _ p k40 p12 (by rw [e1]; exact tgt.1) (by omega) (by omega) (by omega)
    exact ⟨Int.le_trans d2.1 (by rw [ht]; exact c1), Int.le_trans (by rw [ht]; exact c2) d2.2⟩
  · have e := (a6 _).2 ht
    have d1 := h1 _ _ p _ k40 p12 (by omega) (by omega) tgt.1 (by omega) (by omega) ht
    rw [e]
    exact ⟨Int.le_trans d1.1 b5.1, Int.le_trans b5.2 d1.2⟩, place_t hw ha hc hb3 h m1 m2 m5 mm⟩
end
