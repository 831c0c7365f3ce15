section
variable {isR isR1 may : Int32} {le gr : Nat → Int} {si : Nat → Int64} {mn kn la : Nat → Int32} {sh lg pl ph : Nat → Int} {si1 : Nat → Int64} {mn1 : Nat → Int32} {pl' ph' le1 gr1 : Nat → Int} {i : Nat} {a b c d e : Int32}
theorem nar_in {x : Nat} {lo hi : Int} {v m ln sz ce : Nat → Int32} (hx : x < 6) (hL : ∀ j : Nat, (j = x → (le j) ≤ (le1 j) ∧ lo ≤ (le1 j) ∧ ((le1 j) = (le j) ∨ (le1 j) = lo)) ∧ (¬ j = x → (le1 j) = (le j))) (hG : ∀ j : Nat, (j = x → (gr1 j) ≤ (gr j) ∧ (gr1 j) ≤ hi ∧ ((gr1 j) = (gr j) ∨ (gr1 j) = hi)) ∧ (¬ j = x → (gr1 j) = (gr j))) (hR : ¬ isR.toInt = 0 ∧ (le1 x) ≤ (gr1 x) → ¬ isR1.toInt = 0) (h : inC isR le gr si mn kn la sh lg pl ph v m ln sz ce) (hv : lo ≤ (v x).toInt ∧ (v x).toInt ≤ hi) : inC isR1 le1 gr1 si mn kn la sh lg pl ph v m ln sz ce := by
  have b0 := h.2.1 _ hx
  have b1 := (hL x).1 rfl
  have b2 := (hG x).1 rfl
  refine ⟨hR ⟨h.1, by omega⟩, fun y hy => ?_, h.2.2⟩
  have c0 := h.2.1 y hy
  by_cases q : y = x
  · subst q; omega
  · have c1 := (hL y).2 q
    have c2 := (hG y).2 q
    omega
/-- COPY: its THROWS -/
theorem ps_11t (ha : a.toNatClampNeg < 6) (hb : b.toNatClampNeg < 6) (hc : c.toNatClampNeg < 6) (hd : d.toNatClampNeg < 6) (he : e.toNatClampNeg < 6)
    (m1 : (mn a.toNatClampNeg).toInt = 0 ∨ lbit may 1) (m1' : (mn c.toNatClampNeg).toInt = 0 ∨ lbit may 1) (m4 : ∀ p q : Nat, p < 40 → q < 40 → sbit (si a.toNatClampNeg) p → sbit (si c.toNatClampNeg) q → ∀ s t : Nat, s < 3 → t < 3 → lbit (la p) s → lbit (la q) t → ¬ s = t → lbit may 4)
    (m5 : lbit may 5 ∨ (0 ≤ (le b.toNatClampNeg) ∧ 0 ≤ (le d.toNatClampNeg) ∧ 0 ≤ (le e.toNatClampNeg) ∧ (∀ j : Nat, j < 40 → sbit (si a.toNatClampNeg) j → (gr b.toNatClampNeg) + (gr e.toNatClampNeg) ≤ (sh j)) ∧ (∀ j : Nat, j < 40 → sbit (si c.toNatClampNeg) j → (gr d.toNatClampNeg) + (gr e.toNatClampNeg) ≤ (sh j))))
    {v m ln sz ce : Nat → Int32} (hw : wmS m ln sz) (h : inC isR le gr si mn kn la sh lg pl ph v m ln sz ce) (t : Int32) (ht : AtK a b c d e v m ln sz t 11) : lbit may t.toNatClampNeg := by
  have n0 := nn_cl2 t
  have w1 := hw.1 a.toNatClampNeg
  have w2 := hw.1 c.toNatClampNeg
  have bb := h.2.1 _ hb
  have bd := h.2.1 _ hd
  have be := h.2.1 _ he
  rcases ht with ⟨q1, q2⟩ | ⟨q1, q2, ⟨q3, q4⟩ | ⟨q3, q4⟩⟩
  · rw [show t.toNatClampNeg = 1 from by omega]
    rcases q1 with q1 | q1
    · exact m1.resolve_left ((h.2.2 _ ha).1 q1)
    · exact m1'.resolve_left ((h.2.2 _ hc).1 q1)
  · rw [show t.toNatClampNeg = 4 from by omega]
    clear n0 m5 m1 m1'
    have n1 := nn_cl q1
    have n2 := nn_cl q2
    have o1 := (h.2.2 _ ha).2 q1
    have o2 := (h.2.2 _ hc).2 q2
    have w3 := hw.2.1 (m a.toNatClampNeg).toNatClampNeg
    have w4 := hw.2.1 (m c.toNatClampNeg).toNatClampNeg
    have l1 := nn_cl w3.1
    have l2 := nn_cl w4.1
    exact m4 _ _ (by omega) (by omega) o1.1 o2.1 _ _ (by omega) (by omega) o1.2.2.1 o2.2.2.1 (by omega)
  · rw [show t.toNatClampNeg = 5 from by omega]
    rcases m5 with m5 | ⟨g1, g2, g3, g4, g5⟩
    · exact m5
    · exfalso
      clear n0
      have n1 := nn_cl q1
      have n2 := nn_cl q2
      have o1 := (h.2.2 _ ha).2 q1
      have o2 := (h.2.2 _ hc).2 q2
      have c1 := g4 _ (by omega) o1.1
      have c2 := g5 _ (by omega) o2.1
      have c3 := o1.2.2.2.1
      have c4 := o2.2.2.2.1
      omega
/-- COPY, joined -/
theorem ps_11w (ha : a.toNatClampNeg < 6) (hb : b.toNatClampNeg < 6) (hc : c.toNatClampNeg < 6) (hd : d.toNatClampNeg < 6) (he : e.toNatClampNeg < 6)
    (hT : ∀ v m ln sz ce : Nat → Int32, wmS m ln sz → inC isR le gr si mn kn la sh lg pl ph v m ln sz ce → ∀ t : Int32, AtK a b c d e v m ln sz t 11 → lbit may t.toNatClampNeg)
    (hN : ∀ v m ln sz ce : Nat → Int32, wmS m ln sz → inC isR le gr si mn kn la sh lg pl ph v m ln sz ce → 0 ≤ (m a.toNatClampNeg).toInt → 0 ≤ (m c.toNatClampNeg).toInt → 0 ≤ (v b.toNatClampNeg).toInt → 0 ≤ (v d.toNatClampNeg).toInt → 0 ≤ (v e.toNatClampNeg).toInt → inC isR1 le1 gr1 si1 mn1 kn la sh lg pl ph v m ln sz ce)
    (gl : ∀ k p : Nat, k < 40 → p < 12 → (pl' (12 * k + p)) ≤ (pl (12 * k + p))) (gh : ∀ k p : Nat, k < 40 → p < 12 → (ph (12 * k + p)) ≤ (ph' (12 * k + p)))
    (tl : ∀ k p j q : Nat, k < 40 → sbit (si1 c.toNatClampNeg) k → (le1 d.toNatClampNeg) ≤ p → (p : Int) < (gr1 d.toNatClampNeg) + (gr1 e.toNatClampNeg) → (p : Int) < (lg k) → j < 40 → sbit (si1 a.toNatClampNeg) j → (le1 b.toNatClampNeg) ≤ q → (q : Int) < (gr1 b.toNatClampNeg) + (gr1 e.toNatClampNeg) → (q : Int) < (lg j) → ¬ (gr1 e.toNatClampNeg) = 0 → (pl' (12 * k + p)) ≤ (pl (12 * j + q)) ∧ (ph (12 * j + q)) ≤ (ph' (12 * k + p))) :
    PsK 11 isR le gr si mn kn la sh lg pl ph isR1 le1 gr1 si1 mn1 kn la sh lg pl' ph' i a b c d e may := fun v m ln sz ce hw h => ⟨fun v' m' ln' sz' ce' hw' hA => by
  obtain ⟨⟨a1, a2, a3, a4, a5, a6, a7⟩, e1, e2, e3, e4, e5⟩ := hA
  have g := hN v m ln sz ce hw h a1 a2 a3 a4 a5
  rw [eqI_eq e1, eqI_eq e2, eqI_eq e3, eqI_eq e4]
  have n1 := nn_cl a1
  have n2 := nn_cl a2
  have n3 := nn_cl a3
  have n4 := nn_cl a4
  have w1 := hw.1 a.toNatClampNeg
  have w2 := hw.1 c.toNatClampNeg
  have sA := (g.2.2 _ ha).2 a1
  have sC := (g.2.2 _ hc).2 a2
  have bb := g.2.1 _ hb
  have bd := g.2.1 _ hd
  have be := g.2.1 _ he
  have zA := hw.2.2 (m a.toNatClampNeg).toNatClampNeg
  have zC := hw.2.2 (m c.toNatClampNeg).toNatClampNeg
  refine ⟨g.1, g.2.1, fun r hr => ⟨(g.2.2 r hr).1, fun hm => ⟨((g.2.2 r hr).2 hm).1, ?_⟩⟩⟩
  have n5 := nn_cl hm
  have w5 := hw.1 r
  obtain ⟨o1, o2, o3, o4, o5⟩ := ((g.2.2 r hr).2 hm).2
  have z5 := hw.2.2 (m r).toNatClampNeg
  refine ⟨o1, o2, o3, o4, fun p hp => ?_⟩
  have b5 := o5 p hp
  have g1 := gl (m r).toNatClampNeg p (by omega) (by omega)
  have g2 := gh (m r).toNatClampNeg p (by omega) (by omega)
  by_cases ht : (m r).toNatClampNeg = (m c.toNatClampNeg).toNatClampNeg ∧ (v d.toNatClampNeg).toInt ≤ p ∧ (p : Int) < (v d.toNatClampNeg).toInt + (v e.toNatClampNeg).toInt
  · obtain ⟨t1, t2, t3⟩ := ht
    rw [t1]
    have b7 := (e5 (12 * (m c.toNatClampNeg).toNatClampNeg + p)).1 (by omega)
    obtain ⟨q, hq⟩ : ∃ q : Nat, q = (v b.toNatClampNeg).toNatClampNeg + (p - (v d.toNatClampNeg).toNatClampNeg) := ⟨_, rfl⟩
    rw [show 12 * (m a.toNatClampNeg).toNatClampNeg + (v b.toNatClampNeg).toNatClampNeg + (12 * (m c.toNatClampNeg).toNatClampNeg + p - (12 * (m c.toNatClampNeg).toNatClampNeg + (v d.toNatClampNeg).toNatClampNeg)) = 12 * (m a.toNatClampNeg).toNatClampNeg + q from by omega] at b7
    have b8 := sA.2.2.2.2.2 q (by omega)
    have l1 := sA.2.2.2.2.1
    have l2 := sC.2.2.2.2.1
    have b9 := tl (m c.toNatClampNeg).toNatClampNeg p (m a.toNatClampNeg).toNatClampNeg q (by omega) sC.1 (by omega) (by omega) (by omega) (by omega) sA.1 (by omega) (by omega) (by omega) (by omega)
    omega
  · have b7 := (e5 (12 * (m r).toNatClampNeg + p)).2 (by omega)
    omega, hT v m ln sz ce hw h⟩
/-- COPY of one ARRAY to one, of places that are one number each -/
theorem ps_11s {fs ts : Int32} (ha : a.toNatClampNeg < 6) (hb : b.toNatClampNeg < 6) (hc : c.toNatClampNeg < 6) (hd : d.toNatClampNeg < 6) (he : e.toNatClampNeg < 6)
    (hT : ∀ v m ln sz ce : Nat → Int32, wmS m ln sz → inC isR le gr si mn kn la sh lg pl ph v m ln sz ce → ∀ t : Int32, AtK a b c d e v m ln sz t 11 → lbit may t.toNatClampNeg)
    (hN : ∀ v m ln sz ce : Nat → Int32, wmS m ln sz → inC isR le gr si mn kn la sh lg pl ph v m ln sz ce → 0 ≤ (m a.toNatClampNeg).toInt → 0 ≤ (m c.toNatClampNeg).toInt → 0 ≤ (v b.toNatClampNeg).toInt → 0 ≤ (v d.toNatClampNeg).toInt → 0 ≤ (v e.toNatClampNeg).toInt → inC isR1 le1 gr1 si1 mn1 kn la sh lg pl ph v m ln sz ce)
    (hf : 0 ≤ fs.toInt ∧ fs.toInt ≤ 39) (hts : 0 ≤ ts.toInt ∧ ts.toInt ≤ 39)
    (uA : ∀ p q : Nat, p < 64 → q < 64 → sbit (si1 a.toNatClampNeg) p → sbit (si1 a.toNatClampNeg) q → p = q) (uC : ∀ p q : Nat, p < 64 → q < 64 → sbit (si1 c.toNatClampNeg) p → sbit (si1 c.toNatClampNeg) q → p = q) (fA : ∀ j : Nat, j < 40 → sbit (si1 a.toNatClampNeg) j → sbit (si1 a.toNatClampNeg) fs.toNatClampNeg) (fC : ∀ j : Nat, j < 40 → sbit (si1 c.toNatClampNeg) j → sbit (si1 c.toNatClampNeg) ts.toNatClampNeg)
    (oB : (le1 b.toNatClampNeg) = (gr1 b.toNatClampNeg)) (oD : (le1 d.toNatClampNeg) = (gr1 d.toNatClampNeg)) (oE : (le1 e.toNatClampNeg) = (gr1 e.toNatClampNeg))
    (ml : ¬ (0 ≤ (le1 b.toNatClampNeg) ∧ 0 ≤ (le1 d.toNatClampNeg) ∧ 0 ≤ (le1 e.toNatClampNeg) ∧ (le1 b.toNatClampNeg) + (le1 e.toNatClampNeg) ≤ 12 ∧ (le1 d.toNatClampNeg) + (le1 e.toNatClampNeg) ≤ 12) ∨ (∀ j : Nat, (12 * ts.toInt + (le1 d.toNatClampNeg) ≤ j ∧ (j : Int) < 12 * ts.toInt + (le1 d.toNatClampNeg) + (le1 e.toNatClampNeg) → (pl' j) = (pl (12 * fs.toNatClampNeg + (le1 b.toNatClampNeg).toNat + (j - (12 * ts.toNatClampNeg + (le1 d.toNatClampNeg).toNat))))) ∧ (¬ (12 * ts.toInt + (le1 d.toNatClampNeg) ≤ j ∧ (j : Int) < 12 * ts.toInt + (le1 d.toNatClampNeg) + (le1 e.toNatClampNeg)) → (pl' j) = (pl j))))
    (mh : ¬ (0 ≤ (le1 b.toNatClampNeg) ∧ 0 ≤ (le1 d.toNatClampNeg) ∧ 0 ≤ (le1 e.toNatClampNeg) ∧ (le1 b.toNatClampNeg) + (le1 e.toNatClampNeg) ≤ 12 ∧ (le1 d.toNatClampNeg) + (le1 e.toNatClampNeg) ≤ 12) ∨ (∀ j : Nat, (12 * ts.toInt + (le1 d.toNatClampNeg) ≤ j ∧ (j : Int) < 12 * ts.toInt + (le1 d.toNatClampNeg) + (le1 e.toNatClampNeg) → (ph' j) = (ph (12 * fs.toNatClampNeg + (le1 b.toNatClampNeg).toNat + (j - (12 * ts.toNatClampNeg + (le1 d.toNatClampNeg).toNat))))) ∧ (¬ (12 * ts.toInt + (le1 d.toNatClampNeg) ≤ j ∧ (j : Int) < 12 * ts.toInt + (le1 d.toNatClampNeg) + (le1 e.toNatClampNeg)) → (ph' j) = (ph j)))) :
    PsK 11 isR le gr si mn kn la sh lg pl ph isR1 le1 gr1 si1 mn1 kn la sh lg pl' ph' i a b c d e may := fun v m ln sz ce hw h => ⟨fun v' m' ln' sz' ce' hw' hA => by
  obtain ⟨⟨a1, a2, a3, a4, a5, a6, a7⟩, e1, e2, e3, e4, e5⟩ := hA
  have g := hN v m ln sz ce hw h a1 a2 a3 a4 a5
  rw [eqI_eq e1, eqI_eq e2, eqI_eq e3, eqI_eq e4]
  have n1 := nn_cl a1
  have n2 := nn_cl a2
  have n6 := nn_cl hf.1
  have n7 := nn_cl hts.1
  have w1 := hw.1 a.toNatClampNeg
  have w2 := hw.1 c.toNatClampNeg
  have sA := (g.2.2 _ ha).2 a1
  have sC := (g.2.2 _ hc).2 a2
  have bb := g.2.1 _ hb
  have bd := g.2.1 _ hd
  have be := g.2.1 _ he
  have vb : le1 b.toNatClampNeg = (v b.toNatClampNeg).toInt := by clear ml mh; omega
  have vd : le1 d.toNatClampNeg = (v d.toNatClampNeg).toInt := by clear ml mh; omega
  have ve : le1 e.toNatClampNeg = (v e.toNatClampNeg).toInt := by clear ml mh; omega
  rw [vb, vd, ve] at ml mh
  rw [show (v b.toNatClampNeg).toInt.toNat = (v b.toNatClampNeg).toNatClampNeg from rfl, show (v d.toNatClampNeg).toInt.toNat = (v d.toNatClampNeg).toNatClampNeg from rfl] at ml mh
  have n3 := nn_cl a3
  have n4 := nn_cl a4
  have zA := hw.2.2 (m a.toNatClampNeg).toNatClampNeg
  have zC := hw.2.2 (m c.toNatClampNeg).toNatClampNeg
  have xA := uA _ _ (by clear ml mh; omega) (by clear ml mh; omega) (fA _ (by clear ml mh; omega) sA.1) sA.1
  have xC := uC _ _ (by clear ml mh; omega) (by clear ml mh; omega) (fC _ (by clear ml mh; omega) sC.1) sC.1
  have zA12 : (v b.toNatClampNeg).toInt + (v e.toNatClampNeg).toInt ≤ 12 := by clear ml mh; omega
  have zC12 : (v d.toNatClampNeg).toInt + (v e.toNatClampNeg).toInt ≤ 12 := by clear ml mh; omega
  have ml2 := ml.resolve_left (fun q => q ⟨a3, a4, a5, zA12, zC12⟩)
  have mh2 := mh.resolve_left (fun q => q ⟨a3, a4, a5, zA12, zC12⟩)
  clear ml mh
  rw [xA] at ml2 mh2
  rw [xC] at ml2 mh2
  rw [show ts.toInt = ((m c.toNatClampNeg).toNatClampNeg : Int) from by omega] at ml2 mh2
  refine ⟨g.1, g.2.1, fun r hr => ⟨(g.2.2 r hr).1, fun hm => ⟨((g.2.2 r hr).2 hm).1, ?_⟩⟩⟩
  have n5 := nn_cl hm
  have w5 := hw.1 r
  obtain ⟨o1, o2, o3, o4, o5⟩ := ((g.2.2 r hr).2 hm).2
  have z5 := hw.2.2 (m r).toNatClampNeg
  refine ⟨o1, o2, o3, o4, fun p hp => ?_⟩
  have b5 := o5 p hp
  by_cases ht : (m r).toNatClampNeg = (m c.toNatClampNeg).toNatClampNeg ∧ (v d.toNatClampNeg).toInt ≤ p ∧ (p : Int) < (v d.toNatClampNeg).toInt + (v e.toNatClampNeg).toInt
  · obtain ⟨t1, t2, t3⟩ := ht
    rw [t1]
    have b7 := (e5 (12 * (m c.toNatClampNeg).toNatClampNeg + p)).1 (by omega)
    have c7 := (ml2 (12 * (m c.toNatClampNeg).toNatClampNeg + p)).1 (by omega)
    have d7 := (mh2 (12 * (m c.toNatClampNeg).toNatClampNeg + p)).1 (by omega)
    obtain ⟨q, hq⟩ : ∃ q : Nat, q = (v b.toNatClampNeg).toNatClampNeg + (p - (v d.toNatClampNeg).toNatClampNeg) := ⟨_, rfl⟩
    have eq1 : 12 * (m a.toNatClampNeg).toNatClampNeg + (v b.toNatClampNeg).toNatClampNeg + (12 * (m c.toNatClampNeg).toNatClampNeg + p - (12 * (m c.toNatClampNeg).toNatClampNeg + (v d.toNatClampNeg).toNatClampNeg)) = 12 * (m a.toNatClampNeg).toNatClampNeg + q := by omega
    rw [eq1] at b7 c7 d7
    have b8 := sA.2.2.2.2.2 q (by omega)
    omega
  · have b7 := (e5 (12 * (m r).toNatClampNeg + p)).2 (by omega)
    have c7 := (ml2 (12 * (m r).toNatClampNeg + p)).2 (by omega)
    have d7 := (mh2 (12 * (m r).toNatClampNeg + p)).2 (by omega)
    omega, hT v m ln sz ce hw h⟩
/-- FILL -/
theorem ps_12n (hx : c.toNatClampNeg < 6) (hy : d.toNatClampNeg < 6) (hq : (gr d.toNatClampNeg) ≤ (le c.toNatClampNeg)) : PsK 12 isR le gr si mn kn la sh lg pl ph isR le gr si mn kn la sh lg pl ph i a b c d e may := fun v m ln sz ce hw h => ⟨fun v' m' ln' sz' ce' hw' hA => by
  obtain ⟨e1, e2, e3, e4, ⟨q1, q2⟩ | ⟨q1, q2⟩⟩ := hA
  · rw [eqI_eq e1, eqI_eq e2, eqI_eq e3, eqI_eq e4, eqI_eq q2]; exact h
  · have b1 := h.2.1 _ hx
    have b2 := h.2.1 _ hy
    omega, fun t ht => by
  have b1 := h.2.1 _ hx
  have b2 := h.2.1 _ hy
  have b3 := ht.1
  omega⟩
theorem ps_12 {st low high ba : Int32} {tk : Int64} (ha : a.toNatClampNeg < 6) (hx : c.toNatClampNeg < 6) (hy : d.toNatClampNeg < 6) (hz : e.toNatClampNeg < 6) (hb3 : 0 ≤ b.toInt ∧ b.toInt ≤ 2)
    (m1 : (mn a.toNatClampNeg).toInt = 0 ∨ lbit may 1) (m2 : ∀ j : Nat, j < 40 → sbit (si a.toNatClampNeg) j → ∀ q : Nat, q < 3 → lbit (la j) q → ¬ q = b.toNatClampNeg → lbit may 2) (m5 : ba.toInt = 0 ∨ lbit may 5) (mm : ¬ ba.toInt = 0 ∨ (0 ≤ (le c.toNatClampNeg) ∧ (∀ j : Nat, j < 40 → sbit (si a.toNatClampNeg) j → (gr d.toNatClampNeg) ≤ (sh j))))
    (htk : ∀ k : Nat, k < 64 → (sbit tk k ↔ (k < 40 ∧ sbit (si a.toNatClampNeg) k ∧ lbit (la k) b.toNatClampNeg))) (hlo : ∀ n w : Int, (le e.toNatClampNeg) ≤ n → n ≤ (gr e.toNatClampNeg) → castR b.toInt n w → low.toInt ≤ w) (hhi : ∀ n w : Int, (le e.toNatClampNeg) ≤ n → n ≤ (gr e.toNatClampNeg) → castR b.toInt n w → w ≤ high.toInt)
    (hst : ¬ st.toInt = 0 → ∀ p q : Nat, p < 64 → q < 64 → sbit (si a.toNatClampNeg) p → sbit (si a.toNatClampNeg) q → p = q)
    (hpl : ∀ k p : Nat, k < 40 → p < 12 → (sbit tk k → (le c.toNatClampNeg) ≤ p → (p : Int) < (gr d.toNatClampNeg) → (p : Int) < (lg k) → (pl' (12 * k + p)) ≤ low.toInt) ∧ (¬ (sbit tk k ∧ ¬ st.toInt = 0 ∧ (gr c.toNatClampNeg) ≤ p ∧ (p : Int) < (le d.toNatClampNeg)) → (pl' (12 * k + p)) ≤ (pl (12 * k + p))))
    (hph : ∀ k p : Nat, k < 40 → p < 12 → (sbit tk k → (le c.toNatClampNeg) ≤ p → (p : Int) < (gr d.toNatClampNeg) → (p : Int) < (lg k) → high.toInt ≤ (ph' (12 * k + p))) ∧ (¬ (sbit tk k ∧ ¬ st.toInt = 0 ∧ (gr c.toNatClampNeg) ≤ p ∧ (p : Int) < (le d.toNatClampNeg)) → (ph (12 * k + p)) ≤ (ph' (12 * k + p)))) :
    PsK 12 isR le gr si mn kn la sh lg pl ph isR le gr si mn kn la sh lg pl' ph' i a b c d e may := fun v m ln sz ce hw h => ⟨fun v' m' ln' sz' ce' hw' hA => by
  obtain ⟨e1, e2, e3, e4, hF⟩ := hA
  rw [eqI_eq e1, eqI_eq e2, eqI_eq e3, eqI_eq e4]
  have bx := h.2.1 _ hx
  have by_ := h.2.1 _ hy
  have bz := h.2.1 _ hz
  refine ⟨h.1, h.2.1, fun r hr => ⟨(h.2.2 r hr).1, fun hm => ⟨((h.2.2 r hr).2 hm).1, ?_⟩⟩⟩
  have n5 := nn_cl hm
  have w5 := hw.1 r
  have sR := ((h.2.2 r hr).2 hm).1
  obtain ⟨o1, o2, o3, o4, o5⟩ := ((h.2.2 r hr).2 hm).2
  have z5 := hw.2.2 (m r).toNatClampNeg
  refine ⟨o1, o2, o3, o4, fun p hp => ?_⟩
  have b5 := o5 p hp
  have k40 : (m r).toNatClampNeg < 40 := by omega
  have p12 : p < 12 := by omega
  rcases hF with ⟨q1, q2⟩ | ⟨q1, q2, q3, q4, q5, q6⟩
  · rw [eqI_eq q2]
    have no : ¬ (sbit tk (m r).toNatClampNeg ∧ ¬ st.toInt = 0 ∧ (gr c.toNatClampNeg) ≤ p ∧ (p : Int) < (le d.toNatClampNeg)) := fun ⟨_, _, z3, z4⟩ => by omega
    have c1 := (hpl _ p k40 p12).2 no
    have c2 := (hph _ p k40 p12).2 no
    exact ⟨Int.le_trans c1 b5.1, Int.le_trans b5.2 c2⟩
  · have n1 := nn_cl q2
    have w1 := hw.1 a.toNatClampNeg
    have sA := (h.2.2 _ ha).2 q2
    have eb : b = ln (m a.toNatClampNeg).toNatClampNeg := i_eq q3.symm
    have tA : sbit tk (m a.toNatClampNeg).toNatClampNeg := (htk _ (by omega)).mpr ⟨by omega, sA.1, by rw [eb]; exact sA.2.2.1⟩
    have lA := sA.2.2.2.2.1
    have zA := hw.2.2 (m a.toNatClampNeg).toNatClampNeg
    by_cases ht : (m r).toNatClampNeg = (m a.toNatClampNeg).toNatClampNeg ∧ (v c.toNatClampNeg).toInt ≤ p ∧ (p : Int) < (v d.toNatClampNeg).toInt
    · obtain ⟨t1, t2, t3⟩ := ht
      have p1 : le c.toNatClampNeg ≤ p := by omega
      have p2 : (p : Int) < gr d.toNatClampNeg := by omega
      have p3 : (p : Int) < lg (m a.toNatClampNeg).toNatClampNeg := by omega
      have rg : 12 * (m a.toNatClampNeg).toInt + (v c.toNatClampNeg).toInt ≤ ((12 * (m a.toNatClampNeg).toNatClampNeg + p : Nat) : Int) ∧ ((12 * (m a.toNatClampNeg).toNatClampNeg + p : Nat) : Int) < 12 * (m a.toNatClampNeg).toInt + (v d.toNatClampNeg).toInt := by omega
      have c1 := hlo _ _ bz.1 bz.2 ((q6 _).1 rg)
      have c2 := hhi _ _ bz.1 bz.2 ((q6 _).1 rg)
      rw [t1] at k40 ⊢
      exact ⟨Int.le_trans ((hpl _ p k40 p12).1 tA p1 p2 p3) c1, Int.le_trans c2 ((hph _ p k40 p12).1 tA p1 p2 p3)⟩
    · have c0 := (q6 (12 * (m r).toNatClampNeg + p)).2 (by omega)
      have no : ¬ (sbit tk (m r).toNatClampNeg ∧ ¬ st.toInt = 0 ∧ (gr c.toNatClampNeg) ≤ p ∧ (p : Int) < (le d.toNatClampNeg)) := fun ⟨z1, z2, z3, z4⟩ => ht ⟨hst z2 _ _ (by omega) (by omega) ((htk _ (by omega)).mp z1).2.1 sA.1, by omega, by omega⟩
      have c1 := (hpl _ p k40 p12).2 no
      have c2 := (hph _ p k40 p12).2 no
      rw [c0]
      exact ⟨Int.le_trans c1 b5.1, Int.le_trans b5.2 c2⟩, fun t ht => by
  have n0 := nn_cl2 t
  have w1 := hw.1 a.toNatClampNeg
  have bx := h.2.1 _ hx
  have by_ := h.2.1 _ hy
  obtain ⟨t0, ⟨q1, q2⟩ | ⟨q1, ⟨q2, q3⟩ | ⟨q2, q3⟩⟩⟩ := ht
  · rw [show t.toNatClampNeg = 1 from by omega]
    exact m1.resolve_left ((h.2.2 _ ha).1 q1)
  · rw [show t.toNatClampNeg = 2 from by omega]
    clear n0
    have n1 := nn_cl q1
    have old := (h.2.2 _ ha).2 q1
    have w2 := hw.2.1 (m a.toNatClampNeg).toNatClampNeg
    have n2 := nn_cl w2.1
    have n3 := nn_cl hb3.1
    exact m2 _ (by omega) old.1 _ (by omega) old.2.2.1 (by omega)
  · rw [show t.toNatClampNeg = 5 from by omega]
    refine m5.resolve_left (fun z => ?_)
    have mm2 := mm.resolve_left (fun q => q z)
    clear n0 mm m5
    have n1 := nn_cl q1
    have old := (h.2.2 _ ha).2 q1
    have b1 := mm2.2 _ (by omega) old.1
    have b2 := old.2.2.2.1
    omega⟩
end
