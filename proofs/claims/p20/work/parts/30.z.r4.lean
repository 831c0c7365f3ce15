/-- one more place is made 0 -/
theorem zr_s {C C' g : Nat → Int64} {b K K' : Int} {it : Nat} {z : Int} (h : ∀ j : Nat, (12 * b ≤ j ∧ (j : Int) < 12 * b + K → (C j).toInt = 0) ∧ (¬ (12 * b ≤ j ∧ (j : Int) < 12 * b + K) → (C j).toInt = (g j).toInt)) (hu : ∀ j : Nat, (j = it → (C' j).toInt = z) ∧ (¬ j = it → (C' j).toInt = (C j).toInt)) (hz : z = 0) (hi : (it : Int) = 12 * b + K) (hK : K' = K + 1 ∧ 0 ≤ K) : ∀ j : Nat, (12 * b ≤ j ∧ (j : Int) < 12 * b + K' → (C' j).toInt = 0) ∧ (¬ (12 * b ≤ j ∧ (j : Int) < 12 * b + K') → (C' j).toInt = (g j).toInt) := fun j => by
  by_cases hq : j = it
  · have e := (hu j).1 hq
    exact ⟨fun _ => e.trans hz, fun h2 => absurd (by omega) h2⟩
  · have e := (hu j).2 hq
    exact ⟨fun h2 => by rw [e]; exact (h j).1 (by omega), fun h2 => by rw [e]; exact (h j).2 (by omega)⟩
/-- places of SITES S from L to H are JOINED (not those of Z: these are made): below SITE K it is done -/
def wkL (S Z : Nat → Prop) (L H : Int) (mo : Nat → Int) (lo : Int) (g C : Nat → Int) (K : Int) : Prop := (∀ j : Nat, ¬ Z j → C j ≤ g j) ∧ (∀ j : Nat, 480 ≤ j → C j = g j) ∧ (∀ k p : Nat, k < 40 → p < 12 → (k : Int) < K → S k → L ≤ p → (p : Int) ≤ H → (p : Int) < mo k → C (12 * k + p) ≤ lo)
def wkI (S Z : Nat → Prop) (L H : Int) (mo : Nat → Int) (lo : Int) (g C : Nat → Int) (K : Int) (k0 : Nat) (P : Int) : Prop := wkL S Z L H mo lo g C K ∧ (∀ p : Nat, p < 12 → (p : Int) < P → S k0 → L ≤ p → (p : Int) ≤ H → (p : Int) < mo k0 → C (12 * k0 + p) ≤ lo)
section
variable {S Z : Nat → Prop} {L H : Int} {mo : Nat → Int} {lo : Int} {g C C' : Nat → Int} {K K' P P' : Int} {k0 p0 : Nat}
theorem wk_0 (hK : K = 0) : wkL S Z L H mo lo g g K := ⟨fun _ _ => Int.le_refl _, fun _ _ => rfl, fun k p _ _ h => by omega⟩
theorem wk_i (h : wkL S Z L H mo lo g C K) (hP : P ≤ L ∨ P ≤ 0) : wkI S Z L H mo lo g C K k0 P := ⟨h, fun p _ h1 _ h2 => by omega⟩
theorem wk_j (h : wkI S Z L H mo lo g C K k0 P) (hu : ∀ j : Nat, (j = 12 * k0 + p0 → (Z j ∨ C' j ≤ C j) ∧ C' j ≤ lo) ∧ (¬ j = 12 * k0 + p0 → C' j = C j)) (hP : P = p0) (hP' : P' = p0 + 1) (hK : K = k0) (h40 : k0 < 40) (h12 : p0 < 12) : wkI S Z L H mo lo g C' K k0 P' := by
  obtain ⟨⟨h1, h2, h3⟩, h4⟩ := h
  refine ⟨⟨fun j hz => ?_, fun j hj => ?_, fun k p hk hp hK2 hs a1 a2 a3 => ?_⟩, fun p hp hpP hs a1 a2 a3 => ?_⟩
  · by_cases q : j = 12 * k0 + p0
    · exact Int.le_trans (((hu j).1 q).1.resolve_left hz) (h1 j hz)
    · rw [(hu j).2 q]; exact h1 j hz
  · rw [(hu j).2 (by omega)]; exact h2 j hj
  · rw [(hu _).2 (by omega)]; exact h3 k p hk hp hK2 hs a1 a2 a3
  · by_cases q : p = p0
    · exact ((hu _).1 (by rw [q])).2
    · rw [(hu _).2 (by omega)]; exact h4 p hp (by omega) hs a1 a2 a3
theorem wk_o (h : wkI S Z L H mo lo g C K k0 P) (he : ¬ S k0 ∨ H < P ∨ mo k0 ≤ P ∨ 12 ≤ P) (hK : K = k0) (hK' : K' = k0 + 1) : wkL S Z L H mo lo g C K' := by
  obtain ⟨⟨h1, h2, h3⟩, h4⟩ := h
  refine ⟨h1, h2, fun k p hk hp hK2 hs a1 a2 a3 => ?_⟩
  by_cases q : k = k0
  · subst q
    rcases he with he | he
    · exact absurd hs he
    · exact h4 p hp (by omega) hs a1 a2 a3
  · exact h3 k p hk hp (by omega) hs a1 a2 a3
/-- a SITE that is not among them -/
theorem wk_n (h : wkL S Z L H mo lo g C K) (he : ¬ S k0) (hK : K = k0) (hK' : K' = k0 + 1) : wkL S Z L H mo lo g C K' := by
  obtain ⟨h1, h2, h3⟩ := h
  refine ⟨h1, h2, fun k p hk hp hK2 hs a1 a2 a3 => ?_⟩
  by_cases q : k = k0
  · subst q; exact absurd hs he
  · exact h3 k p hk hp (by omega) hs a1 a2 a3
end
section
variable {isR isR1 may : Int32} {le gr : Nat → Int} {si : Nat → Int64} {mn kn la : Nat → Int32} {sh lg pl ph : Nat → Int} {si1 : Nat → Int64} {mn1 : Nat → Int32} {pl' ph' le1 gr1 : Nat → Int} {i : Nat} {a b c d e : Int32}
theorem ps_11wr (ha : a.toNatClampNeg < 6) (hb : b.toNatClampNeg < 6) (hc : c.toNatClampNeg < 6) (hd : d.toNatClampNeg < 6) (he : e.toNatClampNeg < 6)
    (hT : ∀ v m ln sz ce : Nat → Int32, wmS m ln sz → inC isR le gr si mn kn la sh lg pl ph v m ln sz ce → ∀ t : Int32, AtK a b c d e v m ln sz t 11 → lbit may t.toNatClampNeg)
    (hN : ∀ v m ln sz ce : Nat → Int32, wmS m ln sz → inC isR le gr si mn kn la sh lg pl ph v m ln sz ce → 0 ≤ (m a.toNatClampNeg).toInt → 0 ≤ (m c.toNatClampNeg).toInt → 0 ≤ (v b.toNatClampNeg).toInt → 0 ≤ (v d.toNatClampNeg).toInt → 0 ≤ (v e.toNatClampNeg).toInt → inC isR1 le1 gr1 si1 mn1 kn la sh lg pl ph v m ln sz ce)
    (gl : ∀ k p : Nat, k < 40 → p < 12 → (pl' (12 * k + p)) ≤ (pl (12 * k + p))) (gh : ∀ k p : Nat, k < 40 → p < 12 → (ph (12 * k + p)) ≤ (ph' (12 * k + p)))
    (tl : ∀ k p j q : Nat, k < 40 → sbit (si1 c.toNatClampNeg) k → (le1 d.toNatClampNeg) ≤ p → (p : Int) < (gr1 d.toNatClampNeg) + (gr1 e.toNatClampNeg) → (p : Int) < (lg k) → j < 40 → sbit (si1 a.toNatClampNeg) j → (le1 b.toNatClampNeg) ≤ q → (q : Int) < (gr1 b.toNatClampNeg) + (gr1 e.toNatClampNeg) → (q : Int) < (lg j) → ¬ (gr1 e.toNatClampNeg) = 0 → (pl (12 * j + q)) ≤ (ph (12 * j + q)) → (pl' (12 * k + p)) ≤ (pl (12 * j + q)) ∧ (ph (12 * j + q)) ≤ (ph' (12 * k + p))) :
    PsK 11 isR le gr si mn kn la sh lg pl ph isR1 le1 gr1 si1 mn1 kn la sh lg pl' ph' i a b c d e may := fun v m ln sz ce hw h => ⟨fun v' m' ln' sz' ce' hw' hA => by
  obtain ⟨⟨a1, a2, a3, a4, a5, a6, a7⟩, e1, e2, e3, e4, e5⟩ := hA
  have g := hN v m ln sz ce hw h a1 a2 a3 a4 a5
  rw [eqI_eq e1, eqI_eq e2, eqI_eq e3, eqI_eq e4]
  have n1 := nn_cl a1
  have n2 := nn_cl a2
  have n3 := nn_cl a3
  have n4 := nn_cl a4
  have w1 := hw.1 a.toNatClampNeg
  have w2 := hw.1 c.toNatClampNeg
  have sA := (g.2.2 _ ha).2 a1
  have sC := (g.2.2 _ hc).2 a2
  have bb := g.2.1 _ hb
  have bd := g.2.1 _ hd
  have be := g.2.1 _ he
  have zA := hw.2.2 (m a.toNatClampNeg).toNatClampNeg
  have zC := hw.2.2 (m c.toNatClampNeg).toNatClampNeg
  refine ⟨g.1, g.2.1, fun r hr => ⟨(g.2.2 r hr).1, fun hm => ⟨((g.2.2 r hr).2 hm).1, ?_⟩⟩⟩
  have n5 := nn_cl hm
  have w5 := hw.1 r
  obtain ⟨o1, o2, o3, o4, o5⟩ := ((g.2.2 r hr).2 hm).2
  have z5 := hw.2.2 (m r).toNatClampNeg
  refine ⟨o1, o2, o3, o4, fun p hp => ?_⟩
  have b5 := o5 p hp
  have g1 := gl (m r).toNatClampNeg p (by omega) (by omega)
  have g2 := gh (m r).toNatClampNeg p (by omega) (by omega)
  by_cases ht : (m r).toNatClampNeg = (m c.toNatClampNeg).toNatClampNeg ∧ (v d.toNatClampNeg).toInt ≤ p ∧ (p : Int) < (v d.toNatClampNeg).toInt + (v e.toNatClampNeg).toInt
  · obtain ⟨t1, t2, t3⟩ := ht
    rw [t1]
    have b7 := (e5 (12 * (m c.toNatClampNeg).toNatClampNeg + p)).1 (by omega)
    obtain ⟨q, hq⟩ : ∃ q : Nat, q = (v b.toNatClampNeg).toNatClampNeg + (p - (v d.toNatClampNeg).toNatClampNeg) := ⟨_, rfl⟩
    rw [show 12 * (m a.toNatClampNeg).toNatClampNeg + (v b.toNatClampNeg).toNatClampNeg + (12 * (m c.toNatClampNeg).toNatClampNeg + p - (12 * (m c.toNatClampNeg).toNatClampNeg + (v d.toNatClampNeg).toNatClampNeg)) = 12 * (m a.toNatClampNeg).toNatClampNeg + q from by omega] at b7
    have b8 := sA.2.2.2.2.2 q (by omega)
    have l1 := sA.2.2.2.2.1
    have l2 := sC.2.2.2.2.1
    have b9 := tl (m c.toNatClampNeg).toNatClampNeg p (m a.toNatClampNeg).toNatClampNeg q (by omega) sC.1 (by omega) (by omega) (by omega) (by omega) sA.1 (by omega) (by omega) (by omega) (by omega) (by omega)
    omega
  · have b7 := (e5 (12 * (m r).toNatClampNeg + p)).2 (by omega)
    omega, hT v m ln sz ce hw h⟩
end
theorem ladd64 {x y v : Int64} (e : v = x + y) (h : -9223372036854775808 ≤ x.toInt + y.toInt ∧ x.toInt + y.toInt ≤ 9223372036854775807) : v.toInt = x.toInt + y.toInt := by rw [e, Int64.toInt_add, bm64 h]
theorem lsub64 {x y v : Int64} (e : v = x - y) (h : -9223372036854775808 ≤ x.toInt - y.toInt ∧ x.toInt - y.toInt ≤ 9223372036854775807) : v.toInt = x.toInt - y.toInt := by rw [e, Int64.toInt_sub, bm64 h]
/-- one LANE at most -/
theorem one_bit {b v w : Int32} (hb : 0 ≤ b.toInt ∧ b.toInt ≤ 7) (hv : v.toInt = b.toInt - 1) (ew : w = b &&& v) (h : w.toInt = 0) : ∀ p q : Nat, p < 3 → q < 3 → lbit b p → lbit b q → p = q := by
  obtain ⟨n, hn, hn2, rfl⟩ := i_nI hb
  have e1 := nI_toInt hn2
  have key : ∀ m : Fin 8, (nI m.val &&& (nI m.val - 1)).toInt = 0 → ∀ p q : Fin 3, bt (nI m.val) p.val = true → bt (nI m.val) q.val = true → p = q := by decide +kernel
  have e2 : v = nI n - 1 := by
    apply Int32.toInt_inj.mp
    rw [hv, Int32.toInt_sub, bm32 (by have z1 : (1 : Int32).toInt = 1 := by decide
                                      omega)]
    have z1 : (1 : Int32).toInt = 1 := by decide
    omega
  rw [ew, e2] at h
  exact fun p q hp hq h1 h2 => Fin.mk.inj_iff.mp (key ⟨n, by omega⟩ h ⟨p, hp⟩ ⟨q, hq⟩ h1 h2)
/-- one more place of a copy -/
theorem sg_s {C C' g : Nat → Int} {f : Nat → Nat} {B K K' : Int} {it : Nat} {val : Int} (h : ∀ j : Nat, (B ≤ j ∧ (j : Int) < B + K → C j = g (f j)) ∧ (¬ (B ≤ j ∧ (j : Int) < B + K) → C j = g j)) (hu : ∀ j : Nat, (j = it → C' j = val) ∧ (¬ j = it → C' j = C j)) (hv : val = g (f it)) (hi : (it : Int) = B + K) (hK : K' = K + 1 ∧ 0 ≤ K) : ∀ j : Nat, (B ≤ j ∧ (j : Int) < B + K' → C' j = g (f j)) ∧ (¬ (B ≤ j ∧ (j : Int) < B + K') → C' j = g j) := fun j => by
  by_cases hq : j = it
  · have e := (hu j).1 hq
    exact ⟨fun _ => by rw [e, hv, hq], fun h2 => absurd (by omega) h2⟩
  · have e := (hu j).2 hq
    exact ⟨fun h2 => by rw [e]; exact (h j).1 (by omega), fun h2 => by rw [e]; exact (h j).2 (by omega)⟩
