section
variable {isR isR1 may : Int32} {le gr : Nat → Int} {si : Nat → Int64} {mn kn la : Nat → Int32} {sh lg pl ph le' gr' : Nat → Int} {si1 si' : Nat → Int64} {mn1 mn' kn' la' : Nat → Int32} {sh' lg' pl' ph' le1 gr1 : Nat → Int} {i : Nat} {a b c d e : Int32}
theorem wr_atr {st : Int32} {all : Int64} {k0 p0 k p : Nat} {L G lo hi : Int} {pl1 pl0 ph1 ph0 c1 c0 : Nat → Int} {lgf : Nat → Int} {C : Prop}
    (hpl : ((sbit all k ∧ L ≤ p ∧ (p : Int) ≤ G ∧ (p : Int) < lgf k) → (st.toInt = 0 → pl1 (12 * k + p) ≤ pl0 (12 * k + p)) ∧ pl1 (12 * k + p) ≤ lo) ∧ (¬ (sbit all k ∧ L ≤ p ∧ (p : Int) ≤ G ∧ (p : Int) < lgf k) → pl1 (12 * k + p) = pl0 (12 * k + p)))
    (hph : ((sbit all k ∧ L ≤ p ∧ (p : Int) ≤ G ∧ (p : Int) < lgf k) → (st.toInt = 0 → ph0 (12 * k + p) ≤ ph1 (12 * k + p)) ∧ hi ≤ ph1 (12 * k + p)) ∧ (¬ (sbit all k ∧ L ≤ p ∧ (p : Int) ≤ G ∧ (p : Int) < lgf k) → ph1 (12 * k + p) = ph0 (12 * k + p)))
    (h6 : (12 * k + p = 12 * k0 + p0 → C) ∧ (¬ 12 * k + p = 12 * k0 + p0 → c1 (12 * k + p) = c0 (12 * k + p))) (hp : p < 12 ∧ p0 < 12 ∧ k < 40 ∧ k0 < 40)
    (hst : ¬ st.toInt = 0 → (∀ p q : Nat, p < 40 → q < 40 → sbit all p → sbit all q → p = q) ∧ L = G) (h0 : L ≤ p0 ∧ (p0 : Int) ≤ G ∧ (p0 : Int) < lgf k0) (hs0 : sbit all k0) (e1 : 12 * k + p = 12 * k0 + p0 → lo ≤ c1 (12 * k + p)) (e2 : 12 * k + p = 12 * k0 + p0 → c1 (12 * k + p) ≤ hi) (b5 : pl0 (12 * k + p) ≤ c0 (12 * k + p) ∧ c0 (12 * k + p) ≤ ph0 (12 * k + p)) : pl1 (12 * k + p) ≤ c1 (12 * k + p) ∧ c1 (12 * k + p) ≤ ph1 (12 * k + p) := by
  by_cases ht : 12 * k + p = 12 * k0 + p0
  · have kk : k = k0 := by omega
    have pp : p = p0 := by omega
    have f1 := e1 ht
    have f2 := e2 ht
    have hin : sbit all k ∧ L ≤ p ∧ (p : Int) ≤ G ∧ (p : Int) < lgf k := by rw [kk, pp]; exact ⟨hs0, h0⟩
    have g1 := (hpl.1 hin).2
    have g2 := (hph.1 hin).2
    exact ⟨Int.le_trans g1 f1, Int.le_trans f2 g2⟩
  · have f := h6.2 ht
    rw [f]
    by_cases hin : sbit all k ∧ L ≤ p ∧ (p : Int) ≤ G ∧ (p : Int) < lgf k
    · by_cases s0 : st.toInt = 0
      · exact ⟨Int.le_trans ((hpl.1 hin).1 s0) b5.1, Int.le_trans b5.2 ((hph.1 hin).1 s0)⟩
      · exfalso
        obtain ⟨u1, u2⟩ := hst s0
        have kk := u1 k k0 (by omega) (by omega) hin.1 hs0
        have q1 := hin.2.1
        have q2 := hin.2.2.1
        exact ht (by omega)
    · rw [hpl.2 hin, hph.2 hin]
      exact b5
theorem ps_9r {st : Int32} {low high : Int} {all : Int64} {ba : Int32} (ha : a.toNatClampNeg < 6) (hc : c.toNatClampNeg < 6) (hd : d.toNatClampNeg < 6) (hb3 : 0 ≤ b.toInt ∧ b.toInt ≤ 2)
    (m1 : (mn a.toNatClampNeg).toInt = 0 ∨ lbit may 1) (m2 : ∀ j : Nat, j < 40 → sbit (si a.toNatClampNeg) j → ∀ q : Nat, q < 3 → lbit (la j) q → ¬ q = b.toNatClampNeg → lbit may 2) (m5 : ba.toInt = 0 ∨ lbit may 5) (mm : ¬ ba.toInt = 0 ∨ (0 ≤ (le c.toNatClampNeg) ∧ (∀ j : Nat, j < 40 → sbit (si a.toNatClampNeg) j → (gr c.toNatClampNeg) + 1 ≤ (sh j))))
    (hN : ∀ v m ln sz ce : Nat → Int32, wmS m ln sz → inC isR le gr si mn kn la sh lg pl ph v m ln sz ce → plN ln sz (m a.toNatClampNeg) b (v c.toNatClampNeg) → inC isR1 le1 gr1 si1 mn1 kn la sh lg pl ph v m ln sz ce)
    (hall : all = si1 a.toNatClampNeg) (hlo : ∀ n w : Int, (le1 d.toNatClampNeg) ≤ n → n ≤ (gr1 d.toNatClampNeg) → castR b.toInt n w → low ≤ w) (hhi : ∀ n w : Int, (le1 d.toNatClampNeg) ≤ n → n ≤ (gr1 d.toNatClampNeg) → castR b.toInt n w → w ≤ high)
    (hst : ¬ st.toInt = 0 → (∀ p q : Nat, p < 40 → q < 40 → sbit all p → sbit all q → p = q) ∧ (le1 c.toNatClampNeg) = (gr1 c.toNatClampNeg))
    (hpl : ∀ k p : Nat, k < 40 → p < 12 → ((sbit all k ∧ (le1 c.toNatClampNeg) ≤ p ∧ (p : Int) ≤ (gr1 c.toNatClampNeg) ∧ (p : Int) < (lg k)) → (st.toInt = 0 → (pl' (12 * k + p)) ≤ (pl (12 * k + p))) ∧ (pl' (12 * k + p)) ≤ low) ∧ (¬ (sbit all k ∧ (le1 c.toNatClampNeg) ≤ p ∧ (p : Int) ≤ (gr1 c.toNatClampNeg) ∧ (p : Int) < (lg k)) → (pl' (12 * k + p)) = (pl (12 * k + p))))
    (hph : ∀ k p : Nat, k < 40 → p < 12 → ((sbit all k ∧ (le1 c.toNatClampNeg) ≤ p ∧ (p : Int) ≤ (gr1 c.toNatClampNeg) ∧ (p : Int) < (lg k)) → (st.toInt = 0 → (ph (12 * k + p)) ≤ (ph' (12 * k + p))) ∧ high ≤ (ph' (12 * k + p))) ∧ (¬ (sbit all k ∧ (le1 c.toNatClampNeg) ≤ p ∧ (p : Int) ≤ (gr1 c.toNatClampNeg) ∧ (p : Int) < (lg k)) → (ph' (12 * k + p)) = (ph (12 * k + p)))) :
    PsK 9 isR le gr si mn kn la sh lg pl ph isR1 le1 gr1 si1 mn1 kn la sh lg pl' ph' i a b c d e may := fun v m ln sz ce hw h => ⟨fun v' m' ln' sz' ce' hw' hA => by
  obtain ⟨a1, a2, a3, a4, a5, a6⟩ := hA
  have g := hN v m ln sz ce hw h a1
  rw [eqI_eq a2, eqI_eq a3, eqI_eq a4, eqI_eq a5]
  have n1 := nn_cl a1.1
  have n2 := nn_cl a1.2.2.1
  have w1 := hw.1 a.toNatClampNeg
  have tgt := (g.2.2 _ ha).2 a1.1
  have bx := g.2.1 _ hc
  have c1 := hlo _ _ (g.2.1 _ hd).1 (g.2.1 _ hd).2 ((a6 _).1 rfl)
  have c2 := hhi _ _ (g.2.1 _ hd).1 (g.2.1 _ hd).2 ((a6 _).1 rfl)
  refine ⟨g.1, g.2.1, fun r hr => ⟨(g.2.2 r hr).1, fun hm => ⟨((g.2.2 r hr).2 hm).1, ?_⟩⟩⟩
  have n3 := nn_cl hm
  have w3 := hw.1 r
  obtain ⟨o1, o2, o3, o4, o5⟩ := ((g.2.2 r hr).2 hm).2
  have z3 := hw.2.2 (m r).toNatClampNeg
  have t4 := tgt.2.2.2.2.1
  have a1c := a1.2.2
  have zA := hw.2.2 (m a.toNatClampNeg).toNatClampNeg
  refine ⟨o1, o2, o3, o4, fun p hp => ?_⟩
  have b5 := o5 p hp
  have k40 : (m r).toNatClampNeg < 40 := by omega
  have p12 : p < 12 := by omega
  exact wr_atr (c1 := fun j => (ce' j).toInt) (c0 := fun j => (ce j).toInt) (hpl _ p k40 p12) (hph _ p k40 p12) (a6 _) ⟨p12, by omega, k40, by omega⟩ hst ⟨by omega, by omega, by omega⟩ (by rw [hall]; exact tgt.1) (fun q => by rw [q]; exact c1) (fun q => by rw [q]; exact c2) b5, place_t hw ha hc hb3 h m1 m2 m5 mm⟩
theorem ps_8r {z : Int64} {ii : Int32} (hi : i = ii.toNatClampNeg) (hi40 : 0 ≤ ii.toInt ∧ ii.toInt ≤ 39) (hb : b.toNatClampNeg < 6) (m1 : (mn b.toNatClampNeg).toInt = 0 ∨ lbit may 1)
    (hN : ∀ v m ln sz ce : Nat → Int32, inC isR le gr si mn kn la sh lg pl ph v m ln sz ce → 0 ≤ (m b.toNatClampNeg).toInt → inC isR1 le gr si1 mn1 kn la sh lg pl ph v m ln sz ce)
    (k1 : ∀ k : Nat, k < 40 → (¬ k = i → eqS kn la sh lg pl ph kn' la' sh' lg' pl' ph' k) ∧ (¬ k = i → sbit (si1 b.toNatClampNeg) k → ¬ (kn k).toInt = 0 → aS la sh lg pl ph k kn' la' sh' lg' pl' ph' i))
    (hs : ∀ j : Nat, (j = a.toNatClampNeg → si' j = z) ∧ (¬ j = a.toNatClampNeg → si' j = si1 j)) (hz : z = 1 <<< (ii.toInt64 &&& 63)) (hn : upI mn1 a.toNatClampNeg 0 mn') : PsR 8 isR le gr si mn kn la sh lg pl ph isR1 le gr si' mn' kn' la' sh' lg' pl' ph' i a b c d e may := fun v m ln sz ce hw hlt h => ⟨fun v' m' ln' sz' ce' hw' hA => by
  obtain ⟨a1, a2, a3, a4, a5, a6⟩ := hA
  have g := hN v m ln sz ce h a1
  have n1 := nn_cl hi40.1
  have n2 := nn_cl a1
  have w1 := hw.1 b.toNatClampNeg
  rw [eqI_eq a2]
  have old := (g.2.2 _ hb).2 a1
  have new : siC kn' la' sh' lg' pl' ph' ln' sz' ce' i := by
    obtain ⟨o1, o2, o3, o4, o5⟩ := old.2
    obtain ⟨s1, s2, s3, s4, s5⟩ := (k1 _ (by omega)).2 (by have q0 := hlt _ hb; omega) old.1 o1
    have b2 := (a4 i).1 rfl
    have b3 := (a5 i).1 rfl
    refine ⟨s1, ?_, by omega, by omega, fun p hp => ?_⟩
    · rw [show (ln' i) = ln (m b.toNatClampNeg).toNatClampNeg from i_eq b2]; exact s2 _ o2
    · have c0 := hw'.2.2 i
      have c1 := o5 p (by omega)
      have c2 := s5 p (by omega)
      have c3 := (a6 (12 * i + p)).1 (by omega)
      rw [show 12 * i + p - 12 * i = p from by omega] at c3
      omega
  refine ⟨g.1, g.2.1, fun r hr => ?_⟩
  by_cases q : r = a.toNatClampNeg
  · have c1 : m' r = ii := i_eq (by rw [(a3 r).1 q]; omega)
    have c2 := (hs r).1 q
    rw [c1, c2, ← hi]
    exact ⟨fun z => by omega, fun _ => ⟨(sb_shl hi40 hz i).mpr hi, new⟩⟩
  · have c1 : m' r = m r := i_eq ((a3 r).2 q)
    have c2 := (hs r).2 q
    have c3 := (hn r).2 q
    have c4 := g.2.2 r hr
    rw [c1, c2]
    refine ⟨fun z => by have := c4.1 z; omega, fun z => ⟨(c4.2 z).1, ?_⟩⟩
    by_cases w : (m r).toNatClampNeg = i
    · rw [w]; exact new
    · have w2 := hw.1 r
      have w3 := nn_cl z
      exact siC_cong (hw.2.2 _) (c4.2 z).2 ((k1 _ (by omega)).1 w) ((a4 _).2 w) ((a5 _).2 w) (fun p hp => (a6 _).2 (by omega)), ps_8t hb m1 h⟩
end
section
variable {isR isR1 may : Int32} {le gr : Nat → Int} {si : Nat → Int64} {mn kn la : Nat → Int32} {sh lg pl ph : Nat → Int} {si1 : Nat → Int64} {mn1 : Nat → Int32} {pl' ph' le1 gr1 : Nat → Int} {i : Nat} {a b c d e : Int32}
theorem ps_11sr {fs ts : Int32} (ha : a.toNatClampNeg < 6) (hb : b.toNatClampNeg < 6) (hc : c.toNatClampNeg < 6) (hd : d.toNatClampNeg < 6) (he : e.toNatClampNeg < 6)
    (hT : ∀ v m ln sz ce : Nat → Int32, wmS m ln sz → inC isR le gr si mn kn la sh lg pl ph v m ln sz ce → ∀ t : Int32, AtK a b c d e v m ln sz t 11 → lbit may t.toNatClampNeg)
    (hN : ∀ v m ln sz ce : Nat → Int32, wmS m ln sz → inC isR le gr si mn kn la sh lg pl ph v m ln sz ce → 0 ≤ (m a.toNatClampNeg).toInt → 0 ≤ (m c.toNatClampNeg).toInt → 0 ≤ (v b.toNatClampNeg).toInt → 0 ≤ (v d.toNatClampNeg).toInt → 0 ≤ (v e.toNatClampNeg).toInt → inC isR1 le1 gr1 si1 mn1 kn la sh lg pl ph v m ln sz ce)
    (hf : 0 ≤ fs.toInt ∧ fs.toInt ≤ 39) (hts : 0 ≤ ts.toInt ∧ ts.toInt ≤ 39)
    (uA : ∀ p q : Nat, p < 40 → q < 40 → sbit (si1 a.toNatClampNeg) p → sbit (si1 a.toNatClampNeg) q → p = q) (uC : ∀ p q : Nat, p < 40 → q < 40 → sbit (si1 c.toNatClampNeg) p → sbit (si1 c.toNatClampNeg) q → p = q) (fA : ∀ j : Nat, j < 40 → sbit (si1 a.toNatClampNeg) j → sbit (si1 a.toNatClampNeg) fs.toNatClampNeg) (fC : ∀ j : Nat, j < 40 → sbit (si1 c.toNatClampNeg) j → sbit (si1 c.toNatClampNeg) ts.toNatClampNeg)
    (oB : (le1 b.toNatClampNeg) = (gr1 b.toNatClampNeg)) (oD : (le1 d.toNatClampNeg) = (gr1 d.toNatClampNeg)) (oE : (le1 e.toNatClampNeg) = (gr1 e.toNatClampNeg))
    (ml : ¬ (0 ≤ (le1 b.toNatClampNeg) ∧ 0 ≤ (le1 d.toNatClampNeg) ∧ 0 ≤ (le1 e.toNatClampNeg) ∧ (le1 b.toNatClampNeg) + (le1 e.toNatClampNeg) ≤ 12 ∧ (le1 d.toNatClampNeg) + (le1 e.toNatClampNeg) ≤ 12) ∨ (∀ j : Nat, (12 * ts.toInt + (le1 d.toNatClampNeg) ≤ j ∧ (j : Int) < 12 * ts.toInt + (le1 d.toNatClampNeg) + (le1 e.toNatClampNeg) → (pl' j) = (pl (12 * fs.toNatClampNeg + (le1 b.toNatClampNeg).toNat + (j - (12 * ts.toNatClampNeg + (le1 d.toNatClampNeg).toNat))))) ∧ (¬ (12 * ts.toInt + (le1 d.toNatClampNeg) ≤ j ∧ (j : Int) < 12 * ts.toInt + (le1 d.toNatClampNeg) + (le1 e.toNatClampNeg)) → (pl' j) = (pl j))))
    (mh : ¬ (0 ≤ (le1 b.toNatClampNeg) ∧ 0 ≤ (le1 d.toNatClampNeg) ∧ 0 ≤ (le1 e.toNatClampNeg) ∧ (le1 b.toNatClampNeg) + (le1 e.toNatClampNeg) ≤ 12 ∧ (le1 d.toNatClampNeg) + (le1 e.toNatClampNeg) ≤ 12) ∨ (∀ j : Nat, (12 * ts.toInt + (le1 d.toNatClampNeg) ≤ j ∧ (j : Int) < 12 * ts.toInt + (le1 d.toNatClampNeg) + (le1 e.toNatClampNeg) → (ph' j) = (ph (12 * fs.toNatClampNeg + (le1 b.toNatClampNeg).toNat + (j - (12 * ts.toNatClampNeg + (le1 d.toNatClampNeg).toNat))))) ∧ (¬ (12 * ts.toInt + (le1 d.toNatClampNeg) ≤ j ∧ (j : Int) < 12 * ts.toInt + (le1 d.toNatClampNeg) + (le1 e.toNatClampNeg)) → (ph' j) = (ph j)))) :
    PsK 11 isR le gr si mn kn la sh lg pl ph isR1 le1 gr1 si1 mn1 kn la sh lg pl' ph' i a b c d e may := fun v m ln sz ce hw h => ⟨fun v' m' ln' sz' ce' hw' hA => by
  obtain ⟨⟨a1, a2, a3, a4, a5, a6, a7⟩, e1, e2, e3, e4, e5⟩ := hA
  have g := hN v m ln sz ce hw h a1 a2 a3 a4 a5
  rw [eqI_eq e1, eqI_eq e2, eqI_eq e3, eqI_eq e4]
  have n1 := nn_cl a1
  have n2 := nn_cl a2
  have n6 := nn_cl hf.1
  have n7 := nn_cl hts.1
  have w1 := hw.1 a.toNatClampNeg
  have w2 := hw.1 c.toNatClampNeg
  have sA := (g.2.2 _ ha).2 a1
  have sC := (g.2.2 _ hc).2 a2
  have bb := g.2.1 _ hb
  have bd := g.2.1 _ hd
  have be := g.2.1 _ he
  have vb : le1 b.toNatClampNeg = (v b.toNatClampNeg).toInt := by clear ml mh; omega
  have vd : le1 d.toNatClampNeg = (v d.toNatClampNeg).toInt := by clear ml mh; omega
  have ve : le1 e.toNatClampNeg = (v e.toNatClampNeg).toInt := by clear ml mh; omega
  rw [vb, vd, ve] at ml mh
  rw [show (v b.toNatClampNeg).toInt.toNat = (v b.toNatClampNeg).toNatClampNeg from rfl, show (v d.toNatClampNeg).toInt.toNat = (v d.toNatClampNeg).toNatClampNeg from rfl] at ml mh
  have n3 := nn_cl a3
  have n4 := nn_cl a4
  have zA := hw.2.2 (m a.toNatClampNeg).toNatClampNeg
  have zC := hw.2.2 (m c.toNatClampNeg).toNatClampNeg
  have xA := uA _ _ (by clear ml mh; omega) (by clear ml mh; omega) (fA _ (by clear ml mh; omega) sA.1) sA.1
  have xC := uC _ _ (by clear ml mh; omega) (by clear ml mh; omega) (fC _ (by clear ml mh; omega) sC.1) sC.1
  have zA12 : (v b.toNatClampNeg).toInt + (v e.toNatClampNeg).toInt ≤ 12 := by clear ml mh; omega
  have zC12 : (v d.toNatClampNeg).toInt + (v e.toNatClampNeg).toInt ≤ 12 := by clear ml mh; omega
  have ml2 := ml.resolve_left (fun q => q ⟨a3, a4, a5, zA12, zC12⟩)
  have mh2 := mh.resolve_left (fun q => q ⟨a3, a4, a5, zA12, zC12⟩)
  clear ml mh
  rw [xA] at ml2 mh2
  rw [xC] at ml2 mh2
  rw [show ts.toInt = ((m c.toNatClampNeg).toNatClampNeg : Int) from by omega] at ml2 mh2
  refine ⟨g.1, g.2.1, fun r hr => ⟨(g.2.2 r hr).1, fun hm => ⟨((g.2.2 r hr).2 hm).1, ?_⟩⟩⟩
  have n5 := nn_cl hm
  have w5 := hw.1 r
  obtain ⟨o1, o2, o3, o4, o5⟩ := ((g.2.2 r hr).2 hm).2
  have z5 := hw.2.2 (m r).toNatClampNeg
  refine ⟨o1, o2, o3, o4, fun p hp => ?_⟩
  have b5 := o5 p hp
  by_cases ht : (m r).toNatClampNeg = (m c.toNatClampNeg).toNatClampNeg ∧ (v d.toNatClampNeg).toInt ≤ p ∧ (p : Int) < (v d.toNatClampNeg).toInt + (v e.toNatClampNeg).toInt
  · obtain ⟨t1, t2, t3⟩ := ht
    rw [t1]
    have b7 := (e5 (12 * (m c.toNatClampNeg).toNatClampNeg + p)).1 (by omega)
    have c7 := (ml2 (12 * (m c.toNatClampNeg).toNatClampNeg + p)).1 (by omega)
    have d7 := (mh2 (12 * (m c.toNatClampNeg).toNatClampNeg + p)).1 (by omega)
    obtain ⟨q, hq⟩ : ∃ q : Nat, q = (v b.toNatClampNeg).toNatClampNeg + (p - (v d.toNatClampNeg).toNatClampNeg) := ⟨_, rfl⟩
    have eq1 : 12 * (m a.toNatClampNeg).toNatClampNeg + (v b.toNatClampNeg).toNatClampNeg + (12 * (m c.toNatClampNeg).toNatClampNeg + p - (12 * (m c.toNatClampNeg).toNatClampNeg + (v d.toNatClampNeg).toNatClampNeg)) = 12 * (m a.toNatClampNeg).toNatClampNeg + q := by omega
    rw [eq1] at b7 c7 d7
    have b8 := sA.2.2.2.2.2 q (by omega)
    omega
  · have b7 := (e5 (12 * (m r).toNatClampNeg + p)).2 (by omega)
    have c7 := (ml2 (12 * (m r).toNatClampNeg + p)).2 (by omega)
    have d7 := (mh2 (12 * (m r).toNatClampNeg + p)).2 (by omega)
    omega, hT v m ln sz ce hw h⟩
theorem ps_12r {st ba : Int32} {low high : Int} {tk : Nat → Prop} (ha : a.toNatClampNeg < 6) (hx : c.toNatClampNeg < 6) (hy : d.toNatClampNeg < 6) (hz : e.toNatClampNeg < 6) (hb3 : 0 ≤ b.toInt ∧ b.toInt ≤ 2)
    (m1 : (mn a.toNatClampNeg).toInt = 0 ∨ lbit may 1) (m2 : ∀ j : Nat, j < 40 → sbit (si a.toNatClampNeg) j → ∀ q : Nat, q < 3 → lbit (la j) q → ¬ q = b.toNatClampNeg → lbit may 2) (m5 : ba.toInt = 0 ∨ lbit may 5) (mm : ¬ ba.toInt = 0 ∨ (0 ≤ (le c.toNatClampNeg) ∧ (∀ j : Nat, j < 40 → sbit (si a.toNatClampNeg) j → (gr d.toNatClampNeg) ≤ (sh j))))
    (htk : ∀ k : Nat, k < 64 → (tk k ↔ (k < 40 ∧ sbit (si a.toNatClampNeg) k ∧ lbit (la k) b.toNatClampNeg))) (hlo : ∀ n w : Int, (le e.toNatClampNeg) ≤ n → n ≤ (gr e.toNatClampNeg) → castR b.toInt n w → low ≤ w) (hhi : ∀ n w : Int, (le e.toNatClampNeg) ≤ n → n ≤ (gr e.toNatClampNeg) → castR b.toInt n w → w ≤ high)
    (hst : ¬ st.toInt = 0 → ∀ p q : Nat, p < 40 → q < 40 → sbit (si a.toNatClampNeg) p → sbit (si a.toNatClampNeg) q → p = q)
    (hpl : ∀ k p : Nat, k < 40 → p < 12 → (tk k → (le c.toNatClampNeg) ≤ p → (p : Int) < (gr d.toNatClampNeg) → (p : Int) < (lg k) → (pl' (12 * k + p)) ≤ low) ∧ (¬ (tk k ∧ ¬ st.toInt = 0 ∧ (gr c.toNatClampNeg) ≤ p ∧ (p : Int) < (le d.toNatClampNeg)) → (pl' (12 * k + p)) ≤ (pl (12 * k + p))))
    (hph : ∀ k p : Nat, k < 40 → p < 12 → (tk k → (le c.toNatClampNeg) ≤ p → (p : Int) < (gr d.toNatClampNeg) → (p : Int) < (lg k) → high ≤ (ph' (12 * k + p))) ∧ (¬ (tk k ∧ ¬ st.toInt = 0 ∧ (gr c.toNatClampNeg) ≤ p ∧ (p : Int) < (le d.toNatClampNeg)) → (ph (12 * k + p)) ≤ (ph' (12 * k + p)))) :
    PsK 12 isR le gr si mn kn la sh lg pl ph isR le gr si mn kn la sh lg pl' ph' i a b c d e may := fun v m ln sz ce hw h => ⟨fun v' m' ln' sz' ce' hw' hA => by
  obtain ⟨e1, e2, e3, e4, hF⟩ := hA
  rw [eqI_eq e1, eqI_eq e2, eqI_eq e3, eqI_eq e4]
  have bx := h.2.1 _ hx
  have by_ := h.2.1 _ hy
  have bz := h.2.1 _ hz
  refine ⟨h.1, h.2.1, fun r hr => ⟨(h.2.2 r hr).1, fun hm => ⟨((h.2.2 r hr).2 hm).1, ?_⟩⟩⟩
  have n5 := nn_cl hm
  have w5 := hw.1 r
  have sR := ((h.2.2 r hr).2 hm).1
  obtain ⟨o1, o2, o3, o4, o5⟩ := ((h.2.2 r hr).2 hm).2
  have z5 := hw.2.2 (m r).toNatClampNeg
  refine ⟨o1, o2, o3, o4, fun p hp => ?_⟩
  have b5 := o5 p hp
  have k40 : (m r).toNatClampNeg < 40 := by omega
  have p12 : p < 12 := by omega
  rcases hF with ⟨q1, q2⟩ | ⟨q1, q2, q3, q4, q5, q6⟩
  · rw [eqI_eq q2]
    have no : ¬ (tk (m r).toNatClampNeg ∧ ¬ st.toInt = 0 ∧ (gr c.toNatClampNeg) ≤ p ∧ (p : Int) < (le d.toNatClampNeg)) := fun ⟨_, _, z3, z4⟩ => by omega
    have c1 := (hpl _ p k40 p12).2 no
    have c2 := (hph _ p k40 p12).2 no
    exact ⟨Int.le_trans c1 b5.1, Int.le_trans b5.2 c2⟩
  · have n1 := nn_cl q2
    have w1 := hw.1 a.toNatClampNeg
    have sA := (h.2.2 _ ha).2 q2
    have eb : b = ln (m a.toNatClampNeg).toNatClampNeg := i_eq q3.symm
    have tA : tk (m a.toNatClampNeg).toNatClampNeg := (htk _ (by omega)).mpr ⟨by omega, sA.1, by rw [eb]; exact sA.2.2.1⟩
    have lA := sA.2.2.2.2.1
    have zA := hw.2.2 (m a.toNatClampNeg).toNatClampNeg
    by_cases ht : (m r).toNatClampNeg = (m a.toNatClampNeg).toNatClampNeg ∧ (v c.toNatClampNeg).toInt ≤ p ∧ (p : Int) < (v d.toNatClampNeg).toInt
    · obtain ⟨t1, t2, t3⟩ := ht
      have p1 : le c.toNatClampNeg ≤ p := by omega
      have p2 : (p : Int) < gr d.toNatClampNeg := by omega
      have p3 : (p : Int) < lg (m a.toNatClampNeg).toNatClampNeg := by omega
      have rg : 12 * (m a.toNatClampNeg).toInt + (v c.toNatClampNeg).toInt ≤ ((12 * (m a.toNatClampNeg).toNatClampNeg + p : Nat) : Int) ∧ ((12 * (m a.toNatClampNeg).toNatClampNeg + p : Nat) : Int) < 12 * (m a.toNatClampNeg).toInt + (v d.toNatClampNeg).toInt := by omega
      have c1 := hlo _ _ bz.1 bz.2 ((q6 _).1 rg)
      have c2 := hhi _ _ bz.1 bz.2 ((q6 _).1 rg)
      rw [t1] at k40 ⊢
      exact ⟨Int.le_trans ((hpl _ p k40 p12).1 tA p1 p2 p3) c1, Int.le_trans c2 ((hph _ p k40 p12).1 tA p1 p2 p3)⟩
    · have c0 := (q6 (12 * (m r).toNatClampNeg + p)).2 (by omega)
      have no : ¬ (tk (m r).toNatClampNeg ∧ ¬ st.toInt = 0 ∧ (gr c.toNatClampNeg) ≤ p ∧ (p : Int) < (le d.toNatClampNeg)) := fun ⟨z1, z2, z3, z4⟩ => ht ⟨hst z2 _ _ (by omega) (by omega) ((htk _ (by omega)).mp z1).2.1 sA.1, by omega, by omega⟩
      have c1 := (hpl _ p k40 p12).2 no
      have c2 := (hph _ p k40 p12).2 no
      rw [c0]
      exact ⟨Int.le_trans c1 b5.1, Int.le_trans b5.2 c2⟩, fun t ht => by
  have n0 := nn_cl2 t
  have w1 := hw.1 a.toNatClampNeg
  have bx := h.2.1 _ hx
  have by_ := h.2.1 _ hy
  obtain ⟨t0, ⟨q1, q2⟩ | ⟨q1, ⟨q2, q3⟩ | ⟨q2, q3⟩⟩⟩ := ht
  · rw [show t.toNatClampNeg = 1 from by omega]
    exact m1.resolve_left ((h.2.2 _ ha).1 q1)
  · rw [show t.toNatClampNeg = 2 from by omega]
    clear n0
    have n1 := nn_cl q1
    have old := (h.2.2 _ ha).2 q1
    have w2 := hw.2.1 (m a.toNatClampNeg).toNatClampNeg
    have n2 := nn_cl w2.1
    have n3 := nn_cl hb3.1
    exact m2 _ (by omega) old.1 _ (by omega) old.2.2.1 (by omega)
  · rw [show t.toNatClampNeg = 5 from by omega]
    refine m5.resolve_left (fun z => ?_)
    have mm2 := mm.resolve_left (fun q => q z)
    clear n0 mm m5
    have n1 := nn_cl q1
    have old := (h.2.2 _ ha).2 q1
    have b1 := mm2.2 _ (by omega) old.1
    have b2 := old.2.2.2.1
    omega⟩
end
