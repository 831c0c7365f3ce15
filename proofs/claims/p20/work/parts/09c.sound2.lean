section
variable {isR isR1 may : Int32} {le gr : Nat → Int} {si : Nat → Int64} {mn kn la : Nat → Int32} {sh lg pl ph le' gr' : Nat → Int} {si1 si' : Nat → Int64} {mn1 mn' kn' la' : Nat → Int32} {sh' lg' pl' ph' le1 gr1 : Nat → Int} {i : Nat} {a b c d e : Int32}
/-- a REFERENCE used is not NULL -/
theorem use_in {r : Nat} {z : Int64} {v m ln sz ce : Nat → Int32} (h : inC isR le gr si mn kn la sh lg pl ph v m ln sz ce) (hr : r < 6) (hm : 0 ≤ (m r).toInt) (hs : ∀ j : Nat, (j = r → si1 j = z) ∧ (¬ j = r → si1 j = si j)) (hz : sbit z (m r).toNatClampNeg) (hn : upI mn r 0 mn1) (hR : ¬ isR.toInt = 0 ∧ ¬ z.toInt = 0 → ¬ isR1.toInt = 0) : inC isR1 le gr si1 mn1 kn la sh lg pl ph v m ln sz ce := by
  refine ⟨hR ⟨h.1, sb_ne hz⟩, h.2.1, fun q hq => ?_⟩
  have b0 := h.2.2 q hq
  by_cases w : q = r
  · subst w
    rw [(hs q).1 rfl]
    exact ⟨fun z => by omega, fun z => ⟨hz, (b0.2 z).2⟩⟩
  · rw [(hs q).2 w]
    have c1 := (hn q).2 w
    exact ⟨fun z => by have := b0.1 z; omega, b0.2⟩
/-- CLONE -/
theorem ps_8t (hb : b.toNatClampNeg < 6) (m1 : (mn b.toNatClampNeg).toInt = 0 ∨ lbit may 1) {v m ln sz ce : Nat → Int32} (h : inC isR le gr si mn kn la sh lg pl ph v m ln sz ce) (t : Int32) (ht : (m b.toNatClampNeg).toInt < 0 ∧ t.toInt = 1) : lbit may t.toNatClampNeg := by
  have n1 := nn_cl2 t
  rw [show t.toNatClampNeg = 1 from by omega]
  exact m1.resolve_left ((h.2.2 _ hb).1 ht.1)
theorem ps_8 {z : Int64} {ii : Int32} (hi : i = ii.toNatClampNeg) (hi40 : 0 ≤ ii.toInt ∧ ii.toInt ≤ 39) (hb : b.toNatClampNeg < 6) (m1 : (mn b.toNatClampNeg).toInt = 0 ∨ lbit may 1)
    (hN : ∀ v m ln sz ce : Nat → Int32, inC isR le gr si mn kn la sh lg pl ph v m ln sz ce → 0 ≤ (m b.toNatClampNeg).toInt → inC isR1 le gr si1 mn1 kn la sh lg pl ph v m ln sz ce)
    (k1 : ∀ k : Nat, k < 40 → (¬ k = i → eqS kn la sh lg pl ph kn' la' sh' lg' pl' ph' k) ∧ (sbit (si1 b.toNatClampNeg) k → ¬ (kn k).toInt = 0 → aS la sh lg pl ph k kn' la' sh' lg' pl' ph' i))
    (hs : ∀ j : Nat, (j = a.toNatClampNeg → si' j = z) ∧ (¬ j = a.toNatClampNeg → si' j = si1 j)) (hz : z = 1 <<< (ii.toInt64 &&& 63)) (hn : upI mn1 a.toNatClampNeg 0 mn') : PsK 8 isR le gr si mn kn la sh lg pl ph isR1 le gr si' mn' kn' la' sh' lg' pl' ph' i a b c d e may := fun v m ln sz ce hw h => ⟨fun v' m' ln' sz' ce' hw' hA => by
  obtain ⟨a1, a2, a3, a4, a5, a6⟩ := hA
  have g := hN v m ln sz ce h a1
  have n1 := nn_cl hi40.1
  have n2 := nn_cl a1
  have w1 := hw.1 b.toNatClampNeg
  rw [eqI_eq a2]
  have old := (g.2.2 _ hb).2 a1
  have new : siC kn' la' sh' lg' pl' ph' ln' sz' ce' i := by
    obtain ⟨o1, o2, o3, o4, o5⟩ := old.2
    obtain ⟨s1, s2, s3, s4, s5⟩ := (k1 _ (by omega)).2 old.1 o1
    have b2 := (a4 i).1 rfl
    have b3 := (a5 i).1 rfl
    refine ⟨s1, ?_, by omega, by omega, fun p hp => ?_⟩
    · rw [show (ln' i) = ln (m b.toNatClampNeg).toNatClampNeg from i_eq b2]; exact s2 _ o2
    · have c0 := hw'.2.2 i
      have c1 := o5 p (by omega)
      have c2 := s5 p (by omega)
      have c3 := (a6 (12 * i + p)).1 (by omega)
      rw [show 12 * i + p - 12 * i = p from by omega] at c3
      omega
  refine ⟨g.1, g.2.1, fun r hr => ?_⟩
  by_cases q : r = a.toNatClampNeg
  · have c1 : m' r = ii := i_eq (by rw [(a3 r).1 q]; omega)
    have c2 := (hs r).1 q
    rw [c1, c2, ← hi]
    exact ⟨fun z => by omega, fun _ => ⟨(sb_shl hi40 hz i).mpr hi, new⟩⟩
  · have c1 : m' r = m r := i_eq ((a3 r).2 q)
    have c2 := (hs r).2 q
    have c3 := (hn r).2 q
    have c4 := g.2.2 r hr
    rw [c1, c2]
    refine ⟨fun z => by have := c4.1 z; omega, fun z => ⟨(c4.2 z).1, ?_⟩⟩
    by_cases w : (m r).toNatClampNeg = i
    · rw [w]; exact new
    · have w2 := hw.1 r
      have w3 := nn_cl z
      exact siC_cong (hw.2.2 _) (c4.2 z).2 ((k1 _ (by omega)).1 w) ((a4 _).2 w) ((a5 _).2 w) (fun p hp => (a6 _).2 (by omega)), ps_8t hb m1 h⟩
/-- LENGTH -/
theorem ps_13 {f g : Int} (hb : b.toNatClampNeg < 6) (m1 : (mn b.toNatClampNeg).toInt = 0 ∨ lbit may 1)
    (hN : ∀ v m ln sz ce : Nat → Int32, inC isR le gr si mn kn la sh lg pl ph v m ln sz ce → 0 ≤ (m b.toNatClampNeg).toInt → inC isR1 le gr si1 mn1 kn la sh lg pl ph v m ln sz ce)
    (hf : ∀ k : Nat, k < 40 → sbit (si1 b.toNatClampNeg) k → f ≤ (sh k)) (hg : ∀ k : Nat, k < 40 → sbit (si1 b.toNatClampNeg) k → (lg k) ≤ g) (hl : upZ le a.toNatClampNeg f le') (hgr : upZ gr a.toNatClampNeg g gr') : PsK 13 isR le gr si mn kn la sh lg pl ph isR1 le' gr' si1 mn1 kn la sh lg pl ph i a b c d e may := fun v m ln sz ce hw h => ⟨fun v' m' ln' sz' ce' hw' hA => by
  obtain ⟨a1, a2, a3, a4, a5, a6⟩ := hA
  have q := hN v m ln sz ce h a1
  have n2 := nn_cl a1
  have w1 := hw.1 b.toNatClampNeg
  have old := (q.2.2 _ hb).2 a1
  have b1 := hf _ (by omega) old.1
  have b2 := hg _ (by omega) old.1
  obtain ⟨-, -, o3, o4, -⟩ := old.2
  exact span_ok q hl hgr a2 ⟨by omega, by omega⟩ a3 a4 a5 a6, ps_8t hb m1 h⟩
/-- a place that is used: what is left of REFERENCE r, of LANE l, and of VARIABLE x -/
theorem place_in {r x : Nat} {l : Int32} {v m ln sz ce : Nat → Int32} (hw : wmS m ln sz) (hr : r < 6) (hx : x < 6) (h : inC isR le gr si mn kn la sh lg pl ph v m ln sz ce)
    (hp : 0 ≤ (m r).toInt ∧ (ln (m r).toNatClampNeg).toInt = l.toInt ∧ 0 ≤ (v x).toInt ∧ (v x).toInt < (sz (m r).toNatClampNeg).toInt)
    (hS : ∀ j : Nat, (j = r → ∀ k : Nat, k < 64 → (sbit (si1 j) k ↔ (k < 40 ∧ sbit (si j) k ∧ lbit (la k) l.toNatClampNeg))) ∧ (¬ j = r → si1 j = si j)) (hn : upI mn r 0 mn1)
    (hX : ∀ n : Int, (le x) ≤ n → n ≤ (gr x) → 0 ≤ n → ∀ k : Nat, k < 40 → sbit (si1 r) k → n < (lg k) → (le1 x) ≤ n ∧ n ≤ (gr1 x)) (hO : ∀ j : Nat, ¬ j = x → (le1 j) = (le j) ∧ (gr1 j) = (gr j))
    (hR : ∀ k : Nat, ¬ isR.toInt = 0 → sbit (si1 r) k → (le1 x) ≤ (gr1 x) → ¬ isR1.toInt = 0) : inC isR1 le1 gr1 si1 mn1 kn la sh lg pl ph v m ln sz ce := by
  have n1 := nn_cl hp.1
  have w1 := hw.1 r
  have old := (h.2.2 r hr).2 hp.1
  obtain ⟨o1, o2, o3, o4, o5⟩ := old.2
  have e1 : l = ln (m r).toNatClampNeg := i_eq hp.2.1.symm
  have s1 : sbit (si1 r) (m r).toNatClampNeg := ((hS r).1 rfl _ (by omega)).mpr ⟨by omega, old.1, by rw [e1]; exact o2⟩
  have bx := h.2.1 x hx
  have cx := hX (v x).toInt bx.1 bx.2 hp.2.2.1 _ (by omega) s1 (by omega)
  refine ⟨hR _ h.1 s1 (by omega), fun y hy => ?_, fun q hq => ?_⟩
  · by_cases w : y = x
    · subst w; exact cx
    · have b1 := hO y w
      have b2 := h.2.1 y hy
      omega
  · have b0 := h.2.2 q hq
    by_cases w : q = r
    · subst w
      exact ⟨fun z => by omega, fun z => ⟨s1, (b0.2 z).2⟩⟩
    · rw [(hS q).2 w]
      have c1 := (hn q).2 w
      exact ⟨fun z => by have := b0.1 z; omega, b0.2⟩
/-- the THROWS of a place -/
theorem place_t {r x : Nat} {l ba : Int32} {v m ln sz ce : Nat → Int32} (hw : wmS m ln sz) (hr : r < 6) (hx : x < 6) (hl3 : 0 ≤ l.toInt ∧ l.toInt ≤ 2) (h : inC isR le gr si mn kn la sh lg pl ph v m ln sz ce)
    (m1 : (mn r).toInt = 0 ∨ lbit may 1) (m2 : ∀ j : Nat, j < 40 → sbit (si r) j → ∀ q : Nat, q < 3 → lbit (la j) q → ¬ q = l.toNatClampNeg → lbit may 2) (m5 : ba.toInt = 0 ∨ lbit may 5) (mm : ¬ ba.toInt = 0 ∨ (0 ≤ (le x) ∧ (∀ j : Nat, j < 40 → sbit (si r) j → (gr x) + 1 ≤ (sh j))))
    (t : Int32) (ht : plT ln sz (m r) l (v x) t) : lbit may t.toNatClampNeg := by
  have n0 := nn_cl2 t
  have n1 := nn_cl2 (m r)
  have w1 := hw.1 r
  have bx := h.2.1 x hx
  rcases ht with ⟨q1, q2⟩ | ⟨q1, q2, q3⟩ | ⟨q1, q2, q3, q4⟩
  · rw [show t.toNatClampNeg = 1 from by omega]
    exact m1.resolve_left ((h.2.2 r hr).1 q1)
  · rw [show t.toNatClampNeg = 2 from by omega]
    have old := (h.2.2 r hr).2 q1
    have n2 := nn_cl2 (ln (m r).toNatClampNeg)
    have w2 := hw.2.1 (m r).toNatClampNeg
    have n3 := nn_cl2 l
    exact m2 _ (by omega) old.1 _ (by omega) old.2.2.1 (by omega)
  · rw [show t.toNatClampNeg = 5 from by omega]
    refine m5.resolve_left (fun z => ?_)
    have mm2 := mm.resolve_left (fun q => q z)
    have old := (h.2.2 r hr).2 q1
    have b1 := mm2.2 _ (by omega) old.1
    have b2 := old.2.2.2.1
    omega
theorem wr_at {st : Int32} {all : Int64} {k0 p0 k p : Nat} {L G lo hi : Int} {pl1 pl0 ph1 ph0 c1 c0 : Nat → Int} {lgf : Nat → Int} {C : Prop}
    (hpl : ((sbit all k ∧ L ≤ p ∧ (p : Int) ≤ G ∧ (p : Int) < lgf k) → (st.toInt = 0 → pl1 (12 * k + p) ≤ pl0 (12 * k + p)) ∧ pl1 (12 * k + p) ≤ lo) ∧ (¬ (sbit all k ∧ L ≤ p ∧ (p : Int) ≤ G ∧ (p : Int) < lgf k) → pl1 (12 * k + p) = pl0 (12 * k + p)))
    (hph : ((sbit all k ∧ L ≤ p ∧ (p : Int) ≤ G ∧ (p : Int) < lgf k) → (st.toInt = 0 → ph0 (12 * k + p) ≤ ph1 (12 * k + p)) ∧ hi ≤ ph1 (12 * k + p)) ∧ (¬ (sbit all k ∧ L ≤ p ∧ (p : Int) ≤ G ∧ (p : Int) < lgf k) → ph1 (12 * k + p) = ph0 (12 * k + p)))
    (h6 : (12 * k + p = 12 * k0 + p0 → C) ∧ (¬ 12 * k + p = 12 * k0 + p0 → c1 (12 * k + p) = c0 (12 * k + p))) (hp : p < 12 ∧ p0 < 12 ∧ k < 40 ∧ k0 < 40)
    (hst : ¬ st.toInt = 0 → (∀ p q : Nat, p < 64 → q < 64 → sbit all p → sbit all q → p = q) ∧ L = G) (h0 : L ≤ p0 ∧ (p0 : Int) ≤ G ∧ (p0 : Int) < lgf k0) (hs0 : sbit all k0) (e1 : 12 * k + p = 12 * k0 + p0 → lo ≤ c1 (12 * k + p)) (e2 : 12 * k + p = 12 * k0 + p0 → c1 (12 * k + p) ≤ hi) (b5 : pl0 (12 * k + p) ≤ c0 (12 * k + p) ∧ c0 (12 * k + p) ≤ ph0 (12 * k + p)) : pl1 (12 * k + p) ≤ c1 (12 * k + p) ∧ c1 (12 * k + p) ≤ ph1 (12 * k + p) := by
  by_cases ht : 12 * k + p = 12 * k0 + p0
  · have kk : k = k0 := by omega
    have pp : p = p0 := by omega
    have f1 := e1 ht
    have f2 := e2 ht
    have hin : sbit all k ∧ L ≤ p ∧ (p : Int) ≤ G ∧ (p : Int) < lgf k := by rw [kk, pp]; exact ⟨hs0, h0⟩
    have g1 := (hpl.1 hin).2
    have g2 := (hph.1 hin).2
    exact ⟨Int.le_trans g1 f1, Int.le_trans f2 g2⟩
  · have f := h6.2 ht
    rw [f]
    by_cases hin : sbit all k ∧ L ≤ p ∧ (p : Int) ≤ G ∧ (p : Int) < lgf k
    · by_cases s0 : st.toInt = 0
      · exact ⟨Int.le_trans ((hpl.1 hin).1 s0) b5.1, Int.le_trans b5.2 ((hph.1 hin).1 s0)⟩
      · exfalso
        obtain ⟨u1, u2⟩ := hst s0
        have kk := u1 k k0 (by omega) (by omega) hin.1 hs0
        have q1 := hin.2.1
        have q2 := hin.2.2.1
        exact ht (by omega)
    · rw [hpl.2 hin, hph.2 hin]
      exact b5
/-- WRITE -/
theorem ps_9 {st low high : Int32} {all : Int64} {ba : Int32} (ha : a.toNatClampNeg < 6) (hc : c.toNatClampNeg < 6) (hd : d.toNatClampNeg < 6) (hb3 : 0 ≤ b.toInt ∧ b.toInt ≤ 2)
    (m1 : (mn a.toNatClampNeg).toInt = 0 ∨ lbit may 1) (m2 : ∀ j : Nat, j < 40 → sbit (si a.toNatClampNeg) j → ∀ q : Nat, q < 3 → lbit (la j) q → ¬ q = b.toNatClampNeg → lbit may 2) (m5 : ba.toInt = 0 ∨ lbit may 5) (mm : ¬ ba.toInt = 0 ∨ (0 ≤ (le c.toNatClampNeg) ∧ (∀ j : Nat, j < 40 → sbit (si a.toNatClampNeg) j → (gr c.toNatClampNeg) + 1 ≤ (sh j))))
    (hN : ∀ v m ln sz ce : Nat → Int32, wmS m ln sz → inC isR le gr si mn kn la sh lg pl ph v m ln sz ce → plN ln sz (m a.toNatClampNeg) b (v c.toNatClampNeg) → inC isR1 le1 gr1 si1 mn1 kn la sh lg pl ph v m ln sz ce)
    (hall : all = si1 a.toNatClampNeg) (hlo : ∀ n w : Int, (le1 d.toNatClampNeg) ≤ n → n ≤ (gr1 d.toNatClampNeg) → castR b.toInt n w → low.toInt ≤ w) (hhi : ∀ n w : Int, (le1 d.toNatClampNeg) ≤ n → n ≤ (gr1 d.toNatClampNeg) → castR b.toInt n w → w ≤ high.toInt)
    (hst : ¬ st.toInt = 0 → (∀ p q : Nat, p < 64 → q < 64 → sbit all p → sbit all q → p = q) ∧ (le1 c.toNatClampNeg) = (gr1 c.toNatClampNeg))
    (hpl : ∀ k p : Nat, k < 40 → p < 12 → ((sbit all k ∧ (le1 c.toNatClampNeg) ≤ p ∧ (p : Int) ≤ (gr1 c.toNatClampNeg) ∧ (p : Int) < (lg k)) → (st.toInt = 0 → (pl' (12 * k + p)) ≤ (pl (12 * k + p))) ∧ (pl' (12 * k + p)) ≤ low.toInt) ∧ (¬ (sbit all k ∧ (le1 c.toNatClampNeg) ≤ p ∧ (p : Int) ≤ (gr1 c.toNatClampNeg) ∧ (p : Int) < (lg k)) → (pl' (12 * k + p)) = (pl (12 * k + p))))
    (hph : ∀ k p : Nat, k < 40 → p < 12 → ((sbit all k ∧ (le1 c.toNatClampNeg) ≤ p ∧ (p : Int) ≤ (gr1 c.toNatClampNeg) ∧ (p : Int) < (lg k)) → (st.toInt = 0 → (ph (12 * k + p)) ≤ (ph' (12 * k + p))) ∧ high.toInt ≤ (ph' (12 * k + p))) ∧ (¬ (sbit all k ∧ (le1 c.toNatClampNeg) ≤ p ∧ (p : Int) ≤ (gr1 c.toNatClampNeg) ∧ (p : Int) < (lg k)) → (ph' (12 * k + p)) = (ph (12 * k + p)))) :
    PsK 9 isR le gr si mn kn la sh lg pl ph isR1 le1 gr1 si1 mn1 kn la sh lg pl' ph' i a b c d e may := fun v m ln sz ce hw h => ⟨fun v' m' ln' sz' ce' hw' hA => by
  obtain ⟨a1, a2, a3, a4, a5, a6⟩ := hA
  have g := hN v m ln sz ce hw h a1
  rw [eqI_eq a2, eqI_eq a3, eqI_eq a4, eqI_eq a5]
  have n1 := nn_cl a1.1
  have n2 := nn_cl a1.2.2.1
  have w1 := hw.1 a.toNatClampNeg
  have tgt := (g.2.2 _ ha).2 a1.1
  have bx := g.2.1 _ hc
  have c1 := hlo _ _ (g.2.1 _ hd).1 (g.2.1 _ hd).2 ((a6 _).1 rfl)
  have c2 := hhi _ _ (g.2.1 _ hd).1 (g.2.1 _ hd).2 ((a6 _).1 rfl)
  refine ⟨g.1, g.2.1, fun r hr => ⟨(g.2.2 r hr).1, fun hm => ⟨((g.2.2 r hr).2 hm).1, ?_⟩⟩⟩
  have n3 := nn_cl hm
  have w3 := hw.1 r
  obtain ⟨o1, o2, o3, o4, o5⟩ := ((g.2.2 r hr).2 hm).2
  have z3 := hw.2.2 (m r).toNatClampNeg
  have t4 := tgt.2.2.2.2.1
  have a1c := a1.2.2
  have zA := hw.2.2 (m a.toNatClampNeg).toNatClampNeg
  refine ⟨o1, o2, o3, o4, fun p hp => ?_⟩
  have b5 := o5 p hp
  have k40 : (m r).toNatClampNeg < 40 := by omega
  have p12 : p < 12 := by omega
  exact wr_at (c1 := fun j => (ce' j).toInt) (c0 := fun j => (ce j).toInt) (hpl _ p k40 p12) (hph _ p k40 p12) (a6 _) ⟨p12, by omega, k40, by omega⟩ hst ⟨by omega, by omega, by omega⟩ (by rw [hall]; exact tgt.1) (fun q => by rw [q]; exact c1) (fun q => by rw [q]; exact c2) b5, place_t hw ha hc hb3 h m1 m2 m5 mm⟩
/-- READ -/
theorem ps_10 {gl gg : Int} {ba : Int32} (hb : b.toNatClampNeg < 6) (hd : d.toNatClampNeg < 6) (hc3 : 0 ≤ c.toInt ∧ c.toInt ≤ 2)
    (m1 : (mn b.toNatClampNeg).toInt = 0 ∨ lbit may 1) (m2 : ∀ j : Nat, j < 40 → sbit (si b.toNatClampNeg) j → ∀ q : Nat, q < 3 → lbit (la j) q → ¬ q = c.toNatClampNeg → lbit may 2) (m5 : ba.toInt = 0 ∨ lbit may 5) (mm : ¬ ba.toInt = 0 ∨ (0 ≤ (le d.toNatClampNeg) ∧ (∀ j : Nat, j < 40 → sbit (si b.toNatClampNeg) j → (gr d.toNatClampNeg) + 1 ≤ (sh j))))
    (hN : ∀ v m ln sz ce : Nat → Int32, wmS m ln sz → inC isR le gr si mn kn la sh lg pl ph v m ln sz ce → plN ln sz (m b.toNatClampNeg) c (v d.toNatClampNeg) → inC isR1 le1 gr1 si1 mn1 kn la sh lg pl ph v m ln sz ce)
    (hg : ∀ k p : Nat, k < 40 → sbit (si1 b.toNatClampNeg) k → (le1 d.toNatClampNeg) ≤ p → (p : Int) < (gr1 d.toNatClampNeg) + 1 → (p : Int) < (lg k) → gl ≤ (pl (12 * k + p)) ∧ (ph (12 * k + p)) ≤ gg)
    (hl : upZ le1 a.toNatClampNeg gl le') (hgr : upZ gr1 a.toNatClampNeg gg gr') : PsK 10 isR le gr si mn kn la sh lg pl ph isR1 le' gr' si1 mn1 kn la sh lg pl ph i a b c d e may := fun v m ln sz ce hw h => ⟨fun v' m' ln' sz' ce' hw' hA => by
  obtain ⟨a1, a2, a3, a4, a5, a6⟩ := hA
  have g := hN v m ln sz ce hw h a1
  have n1 := nn_cl a1.1
  have n2 := nn_cl a1.2.2.1
  have w1 := hw.1 b.toNatClampNeg
  have tgt := (g.2.2 _ hb).2 a1.1
  have bx := g.2.1 _ hd
  obtain ⟨o1, o2, o3, o4, o5⟩ := tgt.2
  have b5 := o5 (v d.toNatClampNeg).toNatClampNeg (by omega)
  have b6 := hg _ (v d.toNatClampNeg).toNatClampNeg (by omega) tgt.1 (by omega) (by omega) (by omega)
  exact span_ok g hl hgr a2 ⟨by omega, by omega⟩ a3 a4 a5 a6, place_t hw hb hd hc3 h m1 m2 m5 mm⟩
/-- nothing is REACHED behind an ACT that nothing can go through -/
theorem ps_no {n : Nat} (h1 : ∀ v m ln sz ce v' m' ln' sz' ce' : Nat → Int32, wmS m ln sz → inC isR le gr si mn kn la sh lg pl ph v m ln sz ce → AnK i a b c d e v m ln sz ce v' m' ln' sz' ce' n → False) (h2 : ∀ v m ln sz ce : Nat → Int32, wmS m ln sz → inC isR le gr si mn kn la sh lg pl ph v m ln sz ce → ∀ t : Int32, AtK a b c d e v m ln sz t n → lbit may t.toNatClampNeg) : PsK n isR le gr si mn kn la sh lg pl ph isR1 le' gr' si' mn' kn' la' sh' lg' pl' ph' i a b c d e may := fun v m ln sz ce hw h => ⟨fun v' m' ln' sz' ce' hw' hA => (h1 v m ln sz ce v' m' ln' sz' ce' hw h hA).elim, h2 v m ln sz ce hw h⟩
end
theorem rd_no {isR : Int32} {le gr : Nat → Int} {si : Nat → Int64} {mn kn la : Nat → Int32} {sh lg pl ph : Nat → Int} {v m ln sz ce : Nat → Int32} {r y : Nat} {l : Int32} (hr : r < 6) (hy : y < 6) (hw : wmS m ln sz) (g : inC isR le gr si mn kn la sh lg pl ph v m ln sz ce) (hp : plN ln sz (m r) l (v y)) (hn : ∀ k p : Nat, k < 40 → sbit (si r) k → (le y) ≤ p → (p : Int) < (gr y) + 1 → (p : Int) < (lg k) → False) : False := by
  have n1 := nn_cl2 (m r)
  have n2 := nn_cl2 (v y)
  have w1 := hw.1 r
  have tgt := (g.2.2 r hr).2 hp.1
  have bx := g.2.1 y hy
  have l4 := tgt.2.2.2.2.1
  exact hn _ (v y).toNatClampNeg (by omega) tgt.1 (by omega) (by omega) (by omega)
