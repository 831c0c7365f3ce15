/-! what goes through an ACT: pure -/
theorem eqI_eq {f g : Nat → Int32} (h : eqI f g) : g = f := funext (fun j => Int32.toInt_inj.mp (h j))
theorem i_eq {a b : Int32} (h : a.toInt = b.toInt) : a = b := Int32.toInt_inj.mp h
section
variable {isR isR' : Int32} {le gr : Nat → Int} {si : Nat → Int64} {mn kn la : Nat → Int32} {sh lg pl ph le' gr' : Nat → Int} {si' : Nat → Int64} {mn' kn' la' : Nat → Int32} {sh' lg' pl' ph' : Nat → Int} {v m ln sz ce v' m' ln' sz' ce' : Nat → Int32}
theorem siC_cong {j : Nat} (hz : kR012 (sz j)) (h : siC kn la sh lg pl ph ln sz ce j) (e : eqS kn la sh lg pl ph kn' la' sh' lg' pl' ph' j) (c1 : (ln' j).toInt = (ln j).toInt) (c2 : (sz' j).toInt = (sz j).toInt) (c3 : ∀ p : Nat, p < 12 → (ce' (12 * j + p)).toInt = (ce (12 * j + p)).toInt) : siC kn' la' sh' lg' pl' ph' ln' sz' ce' j := by
  obtain ⟨h1, h2, h3, h4, h5⟩ := h
  obtain ⟨e1, e2, e3, e4, e5⟩ := e
  refine ⟨by omega, ?_, by omega, by omega, fun p hp => ?_⟩
  · rw [i_eq c1]; exact lb_eq e2.symm h2
  · have b1 := h5 p (by omega)
    have b2 := e5 p (by omega)
    have b3 := c3 p (by omega)
    omega
/-- a VARIABLE gets a number within its new SPAN -/
theorem span_ok {a : Nat} {lo hi w : Int} (h : inC isR le gr si mn kn la sh lg pl ph v m ln sz ce) (hl : upZ le a lo le') (hg : upZ gr a hi gr') (hv : upI v a w v') (hw : lo ≤ w ∧ w ≤ hi) (em : eqI m m') (el : eqI ln ln') (es : eqI sz sz') (ec : eqI ce ce') : inC isR le' gr' si mn kn la sh lg pl ph v' m' ln' sz' ce' := by
  rw [eqI_eq em, eqI_eq el, eqI_eq es, eqI_eq ec]
  refine ⟨h.1, fun x hx => ?_, h.2.2⟩
  have b0 := h.2.1 x hx
  have b1 := hl x
  have b2 := hg x
  have b3 := hv x
  by_cases q : x = a
  · have c1 := b1.1 q
    have c2 := b2.1 q
    have c3 := b3.1 q
    omega
  · have c1 := b1.2 q
    have c2 := b2.2 q
    have c3 := b3.2 q
    omega
/-- a REFERENCE gets a meaning that it may have -/
theorem ref_ok {a : Nat} {w : Int32} {z : Int64} {n : Int} (h : inC isR le gr si mn kn la sh lg pl ph v m ln sz ce) (hs : ∀ j : Nat, (j = a → si' j = z) ∧ (¬ j = a → si' j = si j)) (hn : upI mn a n mn') (hm : upI m a w.toInt m') (h1 : w.toInt < 0 → ¬ n = 0) (h2 : 0 ≤ w.toInt → sbit z w.toNatClampNeg ∧ siC kn la sh lg pl ph ln sz ce w.toNatClampNeg) (ev : eqI v v') (el : eqI ln ln') (es : eqI sz sz') (ec : eqI ce ce') : inC isR le gr si' mn' kn la sh lg pl ph v' m' ln' sz' ce' := by
  rw [eqI_eq ev, eqI_eq el, eqI_eq es, eqI_eq ec]
  refine ⟨h.1, h.2.1, fun r hr => ?_⟩
  have b0 := h.2.2 r hr
  by_cases q : r = a
  · have c1 := (hn r).1 q
    have c2 : m' r = w := i_eq ((hm r).1 q)
    have c3 := (hs r).1 q
    rw [c2, c3]
    exact ⟨fun z => by have := h1 z; omega, h2⟩
  · have c1 := (hn r).2 q
    have c2 : m' r = m r := i_eq ((hm r).2 q)
    have c3 := (hs r).2 q
    rw [c2, c3]
    exact ⟨fun z => by have := b0.1 z; omega, b0.2⟩
end
/-- ACT of kind n: FACTS F become F', and may is what it MAY THROW -/
def PsK (n : Nat) (isR : Int32) (le gr : Nat → Int) (si : Nat → Int64) (mn kn la : Nat → Int32) (sh lg pl ph : Nat → Int) (isR' : Int32) (le' gr' : Nat → Int) (si' : Nat → Int64) (mn' kn' la' : Nat → Int32) (sh' lg' pl' ph' : Nat → Int) (i : Nat) (a b c d e : Int32) (may : Int32) : Prop :=
  ∀ v m ln sz ce : Nat → Int32, wmS m ln sz → inC isR le gr si mn kn la sh lg pl ph v m ln sz ce →
    (∀ v' m' ln' sz' ce' : Nat → Int32, wmS m' ln' sz' → AnK i a b c d e v m ln sz ce v' m' ln' sz' ce' n → inC isR' le' gr' si' mn' kn' la' sh' lg' pl' ph' v' m' ln' sz' ce') ∧ (∀ t : Int32, AtK a b c d e v m ln sz t n → lbit may t.toNatClampNeg)
section
variable {isR isR' : Int32} {le gr : Nat → Int} {si : Nat → Int64} {mn kn la : Nat → Int32} {sh lg pl ph le' gr' : Nat → Int} {si' : Nat → Int64} {mn' kn' la' : Nat → Int32} {sh' lg' pl' ph' : Nat → Int} {i : Nat} {a b c d e may : Int32}
theorem ps_0 (hl : upZ le a.toNatClampNeg b.toInt le') (hg : upZ gr a.toNatClampNeg b.toInt gr') : PsK 0 isR le gr si mn kn la sh lg pl ph isR le' gr' si mn kn la sh lg pl ph i a b c d e may := fun v m ln sz ce hw h => ⟨fun v' m' ln' sz' ce' hw' hA => span_ok h hl hg hA.1 ⟨Int.le_refl _, Int.le_refl _⟩ hA.2.1 hA.2.2.1 hA.2.2.2.1 hA.2.2.2.2, fun t ht => absurd ht (fun q => q)⟩
theorem ps_1 (hl : upZ le a.toNatClampNeg b.toInt le') (hg : upZ gr a.toNatClampNeg c.toInt gr') : PsK 1 isR le gr si mn kn la sh lg pl ph isR le' gr' si mn kn la sh lg pl ph i a b c d e may := fun v m ln sz ce hw h => ⟨fun v' m' ln' sz' ce' hw' hA => by
  obtain ⟨⟨w, w1, w2, w3⟩, h1, h2, h3, h4⟩ := hA
  exact span_ok h hl hg w3 ⟨w1, w2⟩ h1 h2 h3 h4, fun t ht => absurd ht (fun q => q)⟩
theorem ps_2 {lo hi : Int} (hb : b.toNatClampNeg < 6) (hc : c.toNatClampNeg < 6) (elo : lo = (le b.toNatClampNeg) + (le c.toNatClampNeg)) (ehi : hi = (gr b.toNatClampNeg) + (gr c.toNatClampNeg)) (hs : hi < lo ∨ (-2147483648 ≤ lo ∧ hi ≤ 2147483647 ∧ upZ le a.toNatClampNeg lo le' ∧ upZ gr a.toNatClampNeg hi gr') ∨ (upZ le a.toNatClampNeg (-2147483648) le' ∧ upZ gr a.toNatClampNeg 2147483647 gr')) : PsK 2 isR le gr si mn kn la sh lg pl ph isR le' gr' si mn kn la sh lg pl ph i a b c d e may := fun v m ln sz ce hw h => ⟨fun v' m' ln' sz' ce' hw' hA => by
  have b1 := h.2.1 _ hb
  have b2 := h.2.1 _ hc
  have r0 := i32r (v b.toNatClampNeg + v c.toNatClampNeg)
  rcases hs with q | ⟨q1, q2, q3, q4⟩ | ⟨q3, q4⟩
  · omega
  · have e0 : (v b.toNatClampNeg + v c.toNatClampNeg).toInt = (v b.toNatClampNeg).toInt + (v c.toNatClampNeg).toInt := by rw [Int32.toInt_add, bm32 (by omega)]
    exact span_ok h q3 q4 hA.1 ⟨by omega, by omega⟩ hA.2.1 hA.2.2.1 hA.2.2.2.1 hA.2.2.2.2
  · exact span_ok h q3 q4 hA.1 ⟨by omega, by omega⟩ hA.2.1 hA.2.2.1 hA.2.2.2.1 hA.2.2.2.2, fun t ht => absurd ht (fun q => q)⟩
theorem ps_3 {lo hi : Int} (hb : b.toNatClampNeg < 6) (hc : c.toNatClampNeg < 6) (elo : lo = (le b.toNatClampNeg) - (gr c.toNatClampNeg)) (ehi : hi = (gr b.toNatClampNeg) - (le c.toNatClampNeg)) (hs : hi < lo ∨ (-2147483648 ≤ lo ∧ hi ≤ 2147483647 ∧ upZ le a.toNatClampNeg lo le' ∧ upZ gr a.toNatClampNeg hi gr') ∨ (upZ le a.toNatClampNeg (-2147483648) le' ∧ upZ gr a.toNatClampNeg 2147483647 gr')) : PsK 3 isR le gr si mn kn la sh lg pl ph isR le' gr' si mn kn la sh lg pl ph i a b c d e may := fun v m ln sz ce hw h => ⟨fun v' m' ln' sz' ce' hw' hA => by
  have b1 := h.2.1 _ hb
  have b2 := h.2.1 _ hc
  have r0 := i32r (v b.toNatClampNeg - v c.toNatClampNeg)
  rcases hs with q | ⟨q1, q2, q3, q4⟩ | ⟨q3, q4⟩
  · omega
  · have e0 : (v b.toNatClampNeg - v c.toNatClampNeg).toInt = (v b.toNatClampNeg).toInt - (v c.toNatClampNeg).toInt := by rw [Int32.toInt_sub, bm32 (by omega)]
    exact span_ok h q3 q4 hA.1 ⟨by omega, by omega⟩ hA.2.1 hA.2.2.1 hA.2.2.2.1 hA.2.2.2.2
  · exact span_ok h q3 q4 hA.1 ⟨by omega, by omega⟩ hA.2.1 hA.2.2.1 hA.2.2.2.1 hA.2.2.2.2, fun t ht => absurd ht (fun q => q)⟩
theorem ps_5 {z : Int64} (hs : ∀ j : Nat, (j = a.toNatClampNeg → si' j = z) ∧ (¬ j = a.toNatClampNeg → si' j = si j)) (hn : upI mn a.toNatClampNeg 1 mn') : PsK 5 isR le gr si mn kn la sh lg pl ph isR le gr si' mn' kn la sh lg pl ph i a b c d e may := fun v m ln sz ce hw h => ⟨fun v' m' ln' sz' ce' hw' hA => ref_ok (w := -1) h hs hn (by rw [show (-1 : Int32).toInt = -1 from by decide]; exact hA.2.1) (fun _ => by decide) (fun q => absurd q (by decide)) hA.1 hA.2.2.1 hA.2.2.2.1 hA.2.2.2.2, fun t ht => absurd ht (fun q => q)⟩
theorem ps_6 (hb : b.toNatClampNeg < 6) (hs : ∀ j : Nat, (j = a.toNatClampNeg → si' j = si b.toNatClampNeg) ∧ (¬ j = a.toNatClampNeg → si' j = si j)) (hn : upI mn a.toNatClampNeg (mn b.toNatClampNeg).toInt mn') : PsK 6 isR le gr si mn kn la sh lg pl ph isR le gr si' mn' kn la sh lg pl ph i a b c d e may := fun v m ln sz ce hw h => ⟨fun v' m' ln' sz' ce' hw' hA => ref_ok h hs hn hA.2.1 (h.2.2 _ hb).1 (h.2.2 _ hb).2 hA.1 hA.2.2.1 hA.2.2.2.1 hA.2.2.2.2, fun t ht => absurd ht (fun q => q)⟩
theorem ps_7 {z : Int64} {n : Int} (hb : b.toNatClampNeg < 6) (hc : c.toNatClampNeg < 6) (hs : ∀ j : Nat, (j = a.toNatClampNeg → si' j = z) ∧ (¬ j = a.toNatClampNeg → si' j = si j)) (hz : z = si b.toNatClampNeg ||| si c.toNatClampNeg) (hn : upI mn a.toNatClampNeg n mn') (hn2 : ¬ (mn b.toNatClampNeg).toInt = 0 ∨ ¬ (mn c.toNatClampNeg).toInt = 0 → ¬ n = 0) : PsK 7 isR le gr si mn kn la sh lg pl ph isR le gr si' mn' kn la sh lg pl ph i a b c d e may := fun v m ln sz ce hw h => ⟨fun v' m' ln' sz' ce' hw' hA => by
  obtain ⟨h1, h2, h3, h4, h5⟩ := hA
  rcases h2 with h2 | h2
  · exact ref_ok h hs hn h2 (fun q => hn2 (Or.inl ((h.2.2 _ hb).1 q))) (fun q => ⟨(sb_or hz _).mpr (Or.inl ((h.2.2 _ hb).2 q).1), ((h.2.2 _ hb).2 q).2⟩) h1 h3 h4 h5
  · exact ref_ok h hs hn h2 (fun q => hn2 (Or.inr ((h.2.2 _ hc).1 q))) (fun q => ⟨(sb_or hz _).mpr (Or.inr ((h.2.2 _ hc).2 q).1), ((h.2.2 _ hc).2 q).2⟩) h1 h3 h4 h5, fun t ht => absurd ht (fun q => q)⟩
theorem ps_14 {n : Nat} (hn : n = 14) : PsK n isR le gr si mn kn la sh lg pl ph isR le gr si mn kn la sh lg pl ph i a b c d e may := by
  subst hn
  exact fun v m ln sz ce hw h => ⟨fun v' m' ln' sz' ce' hw' hA => by
    obtain ⟨h1, h2, h3, h4, h5⟩ := hA
    rw [eqI_eq h1, eqI_eq h2, eqI_eq h3, eqI_eq h4, eqI_eq h5]
    exact h, fun t ht => absurd ht (fun q => q)⟩
/-- NEW -/
theorem ps_4t (hx : c.toNatClampNeg < 6) (m3 : (le c.toNatClampNeg) < 0 → lbit may 3) (m7 : 12 < (gr c.toNatClampNeg) → lbit may 7) {v m ln sz ce : Nat → Int32} (h : inC isR le gr si mn kn la sh lg pl ph v m ln sz ce) (t : Int32) (ht : AtK a b c d e v m ln sz t 4) : lbit may t.toNatClampNeg := by
  have b0 := h.2.1 _ hx
  have n1 := nn_cl2 t
  rcases ht with ⟨q1, q2⟩ | ⟨q1, q2⟩
  · rw [show t.toNatClampNeg = 3 from by omega]; exact m3 (by omega)
  · rw [show t.toNatClampNeg = 7 from by omega]; exact m7 (by omega)
variable {le1 gr1 : Nat → Int} {isR1 : Int32}
theorem ps_4n (hx : c.toNatClampNeg < 6) (hL : ∀ j : Nat, (j = c.toNatClampNeg → (le j) ≤ (le1 j) ∧ (0 : Int) ≤ (le1 j) ∧ ((le1 j) = (le j) ∨ (le1 j) = 0)) ∧ (¬ j = c.toNatClampNeg → (le1 j) = (le j))) (hG : ∀ j : Nat, (j = c.toNatClampNeg → (gr1 j) ≤ (gr j) ∧ (gr1 j) ≤ 12 ∧ ((gr1 j) = (gr j) ∨ (gr1 j) = 12)) ∧ (¬ j = c.toNatClampNeg → (gr1 j) = (gr j))) (hR : ¬ isR.toInt = 0 ∧ (le1 c.toNatClampNeg) ≤ (gr1 c.toNatClampNeg) → ¬ isR1.toInt = 0) {v m ln sz ce : Nat → Int32} (h : inC isR le gr si mn kn la sh lg pl ph v m ln sz ce) (hv : 0 ≤ (v c.toNatClampNeg).toInt ∧ (v c.toNatClampNeg).toInt ≤ 12) : inC isR1 le1 gr1 si mn kn la sh lg pl ph v m ln sz ce := by
  have b0 := h.2.1 _ hx
  have b1 := (hL c.toNatClampNeg).1 rfl
  have b2 := (hG c.toNatClampNeg).1 rfl
  refine ⟨hR ⟨h.1, by omega⟩, fun x hx6 => ?_, h.2.2⟩
  have c0 := h.2.1 x hx6
  by_cases q : x = c.toNatClampNeg
  · subst q; omega
  · have c1 := (hL x).2 q
    have c2 := (hG x).2 q
    omega
theorem ps_4 {z : Int64} {ii : Int32} (hi : i = ii.toNatClampNeg) (hi40 : 0 ≤ ii.toInt ∧ ii.toInt ≤ 39) (hb3 : 0 ≤ b.toInt ∧ b.toInt ≤ 2) (hx : c.toNatClampNeg < 6) (m3 : (le c.toNatClampNeg) < 0 → lbit may 3) (m7 : 12 < (gr c.toNatClampNeg) → lbit may 7)
    (hN : ∀ v m ln sz ce : Nat → Int32, inC isR le gr si mn kn la sh lg pl ph v m ln sz ce → 0 ≤ (v c.toNatClampNeg).toInt ∧ (v c.toNatClampNeg).toInt ≤ 12 → inC isR1 le1 gr1 si mn kn la sh lg pl ph v m ln sz ce)
    (k1 : upI kn i 1 kn') (k2 : lbit (la' i) b.toNatClampNeg) (k3 : ∀ j : Nat, ¬ j = i → (la' j).toInt = (la j).toInt) (k4 : upZ sh i (le1 c.toNatClampNeg) sh') (k5 : upZ lg i (gr1 c.toNatClampNeg) lg')
    (k6 : ∀ j : Nat, (12 * ii.toInt ≤ j ∧ (j : Int) < 12 * ii.toInt + 12 → (pl' j) = 0) ∧ (¬ (12 * ii.toInt ≤ j ∧ (j : Int) < 12 * ii.toInt + 12) → (pl' j) = (pl j))) (k7 : ∀ j : Nat, (12 * ii.toInt ≤ j ∧ (j : Int) < 12 * ii.toInt + 12 → (ph' j) = 0) ∧ (¬ (12 * ii.toInt ≤ j ∧ (j : Int) < 12 * ii.toInt + 12) → (ph' j) = (ph j)))
    (hs : ∀ j : Nat, (j = a.toNatClampNeg → si' j = z) ∧ (¬ j = a.toNatClampNeg → si' j = si j)) (hz : z = 1 <<< (ii.toInt64 &&& 63)) (hn : upI mn a.toNatClampNeg 0 mn') : PsK 4 isR le gr si mn kn la sh lg pl ph isR1 le1 gr1 si' mn' kn' la' sh' lg' pl' ph' i a b c d e may := fun v m ln sz ce hw h => ⟨fun v' m' ln' sz' ce' hw' hA => by
  obtain ⟨a1, a2, a3, a4, a5, a6⟩ := hA
  have g := hN v m ln sz ce h a1
  have n1 := nn_cl2 ii
  have n2 := nn_cl2 b
  rw [eqI_eq a2]
  have new : siC kn' la' sh' lg' pl' ph' ln' sz' ce' i := by
    have b1 := (k1 i).1 rfl
    have b2 := (a4 i).1 rfl
    have b3 := (a5 i).1 rfl
    have b4 := (k4 i).1 rfl
    have b5 := (k5 i).1 rfl
    have b6 := g.2.1 _ hx
    refine ⟨by omega, ?_, by omega, by omega, fun p hp => ?_⟩
    · rw [show (ln' i) = b from i_eq b2]; exact k2
    · have c0 := hw'.2.2 i
      have c1 := k6 (12 * i + p)
      have c2 := k7 (12 * i + p)
      have c3 := a6 (12 * i + p)
      omega
  refine ⟨g.1, g.2.1, fun r hr => ?_⟩
  by_cases q : r = a.toNatClampNeg
  · have c1 : m' r = ii := i_eq (by rw [(a3 r).1 q]; omega)
    have c2 := (hs r).1 q
    rw [c1, c2, ← hi]
    exact ⟨fun z => by omega, fun _ => ⟨(sb_shl hi40 hz i).mpr hi, new⟩⟩
  · have c1 : m' r = m r := i_eq ((a3 r).2 q)
    have c2 := (hs r).2 q
    have c3 := (hn r).2 q
    have c4 := g.2.2 r hr
    rw [c1, c2]
    refine ⟨fun z => by have := c4.1 z; omega, fun z => ⟨(c4.2 z).1, ?_⟩⟩
    by_cases w : (m r).toNatClampNeg = i
    · rw [w]; exact new
    · refine siC_cong (hw.2.2 _) (c4.2 z).2 ⟨(k1 _).2 w, k3 _ w, (k4 _).2 w, (k5 _).2 w, fun p hp => ⟨(k6 _).2 (by omega), (k7 _).2 (by omega)⟩⟩ ((a4 _).2 w) ((a5 _).2 w) (fun p hp => (a6 _).2 (by omega)), ps_4t hx m3 m7 h⟩
end
