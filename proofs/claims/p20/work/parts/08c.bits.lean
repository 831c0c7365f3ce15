/-! SITES as bits of a long, LANES as bits of an int -/
def sbit (w : Int64) (n : Nat) : Prop := w.toBitVec.getLsbD n = true
def lbit (w : Int32) (n : Nat) : Prop := bt w n = true
theorem i_nI {x : Int32} {n : Int} (h : 0 ≤ x.toInt ∧ x.toInt ≤ n) : ∃ j : Nat, (j : Int) ≤ n ∧ j < 2 ^ 31 ∧ x = nI j := by
  obtain ⟨j, hj, rfl⟩ := nI_of (x := x) (fun q => by have h8 := lt_i q; have h9 : (0 : Int32).toInt = 0 := by decide
                                                     omega)
  have := nI_toInt hj
  exact ⟨j, by omega, hj, rfl⟩
theorem l_and1 (v : Int64) : v &&& 1 = 0 ∨ v &&& 1 = 1 := by
  obtain ⟨k, hk, rfl⟩ := wb_of v
  rw [wb_a1 hk]
  rcases Nat.mod_two_eq_zero_or_one k with h | h <;> rw [h]
  · exact Or.inl rfl
  · exact Or.inr rfl
theorem i_and1 (v : Int32) : v &&& 1 = 0 ∨ v &&& 1 = 1 := by
  obtain ⟨j, hj, e⟩ := pk_andE v (m := 1) 1 (by decide)
  rw [e]
  have : j = 0 ∨ j = 1 := by omega
  rcases this with rfl | rfl
  · exact Or.inl rfl
  · exact Or.inr rfl
theorem sb_isIn {la v w : Int64} {ia : Int32} (hi : 0 ≤ ia.toInt ∧ ia.toInt ≤ 39) (ev : v = (la.toUInt64 >>> (ia.toInt64.toUInt64 &&& Int64.toUInt64 63)).toInt64) (ew : w = v &&& 1) : (w.toInt = 1 ∧ sbit la ia.toNatClampNeg) ∨ (w.toInt = 0 ∧ ¬ sbit la ia.toNatClampNeg) := by
  obtain ⟨n, hn, hn2, rfl⟩ := i_nI hi
  rw [nI_clamp hn2]
  have hs2 : (UInt64.ofNat n).toNat = n := Nat.mod_eq_of_lt (by omega)
  have hb := ts_bit (w := la) (s := UInt64.ofNat n) (j := n) (by omega) hs2
  rw [wb_cu n (by omega)] at ev
  rw [← ev, ← ew] at hb
  unfold sbit
  rcases l_and1 v with h | h
  · rw [← ew] at h
    refine Or.inr ⟨by rw [h]; decide, ?_⟩
    rw [hb.mp h]; decide
  · rw [← ew] at h
    refine Or.inl ⟨by rw [h]; decide, ?_⟩
    exact ts_nf (fun q => by rw [hb.mpr q] at h; exact absurd h (by decide))
theorem sb_or {a b w : Int64} (e : w = a ||| b) (j : Nat) : sbit w j ↔ sbit a j ∨ sbit b j := by
  unfold sbit
  rw [e, Int64.toBitVec_or, BitVec.getLsbD_or, Bool.or_eq_true]
theorem sb_0 (j : Nat) : ¬ sbit 0 j := by
  unfold sbit
  show ¬ (0#64).getLsbD j = true
  rw [BitVec.getLsbD_zero]; decide
theorem sb_ne {w : Int64} {j : Nat} (h : sbit w j) : ¬ w.toInt = 0 := fun q => by
  have e : w = 0 := Int64.toInt_inj.mp (by rw [q]; decide)
  rw [e] at h
  exact sb_0 j h
theorem sb_shl {i : Int32} {v : Int64} (hi : 0 ≤ i.toInt ∧ i.toInt ≤ 39) (e : v = 1 <<< (i.toInt64 &&& 63)) (j : Nat) : sbit v j ↔ j = i.toNatClampNeg := by
  obtain ⟨n, hn, hn2, rfl⟩ := i_nI hi
  have e2 : v = lN (1 * 2 ^ n) := by rw [e, ← wb_shl 1 (by omega)]; rfl
  rw [nI_clamp hn2]
  unfold sbit
  rw [e2, wb_tb, Nat.one_mul, BitVec.getLsbD_ofNat, Nat.testBit_two_pow]
  constructor
  · intro h
    rw [Bool.and_eq_true, decide_eq_true_iff, decide_eq_true_iff] at h
    exact h.2.symm
  · intro h
    rw [Bool.and_eq_true, decide_eq_true_iff, decide_eq_true_iff]
    exact ⟨by omega, h.symm⟩
theorem lb_ushr {x l v w : Int32} (hl : 0 ≤ l.toInt ∧ l.toInt ≤ 31) (ev : v = (x.toUInt32 >>> (l.toUInt32 &&& Int32.toUInt32 31)).toInt32) (ew : w = v &&& 1) : (w.toInt = 1 ∧ lbit x l.toNatClampNeg) ∨ (w.toInt = 0 ∧ ¬ lbit x l.toNatClampNeg) := by
  obtain ⟨n, hn, hn2, rfl⟩ := i_nI hl
  rw [nI_clamp hn2]
  have hb : bt w 0 = bt x n := by
    rw [ew, b_and, ev, b_ushr n (by omega), show bt 1 0 = true from by decide, Bool.and_true, Nat.add_zero]
  unfold lbit
  rcases i_and1 v with h | h
  · rw [← ew] at h
    rw [h, b_0] at hb
    refine Or.inr ⟨by rw [h]; decide, ?_⟩
    rw [← hb]; decide
  · rw [← ew] at h
    rw [h, show bt 1 0 = true from by decide] at hb
    exact Or.inl ⟨by rw [h]; decide, hb.symm⟩
theorem lb_shl {l v : Int32} (hl : 0 ≤ l.toInt ∧ l.toInt ≤ 31) (e : v = 1 <<< (l &&& 31)) {q : Nat} (hq : q < 32) : lbit v q ↔ q = l.toNatClampNeg := by
  obtain ⟨n, hn, hn2, rfl⟩ := i_nI hl
  rw [nI_clamp hn2]
  unfold lbit
  rw [e, b_shl n (by omega) 1 hq, Bool.and_eq_true, decide_eq_true_iff]
  constructor
  · rintro ⟨h1, h2⟩
    by_cases h3 : q - n = 0
    · omega
    · have h4 : ∀ i, i < 32 → ¬ i = 0 → bt 1 i = false := by decide +kernel
      rw [h4 (q - n) (by omega) h3] at h2
      exact absurd h2 (by decide)
  · intro h
    subst h
    rw [Nat.sub_self]
    exact ⟨Nat.le_refl _, by decide⟩
theorem lb_or {a b w : Int32} (e : w = a ||| b) (j : Nat) : lbit w j ↔ lbit a j ∨ lbit b j := by
  unfold lbit
  rw [e, b_or, Bool.or_eq_true]
theorem lb_0 (j : Nat) : ¬ lbit 0 j := by
  unfold lbit
  rw [b_0]; decide
theorem or7 {a b w : Int32} (e : w = a ||| b) (ha : kL7 a) (hb : kL7 b) : kL7 w := by
  obtain ⟨n, hn, hn2, rfl⟩ := i_nI ha
  obtain ⟨k, hk, hk2, rfl⟩ := i_nI hb
  have h : ∀ n, n < 8 → ∀ k, k < 8 → kL7 (nI n ||| nI k) := by decide +kernel
  rw [e]
  exact h n (by omega) k (by omega)
theorem shl7 {l v : Int32} (hl : 0 ≤ l.toInt ∧ l.toInt ≤ 2) (e : v = 1 <<< (l &&& 31)) : kL7 v := by
  obtain ⟨n, hn, hn2, rfl⟩ := i_nI hl
  have h : ∀ n, n < 3 → kL7 ((1 : Int32) <<< (nI n &&& 31)) := by decide +kernel
  rw [e]
  exact h n (by omega)
/-- an int of LANES that has none but l -/
theorem lb_not {r l v w : Int32} (hl : 0 ≤ l.toInt ∧ l.toInt ≤ 2) (ev : v = 1 <<< (l &&& 31)) (ew : w = r &&& (v ^^^ (-1))) {q : Nat} (hq : q < 3) (h : lbit r q) (hne : ¬ q = l.toNatClampNeg) : ¬ w.toInt = 0 := fun z => by
  have e0 : w = 0 := Int32.toInt_inj.mp (by rw [z]; decide)
  have h1 : lbit w q := by
    unfold lbit at h ⊢
    rw [ew, b_and, b_xor, h, b_m1 q (by omega)]
    have h2 : bt v q = false := ts_nt (fun t => hne ((lb_shl ⟨hl.1, by omega⟩ ev (by omega)).mp t))
    rw [h2]; decide
  rw [e0] at h1
  exact lb_0 q h1
/-- loops that gather the bits that meet P -/
theorem wl_0 {P : Nat → Prop} {w : Int64} {i : Int32} (hw : w = 0) (hi : i.toInt = 0) : ∀ j : Nat, j < 64 → (sbit w j ↔ ((j : Int) < i.toInt ∧ P j)) := fun j hj => by
  constructor
  · intro h; rw [hw] at h; exact absurd h (sb_0 j)
  · intro h; omega
theorem wl_skip {P : Nat → Prop} {w : Int64} {i i' : Int32} (h : ∀ j : Nat, j < 64 → (sbit w j ↔ ((j : Int) < i.toInt ∧ P j))) (h0 : 0 ≤ i.toInt) (hi : i'.toInt = i.toInt + 1) (hp : ¬ P i.toNatClampNeg) : ∀ j : Nat, j < 64 → (sbit w j ↔ ((j : Int) < i'.toInt ∧ P j)) := fun j hj => by
  have n1 := nn_cl (z := i) h0
  rw [h j hj]
  constructor
  · rintro ⟨a, b⟩; exact ⟨by omega, b⟩
  · rintro ⟨a, b⟩
    by_cases q : j = i.toNatClampNeg
    · rw [q] at b; exact absurd b hp
    · exact ⟨by omega, b⟩
theorem wl_add {P : Nat → Prop} {w w' s : Int64} {i i' : Int32} (h : ∀ j : Nat, j < 64 → (sbit w j ↔ ((j : Int) < i.toInt ∧ P j))) (h0 : 0 ≤ i.toInt ∧ i.toInt ≤ 39) (hi : i'.toInt = i.toInt + 1) (hs : s = 1 <<< (i.toInt64 &&& 63)) (hw : w' = w ||| s) (hp : P i.toNatClampNeg) : ∀ j : Nat, j < 64 → (sbit w' j ↔ ((j : Int) < i'.toInt ∧ P j)) := fun j hj => by
  have n1 := nn_cl (z := i) h0.1
  rw [sb_or hw j, h j hj, sb_shl h0 hs j]
  constructor
  · rintro (⟨a, b⟩ | a)
    · exact ⟨by omega, b⟩
    · subst a; exact ⟨by omega, hp⟩
  · rintro ⟨a, b⟩
    by_cases q : j = i.toNatClampNeg
    · exact Or.inr q
    · exact Or.inl ⟨by omega, b⟩
theorem lb_eq {a b : Int32} {q : Nat} (e : a.toInt = b.toInt) (h : lbit a q) : lbit b q := by rw [← Int32.toInt_inj.mp e]; exact h
theorem cl_1 : (1 : Int32).toNatClampNeg = 1 := by decide
theorem cl_2 : (2 : Int32).toNatClampNeg = 2 := by decide
theorem cl_3 : (3 : Int32).toNatClampNeg = 3 := by decide
theorem cl_4 : (4 : Int32).toNatClampNeg = 4 := by decide
theorem cl_5 : (5 : Int32).toNatClampNeg = 5 := by decide
theorem cl_7 : (7 : Int32).toNatClampNeg = 7 := by decide
theorem lb_ne {w : Int32} {j : Nat} (h : lbit w j) : ¬ w.toInt = 0 := fun q => by
  have e : w = 0 := Int32.toInt_inj.mp (by rw [q]; decide)
  rw [e] at h
  exact lb_0 j h
