/-! what an ACT does, and what a RUN may be: relations over the rows of a machine (v: VARIABLES, m: what REFERENCES mean, ln: LANES, sz: lengths, ce: places, 12 a SITE) -/
abbrev cl_ (x : Int32) : Nat := x.toNatClampNeg
abbrev wmS (m ln sz : Nat → Int32) : Prop := (∀ j, kSITE (m j)) ∧ (∀ j, 0 ≤ (ln j).toInt ∧ (ln j).toInt ≤ 2) ∧ (∀ j, kR012 (sz j))
section
variable (i : Nat) (a b c d e : Int32) (v m ln sz ce v' m' ln' sz' ce' : Nat → Int32)
def An0 : Prop := upI v a.toNatClampNeg b.toInt v' ∧ eqI m m' ∧ eqI ln ln' ∧ eqI sz sz' ∧ eqI ce ce'
def An1 : Prop := (∃ w : Int, b.toInt ≤ w ∧ w ≤ c.toInt ∧ upI v a.toNatClampNeg w v') ∧ eqI m m' ∧ eqI ln ln' ∧ eqI sz sz' ∧ eqI ce ce'
def An2 : Prop := upI v a.toNatClampNeg (v b.toNatClampNeg + v c.toNatClampNeg).toInt v' ∧ eqI m m' ∧ eqI ln ln' ∧ eqI sz sz' ∧ eqI ce ce'
def An3 : Prop := upI v a.toNatClampNeg (v b.toNatClampNeg - v c.toNatClampNeg).toInt v' ∧ eqI m m' ∧ eqI ln ln' ∧ eqI sz sz' ∧ eqI ce ce'
def An4 : Prop := (0 ≤ (v c.toNatClampNeg).toInt ∧ (v c.toNatClampNeg).toInt ≤ 12) ∧ eqI v v' ∧ upI m a.toNatClampNeg i m' ∧ upI ln i b.toInt ln' ∧ upI sz i (v c.toNatClampNeg).toInt sz' ∧ (∀ j : Nat, (12 * i ≤ j ∧ j < 12 * i + 12 → (ce' j).toInt = 0) ∧ (¬ (12 * i ≤ j ∧ j < 12 * i + 12) → (ce' j).toInt = (ce j).toInt))
def An5 : Prop := eqI v v' ∧ upI m a.toNatClampNeg (-1) m' ∧ eqI ln ln' ∧ eqI sz sz' ∧ eqI ce ce'
def An6 : Prop := eqI v v' ∧ upI m a.toNatClampNeg (m b.toNatClampNeg).toInt m' ∧ eqI ln ln' ∧ eqI sz sz' ∧ eqI ce ce'
def An7 : Prop := eqI v v' ∧ (upI m a.toNatClampNeg (m b.toNatClampNeg).toInt m' ∨ upI m a.toNatClampNeg (m c.toNatClampNeg).toInt m') ∧ eqI ln ln' ∧ eqI sz sz' ∧ eqI ce ce'
def An8 : Prop := 0 ≤ (m b.toNatClampNeg).toInt ∧ eqI v v' ∧ upI m a.toNatClampNeg i m' ∧ upI ln i (ln (m b.toNatClampNeg).toNatClampNeg).toInt ln' ∧ upI sz i (sz (m b.toNatClampNeg).toNatClampNeg).toInt sz' ∧ (∀ j : Nat, (12 * i ≤ j ∧ j < 12 * i + 12 → (ce' j).toInt = (ce (12 * (m b.toNatClampNeg).toNatClampNeg + (j - 12 * i))).toInt) ∧ (¬ (12 * i ≤ j ∧ j < 12 * i + 12) → (ce' j).toInt = (ce j).toInt))
/-- a place that there is -/
abbrev plN (j : Int32) (l p : Int32) : Prop := 0 ≤ j.toInt ∧ (ln j.toNatClampNeg).toInt = l.toInt ∧ 0 ≤ p.toInt ∧ p.toInt < (sz j.toNatClampNeg).toInt
def An9 : Prop := plN ln sz (m a.toNatClampNeg) b (v c.toNatClampNeg) ∧ eqI v v' ∧ eqI m m' ∧ eqI ln ln' ∧ eqI sz sz' ∧ (∀ j : Nat, (j = 12 * (m a.toNatClampNeg).toNatClampNeg + (v c.toNatClampNeg).toNatClampNeg → castR b.toInt (v d.toNatClampNeg).toInt (ce' j).toInt) ∧ (¬ j = 12 * (m a.toNatClampNeg).toNatClampNeg + (v c.toNatClampNeg).toNatClampNeg → (ce' j).toInt = (ce j).toInt))
def An10 : Prop := plN ln sz (m b.toNatClampNeg) c (v d.toNatClampNeg) ∧ upI v a.toNatClampNeg (ce (12 * (m b.toNatClampNeg).toNatClampNeg + (v d.toNatClampNeg).toNatClampNeg)).toInt v' ∧ eqI m m' ∧ eqI ln ln' ∧ eqI sz sz' ∧ eqI ce ce'
def An11 : Prop := (0 ≤ (m a.toNatClampNeg).toInt ∧ 0 ≤ (m c.toNatClampNeg).toInt ∧ 0 ≤ (v b.toNatClampNeg).toInt ∧ 0 ≤ (v d.toNatClampNeg).toInt ∧ 0 ≤ (v e.toNatClampNeg).toInt ∧ (v b.toNatClampNeg).toInt + (v e.toNatClampNeg).toInt ≤ (sz (m a.toNatClampNeg).toNatClampNeg).toInt ∧ (v d.toNatClampNeg).toInt + (v e.toNatClampNeg).toInt ≤ (sz (m c.toNatClampNeg).toNatClampNeg).toInt) ∧ eqI v v' ∧ eqI m m' ∧ eqI ln ln' ∧ eqI sz sz' ∧
  (∀ j : Nat, (12 * (m c.toNatClampNeg).toInt + (v d.toNatClampNeg).toInt ≤ j ∧ (j : Int) < 12 * (m c.toNatClampNeg).toInt + (v d.toNatClampNeg).toInt + (v e.toNatClampNeg).toInt → (ce' j).toInt = (ce (12 * (m a.toNatClampNeg).toNatClampNeg + (v b.toNatClampNeg).toNatClampNeg + (j - (12 * (m c.toNatClampNeg).toNatClampNeg + (v d.toNatClampNeg).toNatClampNeg)))).toInt) ∧ (¬ (12 * (m c.toNatClampNeg).toInt + (v d.toNatClampNeg).toInt ≤ j ∧ (j : Int) < 12 * (m c.toNatClampNeg).toInt + (v d.toNatClampNeg).toInt + (v e.toNatClampNeg).toInt) → (ce' j).toInt = (ce j).toInt))
def An12 : Prop := eqI v v' ∧ eqI m m' ∧ eqI ln ln' ∧ eqI sz sz' ∧ (((v d.toNatClampNeg).toInt ≤ (v c.toNatClampNeg).toInt ∧ eqI ce ce') ∨
  ((v c.toNatClampNeg).toInt < (v d.toNatClampNeg).toInt ∧ 0 ≤ (m a.toNatClampNeg).toInt ∧ (ln (m a.toNatClampNeg).toNatClampNeg).toInt = b.toInt ∧ 0 ≤ (v c.toNatClampNeg).toInt ∧ (v d.toNatClampNeg).toInt ≤ (sz (m a.toNatClampNeg).toNatClampNeg).toInt ∧
  (∀ j : Nat, (12 * (m a.toNatClampNeg).toInt + (v c.toNatClampNeg).toInt ≤ j ∧ (j : Int) < 12 * (m a.toNatClampNeg).toInt + (v d.toNatClampNeg).toInt → castR b.toInt (v e.toNatClampNeg).toInt (ce' j).toInt) ∧ (¬ (12 * (m a.toNatClampNeg).toInt + (v c.toNatClampNeg).toInt ≤ j ∧ (j : Int) < 12 * (m a.toNatClampNeg).toInt + (v d.toNatClampNeg).toInt) → (ce' j).toInt = (ce j).toInt))))
def An13 : Prop := 0 ≤ (m b.toNatClampNeg).toInt ∧ upI v a.toNatClampNeg (sz (m b.toNatClampNeg).toNatClampNeg).toInt v' ∧ eqI m m' ∧ eqI ln ln' ∧ eqI sz sz' ∧ eqI ce ce'
def An14 : Prop := eqI v v' ∧ eqI m m' ∧ eqI ln ln' ∧ eqI sz sz' ∧ eqI ce ce'
def AnK : Nat → Prop
  | 0 => An0 a b v m ln sz ce v' m' ln' sz' ce'
  | 1 => An1 a b c v m ln sz ce v' m' ln' sz' ce'
  | 2 => An2 a b c v m ln sz ce v' m' ln' sz' ce'
  | 3 => An3 a b c v m ln sz ce v' m' ln' sz' ce'
  | 4 => An4 i a b c v m ln sz ce v' m' ln' sz' ce'
  | 5 => An5 a v m ln sz ce v' m' ln' sz' ce'
  | 6 => An6 a b v m ln sz ce v' m' ln' sz' ce'
  | 7 => An7 a b c v m ln sz ce v' m' ln' sz' ce'
  | 8 => An8 i a b v m ln sz ce v' m' ln' sz' ce'
  | 9 => An9 a b c d v m ln sz ce v' m' ln' sz' ce'
  | 10 => An10 a b c d v m ln sz ce v' m' ln' sz' ce'
  | 11 => An11 a b c d e v m ln sz ce v' m' ln' sz' ce'
  | 12 => An12 a b c d e v m ln sz ce v' m' ln' sz' ce'
  | 13 => An13 a b v m ln sz ce v' m' ln' sz' ce'
  | _ => An14 v m ln sz ce v' m' ln' sz' ce'
/-- the THROW t of a place -/
abbrev plT (j : Int32) (l p t : Int32) : Prop := (j.toInt < 0 ∧ t.toInt = 1) ∨ (0 ≤ j.toInt ∧ ¬ (ln j.toNatClampNeg).toInt = l.toInt ∧ t.toInt = 2) ∨ (0 ≤ j.toInt ∧ (ln j.toNatClampNeg).toInt = l.toInt ∧ (p.toInt < 0 ∨ (sz j.toNatClampNeg).toInt ≤ p.toInt) ∧ t.toInt = 5)
def AtK (t : Int32) : Nat → Prop
  | 4 => ((v c.toNatClampNeg).toInt < 0 ∧ t.toInt = 3) ∨ (12 < (v c.toNatClampNeg).toInt ∧ t.toInt = 7)
  | 8 => (m b.toNatClampNeg).toInt < 0 ∧ t.toInt = 1
  | 9 => plT ln sz (m a.toNatClampNeg) b (v c.toNatClampNeg) t
  | 10 => plT ln sz (m b.toNatClampNeg) c (v d.toNatClampNeg) t
  | 11 => (((m a.toNatClampNeg).toInt < 0 ∨ (m c.toNatClampNeg).toInt < 0) ∧ t.toInt = 1) ∨ (0 ≤ (m a.toNatClampNeg).toInt ∧ 0 ≤ (m c.toNatClampNeg).toInt ∧ ((¬ (ln (m a.toNatClampNeg).toNatClampNeg).toInt = (ln (m c.toNatClampNeg).toNatClampNeg).toInt ∧ t.toInt = 4) ∨
      (((v b.toNatClampNeg).toInt < 0 ∨ (v d.toNatClampNeg).toInt < 0 ∨ (v e.toNatClampNeg).toInt < 0 ∨ (sz (m a.toNatClampNeg).toNatClampNeg).toInt < (v b.toNatClampNeg).toInt + (v e.toNatClampNeg).toInt ∨ (sz (m c.toNatClampNeg).toNatClampNeg).toInt < (v d.toNatClampNeg).toInt + (v e.toNatClampNeg).toInt) ∧ t.toInt = 5)))
  | 12 => (v c.toNatClampNeg).toInt < (v d.toNatClampNeg).toInt ∧ (((m a.toNatClampNeg).toInt < 0 ∧ t.toInt = 1) ∨ (0 ≤ (m a.toNatClampNeg).toInt ∧ ((¬ (ln (m a.toNatClampNeg).toNatClampNeg).toInt = b.toInt ∧ t.toInt = 2) ∨ (((v c.toNatClampNeg).toInt < 0 ∨ (sz (m a.toNatClampNeg).toNatClampNeg).toInt < (v d.toNatClampNeg).toInt) ∧ t.toInt = 5))))
  | 13 => (m b.toNatClampNeg).toInt < 0 ∧ t.toInt = 1
  | _ => False
end
/-- one ACT of the row k a b c d e, at number i -/
def ActN (i : Nat) (k a b c d e : Int32) (v m ln sz ce v' m' ln' sz' ce' : Nat → Int32) : Prop := AnK i a b c d e v m ln sz ce v' m' ln' sz' ce' k.toInt.toNat
def ActT (k a b c d e : Int32) (v m ln sz : Nat → Int32) (t : Int32) : Prop := AtK a b c d e v m ln sz t k.toInt.toNat
theorem actN_at {n : Nat} {i : Nat} {k a b c d e : Int32} {v m ln sz ce v' m' ln' sz' ce' : Nat → Int32} (hk : k.toInt = (n : Int)) : ActN i k a b c d e v m ln sz ce v' m' ln' sz' ce' ↔ AnK i a b c d e v m ln sz ce v' m' ln' sz' ce' n := by
  unfold ActN
  rw [show k.toInt.toNat = n from by omega]
theorem actT_at {n : Nat} {k a b c d e : Int32} {v m ln sz : Nat → Int32} {t : Int32} (hk : k.toInt = (n : Int)) : ActT k a b c d e v m ln sz t ↔ AtK a b c d e v m ln sz t n := by
  unfold ActT
  rw [show k.toInt.toNat = n from by omega]
/-- one turn of a RUN's loop at ACT i (ro: the rows, six an ACT; dr: the dropped): lf is what is left of a MAYBE, dg whether its ACTS are done -/
def RcS (ro dr : Nat → Int32) (i : Nat) (lf : Int) (dg : Int32) (v m ln sz ce : Nat → Int32) (lf' : Int) (dg' : Int32) (v' m' ln' sz' ce' : Nat → Int32) : Prop :=
  (¬ (dr i).toInt = 0 ∧ lf' = lf ∧ dg' = dg ∧ v' = v ∧ m' = m ∧ ln' = ln ∧ sz' = sz ∧ ce' = ce) ∨
  ((dr i).toInt = 0 ∧ lf = 0 ∧ (ro (6 * i)).toInt = 14 ∧ lf' = (ro (6 * i + 2)).toInt ∧ v' = v ∧ m' = m ∧ ln' = ln ∧ sz' = sz ∧ ce' = ce) ∨
  ((dr i).toInt = 0 ∧ ¬ (lf = 0 ∧ (ro (6 * i)).toInt = 14) ∧ lf' = (if 0 < lf then lf - 1 else 0) ∧ dg' = dg ∧
    (((lf = 0 ∨ ¬ dg.toInt = 0) ∧ ActN i (ro (6 * i)) (ro (6 * i + 1)) (ro (6 * i + 2)) (ro (6 * i + 3)) (ro (6 * i + 4)) (ro (6 * i + 5)) v m ln sz ce v' m' ln' sz' ce') ∨ (¬ (lf = 0 ∨ ¬ dg.toInt = 0) ∧ v' = v ∧ m' = m ∧ ln' = ln ∧ sz' = sz ∧ ce' = ce)))
/-- what a RUN may be ahead of ACT i -/
def Rc (ro dr : Nat → Int32) : Nat → Int → Int32 → (Nat → Int32) → (Nat → Int32) → (Nat → Int32) → (Nat → Int32) → (Nat → Int32) → Prop
  | 0, lf, _, v, m, ln, sz, _ => lf = 0 ∧ wmS m ln sz ∧ (∀ x : Nat, x < 6 → (v x).toInt = 0) ∧ (∀ r : Nat, r < 6 → (m r).toInt = -1)
  | i + 1, lf', dg', v', m', ln', sz', ce' => wmS m' ln' sz' ∧ ∃ (lf : Int) (dg : Int32) (v m ln sz ce : Nat → Int32), Rc ro dr i lf dg v m ln sz ce ∧ RcS ro dr i lf dg v m ln sz ce lf' dg' v' m' ln' sz' ce'
theorem Rc_wm {ro dr : Nat → Int32} {i : Nat} {lf : Int} {dg : Int32} {v m ln sz ce : Nat → Int32} (h : Rc ro dr i lf dg v m ln sz ce) : wmS m ln sz := by
  cases i with
  | zero => exact h.2.1
  | succ i => exact h.1
/-- a RUN may throw t at ACT i -/
def Tc (ro dr : Nat → Int32) (i : Nat) (t : Int32) : Prop := ∃ (lf : Int) (dg : Int32) (v m ln sz ce : Nat → Int32), Rc ro dr i lf dg v m ln sz ce ∧ (dr i).toInt = 0 ∧ ¬ (lf = 0 ∧ (ro (6 * i)).toInt = 14) ∧ (lf = 0 ∨ ¬ dg.toInt = 0) ∧ ActT (ro (6 * i)) (ro (6 * i + 1)) (ro (6 * i + 2)) (ro (6 * i + 3)) (ro (6 * i + 4)) (ro (6 * i + 5)) v m ln sz t
theorem okP_rn {k a b c d e : Int32} (h : okP k a b c d e) : 0 ≤ k.toInt ∧ k.toInt ≤ 14 := by
  rcases h with h | h | h | h | h | h | h | h | h | h | h | h | h | h | h
  all_goals (have := h.1; omega)
section
variable {i : Nat} {k a b c d e : Int32} {v m ln sz ce v' m' ln' sz' ce' : Nat → Int32}
theorem act_0 (hk : k.toInt = 0) (h : upI v a.toNatClampNeg b.toInt v') : ActN i k a b c d e v m ln sz ce v' m ln sz ce := (actN_at (n := 0) (by omega)).mpr ⟨h, fun _ => rfl, fun _ => rfl, fun _ => rfl, fun _ => rfl⟩
theorem act_1 (hk : k.toInt = 1) {w : Int32} (hw : b.toInt ≤ w.toInt ∧ w.toInt ≤ c.toInt) (h : upI v a.toNatClampNeg w.toInt v') : ActN i k a b c d e v m ln sz ce v' m ln sz ce := (actN_at (n := 1) (by omega)).mpr ⟨⟨w.toInt, hw.1, hw.2, h⟩, fun _ => rfl, fun _ => rfl, fun _ => rfl, fun _ => rfl⟩
theorem act_2 (hk : k.toInt = 2) {x y w : Int32} (ex : x = v b.toNatClampNeg) (ey : y = v c.toNatClampNeg) (ew : w = x + y) (h : upI v a.toNatClampNeg w.toInt v') : ActN i k a b c d e v m ln sz ce v' m ln sz ce := by
  subst ew ex ey
  exact (actN_at (n := 2) (by omega)).mpr ⟨h, fun _ => rfl, fun _ => rfl, fun _ => rfl, fun _ => rfl⟩
theorem act_3 (hk : k.toInt = 3) {x y w : Int32} (ex : x = v b.toNatClampNeg) (ey : y = v c.toNatClampNeg) (ew : w = x - y) (h : upI v a.toNatClampNeg w.toInt v') : ActN i k a b c d e v m ln sz ce v' m ln sz ce := by
  subst ew ex ey
  exact (actN_at (n := 3) (by omega)).mpr ⟨h, fun _ => rfl, fun _ => rfl, fun _ => rfl, fun _ => rfl⟩
theorem act_4 (hk : k.toInt = 4) {x ii : Int32} (ei : (i : Int) = ii.toInt) (ex : x = v c.toNatClampNeg) (hx : 0 ≤ x.toInt ∧ x.toInt ≤ 12) (h1 : upI m a.toNatClampNeg ii.toInt m') (h2 : upI ln i b.toInt ln') (h3 : upI sz i x.toInt sz') (h4 : ∀ j : Nat, (12 * i ≤ j ∧ j < 12 * i + 12 → (ce' j).toInt = 0) ∧ (¬ (12 * i ≤ j ∧ j < 12 * i + 12) → (ce' j).toInt = (ce j).toInt)) : ActN i k a b c d e v m ln sz ce v m' ln' sz' ce' := by
  subst ex
  rw [← ei] at h1
  exact (actN_at (n := 4) (by omega)).mpr ⟨hx, fun _ => rfl, h1, h2, h3, h4⟩
theorem act_5 (hk : k.toInt = 5) (h : upI m a.toNatClampNeg (-1) m') : ActN i k a b c d e v m ln sz ce v m' ln sz ce := (actN_at (n := 5) (by omega)).mpr ⟨fun _ => rfl, h, fun _ => rfl, fun _ => rfl, fun _ => rfl⟩
theorem act_6 (hk : k.toInt = 6) {x : Int32} (ex : x = m b.toNatClampNeg) (h : upI m a.toNatClampNeg x.toInt m') : ActN i k a b c d e v m ln sz ce v m' ln sz ce := by
  subst ex
  exact (actN_at (n := 6) (by omega)).mpr ⟨fun _ => rfl, h, fun _ => rfl, fun _ => rfl, fun _ => rfl⟩
theorem act_7 (hk : k.toInt = 7) {x : Int32} (ex : x = m b.toNatClampNeg ∨ x = m c.toNatClampNeg) (h : upI m a.toNatClampNeg x.toInt m') : ActN i k a b c d e v m ln sz ce v m' ln sz ce := by
  refine (actN_at (n := 7) (by omega)).mpr ⟨fun _ => rfl, ?_, fun _ => rfl, fun _ => rfl, fun _ => rfl⟩
  rcases ex with rfl | rfl
  · exact Or.inl h
  · exact Or.inr h
theorem act_8 (hk : k.toInt = 8) {x ii : Int32} (ei : (i : Int) = ii.toInt) (ex : x = m b.toNatClampNeg) (hx : 0 ≤ x.toInt) (h1 : upI m a.toNatClampNeg ii.toInt m') (h2 : upI ln i (ln x.toNatClampNeg).toInt ln') (h3 : upI sz i (sz x.toNatClampNeg).toInt sz') (h4 : ∀ j : Nat, (12 * i ≤ j ∧ j < 12 * i + 12 → (ce' j).toInt = (ce (12 * x.toNatClampNeg + (j - 12 * i))).toInt) ∧ (¬ (12 * i ≤ j ∧ j < 12 * i + 12) → (ce' j).toInt = (ce j).toInt)) : ActN i k a b c d e v m ln sz ce v m' ln' sz' ce' := by
  subst ex
  rw [← ei] at h1
  exact (actN_at (n := 8) (by omega)).mpr ⟨hx, fun _ => rfl, h1, h2, h3, h4⟩
theorem act_9 (hk : k.toInt = 9) {x y z : Int32} (ex : x = m a.toNatClampNeg) (ey : y = v c.toNatClampNeg) (ez : z = v d.toNatClampNeg) (hp : plN ln sz x b y) (h : ∀ j : Nat, (j = 12 * x.toNatClampNeg + y.toNatClampNeg → castR b.toInt z.toInt (ce' j).toInt) ∧ (¬ j = 12 * x.toNatClampNeg + y.toNatClampNeg → (ce' j).toInt = (ce j).toInt)) : ActN i k a b c d e v m ln sz ce v m ln sz ce' := by
  subst ex ey ez
  exact (actN_at (n := 9) (by omega)).mpr ⟨hp, fun _ => rfl, fun _ => rfl, fun _ => rfl, fun _ => rfl, h⟩
theorem act_10 (hk : k.toInt = 10) {x y : Int32} (ex : x = m b.toNatClampNeg) (ey : y = v d.toNatClampNeg) (hp : plN ln sz x c y) (h : upI v a.toNatClampNeg (ce (12 * x.toNatClampNeg + y.toNatClampNeg)).toInt v') : ActN i k a b c d e v m ln sz ce v' m ln sz ce := by
  subst ex ey
  exact (actN_at (n := 10) (by omega)).mpr ⟨hp, h, fun _ => rfl, fun _ => rfl, fun _ => rfl, fun _ => rfl⟩
theorem act_11 (hk : k.toInt = 11) {x y p q z : Int32} (ex : x = m a.toNatClampNeg) (ey : y = m c.toNatClampNeg) (ep : p = v b.toNatClampNeg) (eq : q = v d.toNatClampNeg) (ez : z = v e.toNatClampNeg) (hp : 0 ≤ x.toInt ∧ 0 ≤ y.toInt ∧ 0 ≤ p.toInt ∧ 0 ≤ q.toInt ∧ 0 ≤ z.toInt ∧ p.toInt + z.toInt ≤ (sz x.toNatClampNeg).toInt ∧ q.toInt + z.toInt ≤ (sz y.toNatClampNeg).toInt)
    (h : ∀ j : Nat, (12 * y.toInt + q.toInt ≤ j ∧ (j : Int) < 12 * y.toInt + q.toInt + z.toInt → (ce' j).toInt = (ce (12 * x.toNatClampNeg + p.toNatClampNeg + (j - (12 * y.toNatClampNeg + q.toNatClampNeg)))).toInt) ∧ (¬ (12 * y.toInt + q.toInt ≤ j ∧ (j : Int) < 12 * y.toInt + q.toInt + z.toInt) → (ce' j).toInt = (ce j).toInt)) : ActN i k a b c d e v m ln sz ce v m ln sz ce' := by
  subst ex ey ep eq ez
  exact (actN_at (n := 11) (by omega)).mpr ⟨hp, fun _ => rfl, fun _ => rfl, fun _ => rfl, fun _ => rfl, h⟩
theorem act_12 (hk : k.toInt = 12) {x p q z : Int32} (ex : x = m a.toNatClampNeg) (ep : p = v c.toNatClampNeg) (eq : q = v d.toNatClampNeg) (ez : z = v e.toNatClampNeg)
    (h : (q.toInt ≤ p.toInt ∧ (∀ j : Nat, (ce' j).toInt = (ce j).toInt)) ∨ (p.toInt < q.toInt ∧ 0 ≤ x.toInt ∧ (ln x.toNatClampNeg).toInt = b.toInt ∧ 0 ≤ p.toInt ∧ q.toInt ≤ (sz x.toNatClampNeg).toInt ∧ (∀ j : Nat, (12 * x.toInt + p.toInt ≤ j ∧ (j : Int) < 12 * x.toInt + q.toInt → castR b.toInt z.toInt (ce' j).toInt) ∧ (¬ (12 * x.toInt + p.toInt ≤ j ∧ (j : Int) < 12 * x.toInt + q.toInt) → (ce' j).toInt = (ce j).toInt)))) : ActN i k a b c d e v m ln sz ce v m ln sz ce' := by
  subst ex ep eq ez
  exact (actN_at (n := 12) (by omega)).mpr ⟨fun _ => rfl, fun _ => rfl, fun _ => rfl, fun _ => rfl, h⟩
theorem act_13 (hk : k.toInt = 13) {x : Int32} (ex : x = m b.toNatClampNeg) (hx : 0 ≤ x.toInt) (h : upI v a.toNatClampNeg (sz x.toNatClampNeg).toInt v') : ActN i k a b c d e v m ln sz ce v' m ln sz ce := by
  subst ex
  exact (actN_at (n := 13) (by omega)).mpr ⟨hx, h, fun _ => rfl, fun _ => rfl, fun _ => rfl, fun _ => rfl⟩
theorem act_14 (hk : k.toInt = 14) : ActN i k a b c d e v m ln sz ce v m ln sz ce := (actN_at (n := 14) (by omega)).mpr ⟨fun _ => rfl, fun _ => rfl, fun _ => rfl, fun _ => rfl, fun _ => rfl⟩
variable {t : Int32}
theorem thr_4 (hk : k.toInt = 4) {x : Int32} (ex : x = v c.toNatClampNeg) (h : (x.toInt < 0 ∧ t.toInt = 3) ∨ (12 < x.toInt ∧ t.toInt = 7)) : ActT k a b c d e v m ln sz t := by
  subst ex
  exact (actT_at (n := 4) (by omega)).mpr h
theorem thr_8 (hk : k.toInt = 8) {x : Int32} (ex : x = m b.toNatClampNeg) (h : x.toInt < 0 ∧ t.toInt = 1) : ActT k a b c d e v m ln sz t := by
  subst ex
  exact (actT_at (n := 8) (by omega)).mpr h
theorem thr_9 (hk : k.toInt = 9) {x y : Int32} (ex : x = m a.toNatClampNeg) (ey : y = v c.toNatClampNeg) (h : plT ln sz x b y t) : ActT k a b c d e v m ln sz t := by
  subst ex ey
  exact (actT_at (n := 9) (by omega)).mpr h
theorem thr_10 (hk : k.toInt = 10) {x y : Int32} (ex : x = m b.toNatClampNeg) (ey : y = v d.toNatClampNeg) (h : plT ln sz x c y t) : ActT k a b c d e v m ln sz t := by
  subst ex ey
  exact (actT_at (n := 10) (by omega)).mpr h
theorem thr_11 (hk : k.toInt = 11) {x y p q z : Int32} (ex : x = m a.toNatClampNeg) (ey : y = m c.toNatClampNeg) (ep : p = v b.toNatClampNeg) (eq : q = v d.toNatClampNeg) (ez : z = v e.toNatClampNeg)
    (h : ((x.toInt < 0 ∨ y.toInt < 0) ∧ t.toInt = 1) ∨ (0 ≤ x.toInt ∧ 0 ≤ y.toInt ∧ ((¬ (ln x.toNatClampNeg).toInt = (ln y.toNatClampNeg).toInt ∧ t.toInt = 4) ∨ ((p.toInt < 0 ∨ q.toInt < 0 ∨ z.toInt < 0 ∨ (sz x.toNatClampNeg).toInt < p.toInt + z.toInt ∨ (sz y.toNatClampNeg).toInt < q.toInt + z.toInt) ∧ t.toInt = 5)))) : ActT k a b c d e v m ln sz t := by
  subst ex ey ep eq ez
  exact (actT_at (n := 11) (by omega)).mpr h
theorem thr_12 (hk : k.toInt = 12) {x p q : Int32} (ex : x = m a.toNatClampNeg) (ep : p = v c.toNatClampNeg) (eq : q = v d.toNatClampNeg)
    (h : p.toInt < q.toInt ∧ ((x.toInt < 0 ∧ t.toInt = 1) ∨ (0 ≤ x.toInt ∧ ((¬ (ln x.toNatClampNeg).toInt = b.toInt ∧ t.toInt = 2) ∨ ((p.toInt < 0 ∨ (sz x.toNatClampNeg).toInt < q.toInt) ∧ t.toInt = 5))))) : ActT k a b c d e v m ln sz t := by
  subst ex ep eq
  exact (actT_at (n := 12) (by omega)).mpr h
theorem thr_13 (hk : k.toInt = 13) {x : Int32} (ex : x = m b.toNatClampNeg) (h : x.toInt < 0 ∧ t.toInt = 1) : ActT k a b c d e v m ln sz t := by
  subst ex
  exact (actT_at (n := 13) (by omega)).mpr h
end
section
variable {ro dr v m ln sz ce v' m' ln' sz' ce' : Nat → Int32} {i i' : Nat} {lf lf' : Int} {dg dg' : Int32}
theorem Rc_drop (hi : i' = i + 1) (h : Rc ro dr i lf dg v m ln sz ce) (hd : ¬ (dr i).toInt = 0) : Rc ro dr i' lf dg v m ln sz ce := by
  subst hi
  exact ⟨Rc_wm h, lf, dg, v, m, ln, sz, ce, h, Or.inl ⟨hd, rfl, rfl, rfl, rfl, rfl, rfl, rfl⟩⟩
theorem Rc_maybe (hi : i' = i + 1) (h : Rc ro dr i lf dg v m ln sz ce) (hd : (dr i).toInt = 0) (hl : lf = 0) (hk : (ro (6 * i)).toInt = 14) (hl' : lf' = (ro (6 * i + 2)).toInt) : Rc ro dr i' lf' dg' v m ln sz ce := by
  subst hi
  exact ⟨Rc_wm h, lf, dg, v, m, ln, sz, ce, h, Or.inr (Or.inl ⟨hd, hl, hk, hl', rfl, rfl, rfl, rfl, rfl⟩)⟩
theorem Rc_act (hi : i' = i + 1) (h : Rc ro dr i lf dg v m ln sz ce) (hd : (dr i).toInt = 0) (hn : ¬ (lf = 0 ∧ (ro (6 * i)).toInt = 14)) (hg : lf = 0 ∨ ¬ dg.toInt = 0) (hl' : (0 < lf → lf' = lf - 1) ∧ (lf ≤ 0 → lf' = 0)) (hA : ActN i (ro (6 * i)) (ro (6 * i + 1)) (ro (6 * i + 2)) (ro (6 * i + 3)) (ro (6 * i + 4)) (ro (6 * i + 5)) v m ln sz ce v' m' ln' sz' ce') (hw : wmS m' ln' sz') : Rc ro dr i' lf' dg v' m' ln' sz' ce' := by
  subst hi
  refine ⟨hw, lf, dg, v, m, ln, sz, ce, h, Or.inr (Or.inr ⟨hd, hn, ?_, rfl, Or.inl ⟨hg, hA⟩⟩)⟩
  split <;> omega
theorem Rc_skip (hi : i' = i + 1) (h : Rc ro dr i lf dg v m ln sz ce) (hd : (dr i).toInt = 0) (hn : ¬ (lf = 0 ∧ (ro (6 * i)).toInt = 14)) (hg : ¬ (lf = 0 ∨ ¬ dg.toInt = 0)) (hl' : (0 < lf → lf' = lf - 1) ∧ (lf ≤ 0 → lf' = 0)) : Rc ro dr i' lf' dg v m ln sz ce := by
  subst hi
  refine ⟨Rc_wm h, lf, dg, v, m, ln, sz, ce, h, Or.inr (Or.inr ⟨hd, hn, ?_, rfl, Or.inr ⟨hg, rfl, rfl, rfl, rfl, rfl⟩⟩)⟩
  split <;> omega
end
theorem Rc_0 {ro dr v m ln sz ce : Nat → Int32} {i : Nat} {lf : Int} {dg : Int32} (hi : i = 0) (hl : lf = 0) (hw : wmS m ln sz) (hv : ∀ x : Nat, x < 6 → (v x).toInt = 0) (hm : ∀ r : Nat, r < 6 → (m r).toInt = -1) : Rc ro dr i lf dg v m ln sz ce := by
  subst hi
  exact ⟨hl, hw, hv, hm⟩
abbrev upZ (f : Nat → Int) (k : Nat) (x : Int) (g : Nat → Int) : Prop := ∀ j : Nat, (j = k → g j = x) ∧ (¬ j = k → g j = f j)
/-! the class's FACTS over a machine's rows -/
def siC (kn la : Nat → Int32) (sh lg pl ph : Nat → Int) (ln sz ce : Nat → Int32) (i : Nat) : Prop := ¬ (kn i).toInt = 0 ∧ lbit (la i) (ln i).toNatClampNeg ∧ (sh i) ≤ (sz i).toInt ∧ (sz i).toInt ≤ (lg i) ∧ ∀ p : Nat, (p : Int) < (sz i).toInt → (pl (12 * i + p)) ≤ (ce (12 * i + p)).toInt ∧ (ce (12 * i + p)).toInt ≤ (ph (12 * i + p))
def inC (isR : Int32) (le gr : Nat → Int) (si : Nat → Int64) (mn kn la : Nat → Int32) (sh lg pl ph : Nat → Int) (v m ln sz ce : Nat → Int32) : Prop := ¬ isR.toInt = 0 ∧ (∀ x : Nat, x < 6 → (le x) ≤ (v x).toInt ∧ (v x).toInt ≤ (gr x)) ∧ (∀ r : Nat, r < 6 → ((m r).toInt < 0 → ¬ (mn r).toInt = 0) ∧ (0 ≤ (m r).toInt → sbit (si r) (m r).toNatClampNeg ∧ siC kn la sh lg pl ph ln sz ce (m r).toNatClampNeg))
/-- what is told of ARRAY i is within what is told of ARRAY i' -/
def aS (la : Nat → Int32) (sh lg pl ph : Nat → Int) (i : Nat) (kn' la' : Nat → Int32) (sh' lg' pl' ph' : Nat → Int) (i' : Nat) : Prop := ¬ (kn' i').toInt = 0 ∧ (∀ q : Nat, lbit (la i) q → lbit (la' i') q) ∧ (sh' i') ≤ (sh i) ∧ (lg i) ≤ (lg' i') ∧ ∀ p : Nat, p < 12 → (pl' (12 * i' + p)) ≤ (pl (12 * i + p)) ∧ (ph (12 * i + p)) ≤ (ph' (12 * i' + p))
def eqS (kn la : Nat → Int32) (sh lg pl ph : Nat → Int) (kn' la' : Nat → Int32) (sh' lg' pl' ph' : Nat → Int) (i : Nat) : Prop := (kn' i).toInt = (kn i).toInt ∧ (la' i).toInt = (la i).toInt ∧ (sh' i) = (sh i) ∧ (lg' i) = (lg i) ∧ ∀ p : Nat, p < 12 → (pl' (12 * i + p)) = (pl (12 * i + p)) ∧ (ph' (12 * i + p)) = (ph (12 * i + p))
theorem eqS_rf {kn la : Nat → Int32} {sh lg pl ph : Nat → Int} {i : Nat} : eqS kn la sh lg pl ph kn la sh lg pl ph i := ⟨rfl, rfl, rfl, rfl, fun _ _ => ⟨rfl, rfl⟩⟩
theorem eqS_aS {kn la : Nat → Int32} {sh lg pl ph : Nat → Int} {kn' la' : Nat → Int32} {sh' lg' pl' ph' : Nat → Int} {i : Nat} (h : eqS kn la sh lg pl ph kn' la' sh' lg' pl' ph' i) (hk : ¬ (kn i).toInt = 0) : aS la sh lg pl ph i kn' la' sh' lg' pl' ph' i := ⟨by rw [h.1]; exact hk, fun q hq => lb_eq h.2.1.symm hq, by rw [h.2.2.1]; exact Int.le_refl _, by rw [h.2.2.2.1]; exact Int.le_refl _, fun p hp => ⟨by rw [(h.2.2.2.2 p hp).1]; exact Int.le_refl _, by rw [(h.2.2.2.2 p hp).2]; exact Int.le_refl _⟩⟩
theorem aS_eq {la : Nat → Int32} {sh lg pl ph : Nat → Int} {kn1 la1 : Nat → Int32} {sh1 lg1 pl1 ph1 : Nat → Int} {kn2 la2 : Nat → Int32} {sh2 lg2 pl2 ph2 : Nat → Int} {i k : Nat} (h : aS la sh lg pl ph i kn1 la1 sh1 lg1 pl1 ph1 k) (e : eqS kn1 la1 sh1 lg1 pl1 ph1 kn2 la2 sh2 lg2 pl2 ph2 k) : aS la sh lg pl ph i kn2 la2 sh2 lg2 pl2 ph2 k := by
  refine ⟨by rw [e.1]; exact h.1, fun q hq => lb_eq e.2.1.symm (h.2.1 q hq), by rw [e.2.2.1]; exact h.2.2.1, by rw [e.2.2.2.1]; exact h.2.2.2.1, fun p hp => ?_⟩
  have h1 := h.2.2.2.2 p hp
  have h2 := e.2.2.2.2 p hp
  omega
theorem eqS_tr {kn la : Nat → Int32} {sh lg pl ph : Nat → Int} {kn1 la1 : Nat → Int32} {sh1 lg1 pl1 ph1 : Nat → Int} {kn2 la2 : Nat → Int32} {sh2 lg2 pl2 ph2 : Nat → Int} {k : Nat} (h : eqS kn la sh lg pl ph kn1 la1 sh1 lg1 pl1 ph1 k) (e : eqS kn1 la1 sh1 lg1 pl1 ph1 kn2 la2 sh2 lg2 pl2 ph2 k) : eqS kn la sh lg pl ph kn2 la2 sh2 lg2 pl2 ph2 k := by
  refine ⟨by rw [e.1]; exact h.1, by rw [e.2.1]; exact h.2.1, by rw [e.2.2.1]; exact h.2.2.1, by rw [e.2.2.2.1]; exact h.2.2.2.1, fun p hp => ?_⟩
  have h1 := h.2.2.2.2 p hp
  have h2 := e.2.2.2.2 p hp
  omega
theorem aS_tr {kn la : Nat → Int32} {sh lg pl ph : Nat → Int} {kn1 la1 : Nat → Int32} {sh1 lg1 pl1 ph1 : Nat → Int} {kn2 la2 : Nat → Int32} {sh2 lg2 pl2 ph2 : Nat → Int} {i k : Nat} (h : aS la sh lg pl ph i kn1 la1 sh1 lg1 pl1 ph1 k) (e : ¬ (kn1 k).toInt = 0 → aS la1 sh1 lg1 pl1 ph1 k kn2 la2 sh2 lg2 pl2 ph2 k) : aS la sh lg pl ph i kn2 la2 sh2 lg2 pl2 ph2 k := by
  have g := e h.1
  refine ⟨g.1, fun q hq => g.2.1 q (h.2.1 q hq), by have h1 := h.2.2.1; have h2 := g.2.2.1; omega, by have h1 := h.2.2.2.1; have h2 := g.2.2.2.1; omega, fun p hp => ?_⟩
  have h1 := h.2.2.2.2 p hp
  have h2 := g.2.2.2.2 p hp
  omega
def subC (le gr : Nat → Int) (si : Nat → Int64) (mn kn la : Nat → Int32) (sh lg pl ph le' gr' : Nat → Int) (si' : Nat → Int64) (mn' kn' la' : Nat → Int32) (sh' lg' pl' ph' : Nat → Int) : Prop := (∀ x : Nat, x < 6 → (le' x) ≤ (le x) ∧ (gr x) ≤ (gr' x)) ∧ (∀ r : Nat, r < 6 → (¬ (mn r).toInt = 0 → ¬ (mn' r).toInt = 0) ∧ ∀ i : Nat, sbit (si r) i → sbit (si' r) i) ∧ (∀ i : Nat, i < 40 → ¬ (kn i).toInt = 0 → aS la sh lg pl ph i kn' la' sh' lg' pl' ph' i)
theorem subC_rf {le gr : Nat → Int} {si : Nat → Int64} {mn kn la : Nat → Int32} {sh lg pl ph : Nat → Int} : subC le gr si mn kn la sh lg pl ph le gr si mn kn la sh lg pl ph := ⟨fun _ _ => ⟨Int.le_refl _, Int.le_refl _⟩, fun _ _ => ⟨fun h => h, fun _ h => h⟩, fun _ _ h => eqS_aS eqS_rf h⟩
theorem siC_aS {kn la : Nat → Int32} {sh lg pl ph : Nat → Int} {kn' la' : Nat → Int32} {sh' lg' pl' ph' : Nat → Int} {ln sz ce : Nat → Int32} {i : Nat} (hz : kR012 (sz i)) (h : siC kn la sh lg pl ph ln sz ce i) (ha : aS la sh lg pl ph i kn' la' sh' lg' pl' ph' i) : siC kn' la' sh' lg' pl' ph' ln sz ce i := by
  obtain ⟨h1, h2, h3, h4, h5⟩ := h
  obtain ⟨a1, a2, a3, a4, a5⟩ := ha
  refine ⟨a1, a2 _ h2, by omega, by omega, fun p hp => ?_⟩
  have b1 := h5 p hp
  have b2 := a5 p (by omega)
  omega
theorem inC_sub {isR isR' : Int32} {le gr : Nat → Int} {si : Nat → Int64} {mn kn la : Nat → Int32} {sh lg pl ph le' gr' : Nat → Int} {si' : Nat → Int64} {mn' kn' la' : Nat → Int32} {sh' lg' pl' ph' : Nat → Int} {v m ln sz ce : Nat → Int32} (hs : subC le gr si mn kn la sh lg pl ph le' gr' si' mn' kn' la' sh' lg' pl' ph') (hr : ¬ isR'.toInt = 0) (hw : wmS m ln sz) (h : inC isR le gr si mn kn la sh lg pl ph v m ln sz ce) : inC isR' le' gr' si' mn' kn' la' sh' lg' pl' ph' v m ln sz ce := by
  obtain ⟨-, h2, h3⟩ := h
  obtain ⟨s1, s2, s3⟩ := hs
  refine ⟨hr, fun x hx => ?_, fun r hr6 => ⟨fun hm => (s2 r hr6).1 ((h3 r hr6).1 hm), fun hm => ?_⟩⟩
  · have b1 := h2 x hx
    have b2 := s1 x hx
    omega
  · obtain ⟨c1, c2⟩ := (h3 r hr6).2 hm
    have b3 := hw.1 r
    have b4 := nn_cl hm
    exact ⟨(s2 r hr6).2 _ c1, siC_aS (hw.2.2 _) c2 (s3 _ (by omega) c2.1)⟩
theorem to_sub {le gr : Nat → Int} {si : Nat → Int64} {mn kn la : Nat → Int32} {sh lg pl ph le' gr' : Nat → Int} {si' : Nat → Int64} {mn' kn' la' : Nat → Int32} {sh' lg' pl' ph' : Nat → Int} (h1 : ∀ j : Nat, j < 6 → (le' j) = (le j)) (h2 : ∀ j : Nat, j < 6 → (gr' j) = (gr j)) (h3 : ∀ j : Nat, j < 6 → si' j = si j) (h4 : ∀ j : Nat, j < 6 → (mn' j).toInt = (mn j).toInt) (h5 : ∀ j : Nat, j < 40 → (kn' j).toInt = (kn j).toInt) (h6 : ∀ j : Nat, j < 40 → (la' j).toInt = (la j).toInt) (h7 : ∀ j : Nat, j < 40 → (sh' j) = (sh j)) (h8 : ∀ j : Nat, j < 40 → (lg' j) = (lg j)) (h9 : ∀ j : Nat, j < 480 → (pl' j) = (pl j)) (h10 : ∀ j : Nat, j < 480 → (ph' j) = (ph j)) : subC le gr si mn kn la sh lg pl ph le' gr' si' mn' kn' la' sh' lg' pl' ph' := by
  refine ⟨fun x hx => ?_, fun r hr => ⟨fun h => ?_, fun i h => ?_⟩, fun i hi hk => eqS_aS (kn := kn) ⟨h5 i hi, h6 i hi, h7 i hi, h8 i hi, fun p hp => ⟨h9 _ (by omega), h10 _ (by omega)⟩⟩ hk⟩
  · have a := h1 x hx
    have b := h2 x hx
    omega
  · rw [h4 r hr]; exact h
  · rw [h3 r hr]; exact h
theorem aS_pre {kn la : Nat → Int32} {sh lg pl ph : Nat → Int} {kn1 la1 : Nat → Int32} {sh1 lg1 pl1 ph1 : Nat → Int} {kn2 la2 : Nat → Int32} {sh2 lg2 pl2 ph2 : Nat → Int} {k i : Nat} (e : eqS kn la sh lg pl ph kn1 la1 sh1 lg1 pl1 ph1 k) (h : aS la1 sh1 lg1 pl1 ph1 k kn2 la2 sh2 lg2 pl2 ph2 i) : aS la sh lg pl ph k kn2 la2 sh2 lg2 pl2 ph2 i := by
  refine ⟨h.1, fun q hq => h.2.1 q (lb_eq e.2.1.symm hq), by have h1 := h.2.2.1; have h2 := e.2.2.1; omega, by have h1 := h.2.2.2.1; have h2 := e.2.2.2.1; omega, fun p hp => ?_⟩
  have h1 := h.2.2.2.2 p hp
  have h2 := e.2.2.2.2 p hp
  omega
theorem so_in {f f' g g' : Nat → Int32} {k : Nat} {lo hi : Int64} {v w : Int32} (h1 : -2147483648 ≤ lo.toInt) (h2 : hi.toInt ≤ 2147483647) (ev : v = lo.toInt32) (ew : w = hi.toInt32) (hf : upI f k v.toInt f') (hg : upI g k w.toInt g') :
    hi.toInt < lo.toInt ∨ (-2147483648 ≤ lo.toInt ∧ hi.toInt ≤ 2147483647 ∧ upI f k lo.toInt f' ∧ upI g k hi.toInt g') ∨ (upI f k (-2147483648) f' ∧ upI g k 2147483647 g') := by
  by_cases hq : hi.toInt < lo.toInt
  · exact Or.inl hq
  · have b1 : v.toInt = lo.toInt := by rw [ev, Int64.toInt_toInt32, bm32 (by omega)]
    have b2 : w.toInt = hi.toInt := by rw [ew, Int64.toInt_toInt32, bm32 (by omega)]
    rw [b1] at hf
    rw [b2] at hg
    exact Or.inr (Or.inl ⟨h1, h2, hf, hg⟩)
