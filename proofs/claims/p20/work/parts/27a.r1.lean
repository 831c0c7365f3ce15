/-! the reference: bits by arithmetic shifts, its RUN and its FACTS on their way -/
abbrev lGE (x : Int64) : Prop := -2147483648 ≤ x.toInt
abbrev lLE (x : Int64) : Prop := x.toInt ≤ 2147483647
theorem sb_shr {la v w : Int64} {ia : Int32} (hi : 0 ≤ ia.toInt ∧ ia.toInt ≤ 39) (ev : v = la >>> (ia.toInt64 &&& 63)) (ew : w = v &&& 1) : (w.toInt = 1 ∧ sbit la ia.toNatClampNeg) ∨ (w.toInt = 0 ∧ ¬ sbit la ia.toNatClampNeg) := by
  obtain ⟨n, hn, hn2, rfl⟩ := i_nI hi
  rw [nI_clamp hn2]
  rw [wb_c n (by omega)] at ev
  have hb : w.toBitVec.getLsbD 0 = la.toBitVec.getLsbD n := by
    rw [ew, Int64.toBitVec_and, BitVec.getLsbD_and, show (1 : Int64).toBitVec.getLsbD 0 = true from by decide, Bool.and_true, ev, Int64.toBitVec_shiftRight]
    show (la.toBitVec.sshiftRight ((lN n).toBitVec.smod 64).toNat).getLsbD 0 = _
    rw [wb_tb, wb_sm n (by omega), BitVec.toNat_ofNat, Nat.mod_eq_of_lt (by omega), BitVec.getLsbD_sshiftRight, if_pos (by omega)]
    simp
  unfold sbit
  rcases l_and1 v with h | h
  · rw [← ew] at h
    rw [h, show (0 : Int64).toBitVec.getLsbD 0 = false from by decide] at hb
    exact Or.inr ⟨by rw [h]; decide, by rw [← hb]; decide⟩
  · rw [← ew] at h
    rw [h, show (1 : Int64).toBitVec.getLsbD 0 = true from by decide] at hb
    exact Or.inl ⟨by rw [h]; decide, hb.symm⟩
theorem lb_shr {x l v w : Int32} (hl : 0 ≤ l.toInt ∧ l.toInt ≤ 31) (ev : v = x >>> (l &&& 31)) (ew : w = v &&& 1) : (w.toInt = 1 ∧ lbit x l.toNatClampNeg) ∨ (w.toInt = 0 ∧ ¬ lbit x l.toNatClampNeg) := by
  obtain ⟨n, hn, hn2, rfl⟩ := i_nI hl
  rw [nI_clamp hn2]
  have hb : bt w 0 = bt x n := by
    rw [ew, b_and, ev, b_sshr n (by omega) x (by omega), show bt 1 0 = true from by decide, Bool.and_true, Nat.add_zero, if_pos (by omega)]
  unfold lbit
  rcases i_and1 v with h | h
  · rw [← ew] at h
    rw [h, b_0] at hb
    refine Or.inr ⟨by rw [h]; decide, ?_⟩
    rw [← hb]; decide
  · rw [← ew] at h
    rw [h, show bt 1 0 = true from by decide] at hb
    exact Or.inl ⟨by rw [h]; decide, hb.symm⟩
theorem cast_aE {n r : Int32} (e : r = n &&& 65535) : 0 ≤ r.toInt ∧ r.toInt ≤ 65535 ∧ (0 ≤ n.toInt ∧ n.toInt ≤ 65535 → r.toInt = n.toInt) := cast_cE (by
  rw [e]
  apply Int32.toBitVec_inj.1
  show n.toBitVec &&& 65535#32 = n.toBitVec % 65536#32
  apply BitVec.eq_of_toNat_eq
  rw [BitVec.toNat_and, BitVec.toNat_umod]
  show n.toBitVec.toNat &&& 65535 = n.toBitVec.toNat % 65536
  rw [show (65535 : Nat) = 2 ^ 16 - 1 from by decide, Nat.and_two_pow_sub_one_eq_mod])
theorem and_1 {a : Int32} (ha : kZ a) : (a &&& 1).toInt = a.toInt := by rcases ha with rfl | rfl <;> decide
theorem and_0i {a : Int32} (ha : kZ a) : (a &&& 0).toInt = 0 := by rcases ha with rfl | rfl <;> decide
theorem or_1 {a : Int32} (ha : kZ a) : ¬ (a ||| 1).toInt = 0 := by rcases ha with rfl | rfl <;> decide
theorem or01 {a b : Int32} (ha : kZ a) (hb : kZ b) : kZ (a ||| b) := by
  rcases ha with rfl | rfl <;> rcases hb with rfl | rfl
  · exact Or.inl (by decide)
  · exact Or.inr (by decide)
  · exact Or.inr (by decide)
  · exact Or.inr (by decide)
theorem or_nz {a b w : Int32} (ha : kZ a) (hb : kZ b) (e : w = a ||| b) (h : ¬ a.toInt = 0 ∨ ¬ b.toInt = 0) : ¬ w.toInt = 0 := by
  subst e
  rcases ha with rfl | rfl <;> rcases hb with rfl | rfl <;> first | decide | (exfalso; revert h; decide)
/-- the machine's REFERENCES ahead of ACT i: SITES before it -/
abbrev mlt (i : Nat) (m : Nat → Int32) : Prop := ∀ r : Nat, r < 6 → (m r).toInt < i
def PsR (n : Nat) (isR : Int32) (le gr : Nat → Int) (si : Nat → Int64) (mn kn la : Nat → Int32) (sh lg pl ph : Nat → Int) (isR' : Int32) (le' gr' : Nat → Int) (si' : Nat → Int64) (mn' kn' la' : Nat → Int32) (sh' lg' pl' ph' : Nat → Int) (i : Nat) (a b c d e : Int32) (may : Int32) : Prop :=
  ∀ v m ln sz ce : Nat → Int32, wmS m ln sz → mlt i m → inC isR le gr si mn kn la sh lg pl ph v m ln sz ce →
    (∀ v' m' ln' sz' ce' : Nat → Int32, wmS m' ln' sz' → AnK i a b c d e v m ln sz ce v' m' ln' sz' ce' n → inC isR' le' gr' si' mn' kn' la' sh' lg' pl' ph' v' m' ln' sz' ce') ∧ (∀ t : Int32, AtK a b c d e v m ln sz t n → lbit may t.toNatClampNeg)
section
variable {isR isR' : Int32} {le gr : Nat → Int} {si : Nat → Int64} {mn kn la : Nat → Int32} {sh lg pl ph le' gr' : Nat → Int} {si' : Nat → Int64} {mn' kn' la' : Nat → Int32} {sh' lg' pl' ph' : Nat → Int} {i n : Nat} {a b c d e may : Int32}
theorem ps_R (h : PsK n isR le gr si mn kn la sh lg pl ph isR' le' gr' si' mn' kn' la' sh' lg' pl' ph' i a b c d e may) : PsR n isR le gr si mn kn la sh lg pl ph isR' le' gr' si' mn' kn' la' sh' lg' pl' ph' i a b c d e may := fun v m ln sz ce hw _ hi => h v m ln sz ce hw hi
/-- a RUN there is: no SPAN is beyond the ints -/
theorem ps_if (h : (∀ x : Nat, x < 6 → le x ≤ 2147483647 ∧ -2147483648 ≤ gr x) → PsR n isR le gr si mn kn la sh lg pl ph isR' le' gr' si' mn' kn' la' sh' lg' pl' ph' i a b c d e may) : PsR n isR le gr si mn kn la sh lg pl ph isR' le' gr' si' mn' kn' la' sh' lg' pl' ph' i a b c d e may := fun v m ln sz ce hw hlt hi => h (fun x hx => by
  have b0 := hi.2.1 x hx
  have b1 := i32r (v x)
  omega) v m ln sz ce hw hlt hi
end
section
variable (ki pa pb pc pd pe dr : Nat → Int32)
/-- one turn at ACT i: u is where the ACTS of a MAYBE end, dg whether they are done -/
def RrS (i : Nat) (u : Int) (dg : Int32) (v m ln sz ce : Nat → Int32) (u' : Int) (dg' : Int32) (v' m' ln' sz' ce' : Nat → Int32) : Prop :=
  (((i : Int) < u ∧ dg.toInt = 0) ∧ u' = u ∧ dg' = dg ∧ v' = v ∧ m' = m ∧ ln' = ln ∧ sz' = sz ∧ ce' = ce) ∨
  (¬ ((i : Int) < u ∧ dg.toInt = 0) ∧ (¬ (dr i).toInt = 0 ∨ ((ki i).toInt = 14 ∧ (i : Int) < u)) ∧ u' = u ∧ dg' = dg ∧ v' = v ∧ m' = m ∧ ln' = ln ∧ sz' = sz ∧ ce' = ce) ∨
  ((dr i).toInt = 0 ∧ (ki i).toInt = 14 ∧ u ≤ i ∧ u' = i + (pb i).toInt + 1 ∧ v' = v ∧ m' = m ∧ ln' = ln ∧ sz' = sz ∧ ce' = ce) ∨
  (¬ ((i : Int) < u ∧ dg.toInt = 0) ∧ (dr i).toInt = 0 ∧ ¬ (ki i).toInt = 14 ∧ u' = u ∧ dg' = dg ∧ ActN i (ki i) (pa i) (pb i) (pc i) (pd i) (pe i) v m ln sz ce v' m' ln' sz' ce')
def Rr : Nat → Int → Int32 → (Nat → Int32) → (Nat → Int32) → (Nat → Int32) → (Nat → Int32) → (Nat → Int32) → Prop
  | 0, u, _, v, m, ln, sz, _ => u = 0 ∧ wmS m ln sz ∧ (∀ x : Nat, x < 6 → (v x).toInt = 0) ∧ (∀ r : Nat, r < 6 → (m r).toInt = -1)
  | i + 1, u', dg', v', m', ln', sz', ce' => wmS m' ln' sz' ∧ mlt (i + 1) m' ∧ ∃ (u : Int) (dg : Int32) (v m ln sz ce : Nat → Int32), Rr i u dg v m ln sz ce ∧ RrS ki pa pb pc pd pe dr i u dg v m ln sz ce u' dg' v' m' ln' sz' ce'
def Tr (i : Nat) (t : Int32) : Prop := ∃ (u : Int) (dg : Int32) (v m ln sz ce : Nat → Int32), Rr ki pa pb pc pd pe dr i u dg v m ln sz ce ∧ ¬ ((i : Int) < u ∧ dg.toInt = 0) ∧ (dr i).toInt = 0 ∧ ¬ (ki i).toInt = 14 ∧ ActT (ki i) (pa i) (pb i) (pc i) (pd i) (pe i) v m ln sz t
def FrT (rc mt : Nat → Int32) (n : Nat) : Prop := ∀ j : Nat, j < n → ∀ t : Int32, Tr ki pa pb pc pd pe dr j t → ¬ (rc j).toInt = 0 ∧ lbit (mt j) t.toNatClampNeg
variable (i : Nat) (E ac : Int) (isR : Int32) (le gr : Nat → Int) (si : Nat → Int64) (mn kn la : Nat → Int32) (sh lg pl ph : Nat → Int) (isR2 : Int32) (le2 gr2 : Nat → Int) (si2 : Nat → Int64) (mn2 kn2 la2 : Nat → Int32) (sh2 lg2 pl2 ph2 : Nat → Int) (rc mt : Nat → Int32)
def FrI : Prop := (∀ (u : Int) (dg : Int32) (v m ln sz ce : Nat → Int32), Rr ki pa pb pc pd pe dr i u dg v m ln sz ce → (E < 0 → u ≤ i ∧ inC isR le gr si mn kn la sh lg pl ph v m ln sz ce) ∧ (0 ≤ E → (i : Int) ≤ E ∧ (E = u ∨ (E = ac ∧ ac ≤ u)) ∧ (¬ dg.toInt = 0 → inC isR le gr si mn kn la sh lg pl ph v m ln sz ce) ∧ (dg.toInt = 0 → inC isR2 le2 gr2 si2 mn2 kn2 la2 sh2 lg2 pl2 ph2 v m ln sz ce))) ∧ FrT ki pa pb pc pd pe dr rc mt i
def SdR (n : Nat) : Prop := (∀ (u : Int) (dg : Int32) (v m ln sz ce : Nat → Int32), Rr ki pa pb pc pd pe dr n u dg v m ln sz ce → inC isR le gr si mn kn la sh lg pl ph v m ln sz ce) ∧ FrT ki pa pb pc pd pe dr rc mt n
end
section
variable {ki pa pb pc pd pe dr : Nat → Int32} {i i' : Nat} {u u' : Int} {dg dg' : Int32} {v m ln sz ce v' m' ln' sz' ce' : Nat → Int32}
theorem Rr_wm (h : Rr ki pa pb pc pd pe dr i u dg v m ln sz ce) : wmS m ln sz := by
  cases i with
  | zero => exact h.2.1
  | succ i => exact h.1
theorem Rr_ml (h : Rr ki pa pb pc pd pe dr i u dg v m ln sz ce) : mlt i m := by
  cases i with
  | zero => exact fun r hr => by rw [h.2.2.2 r hr]; decide
  | succ i => exact h.2.1
theorem mlt_s (h : mlt i m) : mlt (i + 1) m := fun r hr => by
  have := h r hr
  omega
theorem act_ml {k a b c d e : Int32} (hok : okP k a b c d e) (h : ActN i k a b c d e v m ln sz ce v' m' ln' sz' ce') (hl : mlt i m) : mlt (i + 1) m' := by
  have hk := okP_rn hok
  have key : ∀ r : Nat, r < 6 → (m' r).toInt ≤ i := by
    intro r hr
    have old := hl r hr
    unfold ActN at h
    rcases hok with h0 | h0 | h0 | h0 | h0 | h0 | h0 | h0 | h0 | h0 | h0 | h0 | h0 | h0 | h0
    · rw [show k.toInt.toNat = 0 from by have hk0 := h0.1; omega] at h; simp only [AnK] at h; have b := h.2.1 r; omega
    · rw [show k.toInt.toNat = 1 from by have hk0 := h0.1; omega] at h; simp only [AnK] at h; have b := h.2.1 r; omega
    · rw [show k.toInt.toNat = 2 from by have hk0 := h0.1; omega] at h; simp only [AnK] at h; have b := h.2.1 r; omega
    · rw [show k.toInt.toNat = 3 from by have hk0 := h0.1; omega] at h; simp only [AnK] at h; have b := h.2.1 r; omega
    · rw [show k.toInt.toNat = 4 from by have hk0 := h0.1; omega] at h; simp only [AnK] at h; have b := h.2.2.1 r; omega
    · rw [show k.toInt.toNat = 5 from by have hk0 := h0.1; omega] at h; simp only [AnK] at h; have b := h.2.1 r; omega
    · rw [show k.toInt.toNat = 6 from by have hk0 := h0.1; omega] at h; simp only [AnK] at h; have b := h.2.1 r; have b2 := hl _ (v6_cl h0.2.2); omega
    · rw [show k.toInt.toNat = 7 from by have hk0 := h0.1; omega] at h; simp only [AnK] at h; have b2 := hl _ (v6_cl h0.2.2.1); have b3 := hl _ (v6_cl h0.2.2.2); rcases h.2.1 with q | q <;> (have b := q r; omega)
    · rw [show k.toInt.toNat = 8 from by have hk0 := h0.1; omega] at h; simp only [AnK] at h; have b := h.2.2.1 r; omega
    · rw [show k.toInt.toNat = 9 from by have hk0 := h0.1; omega] at h; simp only [AnK] at h; have b := h.2.2.1 r; omega
    · rw [show k.toInt.toNat = 10 from by have hk0 := h0.1; omega] at h; simp only [AnK] at h; have b := h.2.2.1 r; omega
    · rw [show k.toInt.toNat = 11 from by have hk0 := h0.1; omega] at h; simp only [AnK] at h; have b := h.2.2.1 r; omega
    · rw [show k.toInt.toNat = 12 from by have hk0 := h0.1; omega] at h; simp only [AnK] at h; have b := h.2.1 r; omega
    · rw [show k.toInt.toNat = 13 from by have hk0 := h0.1; omega] at h; simp only [AnK] at h; have b := h.2.2.1 r; omega
    · rw [show k.toInt.toNat = 14 from by have hk0 := h0.1; omega] at h; simp only [AnK] at h; have b := h.2.1 r; omega
  exact fun r hr => by
    have := key r hr
    omega
end
section
variable {ki pa pb pc pd pe dr : Nat → Int32} {i i' j : Nat} {u u' : Int} {dg dg' : Int32} {v m ln sz ce v' m' ln' sz' ce' : Nat → Int32}
theorem Rr_0 (hi : i = 0) (hu : u = 0) (hw : wmS m ln sz) (h1 : ∀ x : Nat, x < 6 → (v x).toInt = 0) (h2 : ∀ r : Nat, r < 6 → (m r).toInt = -1) : Rr ki pa pb pc pd pe dr i u dg v m ln sz ce := by
  subst hi
  exact ⟨hu, hw, h1, h2⟩
theorem Rr_keep (hi : i' = i + 1) (h : Rr ki pa pb pc pd pe dr i u dg v m ln sz ce) (hn : u ≤ i ∨ ¬ dg.toInt = 0) (hk : ¬ (dr i).toInt = 0 ∨ ((ki i).toInt = 14 ∧ (i : Int) < u)) : Rr ki pa pb pc pd pe dr i' u dg v m ln sz ce := by
  subst hi
  exact ⟨Rr_wm h, mlt_s (Rr_ml h), u, dg, v, m, ln, sz, ce, h, Or.inr (Or.inl ⟨fun q => by rcases hn with hn | hn; (· omega); (· exact hn q.2), hk, rfl, rfl, rfl, rfl, rfl, rfl, rfl⟩)⟩
theorem Rr_maybe (hi : i' = i + 1) (h : Rr ki pa pb pc pd pe dr i u dg v m ln sz ce) (hd : (dr i).toInt = 0) (hk : (ki i).toInt = 14) (hu : u ≤ i) (hu' : u' = i + (pb i).toInt + 1) : Rr ki pa pb pc pd pe dr i' u' dg' v m ln sz ce := by
  subst hi
  exact ⟨Rr_wm h, mlt_s (Rr_ml h), u, dg, v, m, ln, sz, ce, h, Or.inr (Or.inr (Or.inl ⟨hd, hk, hu, hu', rfl, rfl, rfl, rfl, rfl⟩))⟩
theorem Rr_act (hi : i' = i + 1) (h : Rr ki pa pb pc pd pe dr i u dg v m ln sz ce) (hn : u ≤ i ∨ ¬ dg.toInt = 0) (hd : (dr i).toInt = 0) (hk : ¬ (ki i).toInt = 14) (hok : okP (ki i) (pa i) (pb i) (pc i) (pd i) (pe i)) (hA : ActN i (ki i) (pa i) (pb i) (pc i) (pd i) (pe i) v m ln sz ce v' m' ln' sz' ce') (hw : wmS m' ln' sz') : Rr ki pa pb pc pd pe dr i' u dg v' m' ln' sz' ce' := by
  subst hi
  exact ⟨hw, act_ml hok hA (Rr_ml h), u, dg, v, m, ln, sz, ce, h, Or.inr (Or.inr (Or.inr ⟨fun q => by rcases hn with hn | hn; (· omega); (· exact hn q.2), hd, hk, rfl, rfl, hA⟩))⟩
/-- the ACTS of a MAYBE that are not done -/
theorem Rr_over (h : Rr ki pa pb pc pd pe dr i u dg v m ln sz ce) (hz : dg.toInt = 0) (k : Nat) (hk : (i : Int) + k ≤ u) : Rr ki pa pb pc pd pe dr (i + k) u dg v m ln sz ce := by
  induction k with
  | zero => exact h
  | succ k ih =>
    have h1 := ih (by omega)
    exact ⟨Rr_wm h1, mlt_s (Rr_ml h1), u, dg, v, m, ln, sz, ce, h1, Or.inl ⟨⟨by show ((i + k : Nat) : Int) < u; omega, hz⟩, rfl, rfl, rfl, rfl, rfl, rfl, rfl⟩⟩
theorem Tr_rng {t : Int32} (h : Tr ki pa pb pc pd pe dr i t) : 1 ≤ t.toInt ∧ t.toInt ≤ 7 := by
  obtain ⟨u, dg, v, m, ln, sz, ce, -, -, -, -, h⟩ := h
  exact AtK_rng _ h
end
section
variable {ki pa pb pc pd pe dr : Nat → Int32} {i i' : Nat} {E E' ac : Int} {isR : Int32} {le gr : Nat → Int} {si : Nat → Int64} {mn kn la : Nat → Int32} {sh lg pl ph : Nat → Int} {isR2 : Int32} {le2 gr2 : Nat → Int} {si2 : Nat → Int64} {mn2 kn2 la2 : Nat → Int32} {sh2 lg2 pl2 ph2 : Nat → Int} {isR3 : Int32} {le3 gr3 : Nat → Int} {si3 : Nat → Int64} {mn3 kn3 la3 : Nat → Int32} {sh3 lg3 pl3 ph3 : Nat → Int} {isR4 : Int32} {le4 gr4 : Nat → Int} {si4 : Nat → Int64} {mn4 kn4 la4 : Nat → Int32} {sh4 lg4 pl4 ph4 : Nat → Int} {rc mt rc' mt' : Nat → Int32}
theorem FrT_eq {n : Nat} (h : FrT ki pa pb pc pd pe dr rc mt n) (h1 : ∀ j : Nat, j < n → (rc' j).toInt = (rc j).toInt) (h2 : ∀ j : Nat, j < n → (mt' j).toInt = (mt j).toInt) : FrT ki pa pb pc pd pe dr rc' mt' n := fun j hj t ht => by
  have b := h j hj t ht
  exact ⟨by rw [h1 j hj]; exact b.1, lb_eq (h2 j hj).symm b.2⟩
theorem FrT_s (hn : i' = i + 1) (h : FrT ki pa pb pc pd pe dr rc mt i) (h1 : ∀ j : Nat, j < i → (rc' j).toInt = (rc j).toInt) (h2 : ∀ j : Nat, j < i → (mt' j).toInt = (mt j).toInt) (h3 : ∀ t : Int32, Tr ki pa pb pc pd pe dr i t → ¬ (rc' i).toInt = 0 ∧ lbit (mt' i) t.toNatClampNeg) : FrT ki pa pb pc pd pe dr rc' mt' i' := fun j hj t ht => by
  by_cases q : j = i
  · subst q; exact h3 t ht
  · exact FrT_eq h h1 h2 j (by omega) t ht
theorem Fr_0 (hi : i = 0) (hE : E < 0) (hR : isR.toInt = 1) (h1 : ∀ j : Nat, j < 6 → le j = 0) (h2 : ∀ j : Nat, j < 6 → gr j = 0) (h3 : ∀ j : Nat, j < 6 → (mn j).toInt = 1) : FrI ki pa pb pc pd pe dr i E ac isR le gr si mn kn la sh lg pl ph isR2 le2 gr2 si2 mn2 kn2 la2 sh2 lg2 pl2 ph2 rc mt := by
  subst hi
  refine ⟨fun u d v m ln sz ce hr => ⟨fun _ => ⟨by have := hr.1; omega, by omega, fun x hx => ?_, fun r hr6 => ⟨fun _ => by rw [h3 r hr6]; decide, fun hm => ?_⟩⟩, fun q => by omega⟩, fun j hj => by omega⟩
  · have b1 := hr.2.2.1 x hx
    have b2 := h1 x hx
    have b3 := h2 x hx
    omega
  · have b1 := hr.2.2.2 r hr6
    omega
/-- the ACTS of a MAYBE end -/
theorem Fr_join (h : FrI ki pa pb pc pd pe dr i E ac isR le gr si mn kn la sh lg pl ph isR2 le2 gr2 si2 mn2 kn2 la2 sh2 lg2 pl2 ph2 rc mt) (hE : (i : Int) = E) (hi : (i : Int) < ac) (hE' : E' < 0)
    (h1 : ∀ v m ln sz ce : Nat → Int32, wmS m ln sz → inC isR le gr si mn kn la sh lg pl ph v m ln sz ce → inC isR4 le4 gr4 si4 mn4 kn4 la4 sh4 lg4 pl4 ph4 v m ln sz ce) (h2 : ∀ v m ln sz ce : Nat → Int32, wmS m ln sz → inC isR2 le2 gr2 si2 mn2 kn2 la2 sh2 lg2 pl2 ph2 v m ln sz ce → inC isR4 le4 gr4 si4 mn4 kn4 la4 sh4 lg4 pl4 ph4 v m ln sz ce) : FrI ki pa pb pc pd pe dr i E' ac isR4 le4 gr4 si4 mn4 kn4 la4 sh4 lg4 pl4 ph4 isR3 le3 gr3 si3 mn3 kn3 la3 sh3 lg3 pl3 ph3 rc mt := by
  refine ⟨fun u d v m ln sz ce hr => ⟨fun _ => ?_, fun q => by omega⟩, h.2⟩
  obtain ⟨-, b1, b2, b3⟩ := (h.1 _ _ _ _ _ _ _ hr).2 (by omega)
  refine ⟨by omega, ?_⟩
  by_cases q : d.toInt = 0
  · exact h2 _ _ _ _ _ (Rr_wm hr) (b3 q)
  · exact h1 _ _ _ _ _ (Rr_wm hr) (b2 q)
/-- a dropped ACT, or a MAYBE among another's ACTS -/
theorem Fr_keep (hi : i' = i + 1) (h : FrI ki pa pb pc pd pe dr i E ac isR le gr si mn kn la sh lg pl ph isR2 le2 gr2 si2 mn2 kn2 la2 sh2 lg2 pl2 ph2 rc mt) (hE : E < 0 ∨ (i : Int) < E) (hk : ¬ (dr i).toInt = 0 ∨ ((ki i).toInt = 14 ∧ 0 ≤ E)) (hac : (i : Int) < ac) (h1 : ∀ j : Nat, j < i → (rc' j).toInt = (rc j).toInt) (h2 : ∀ j : Nat, j < i → (mt' j).toInt = (mt j).toInt) : FrI ki pa pb pc pd pe dr i' E ac isR le gr si mn kn la sh lg pl ph isR2 le2 gr2 si2 mn2 kn2 la2 sh2 lg2 pl2 ph2 rc' mt' := by
  refine ⟨fun u d v m ln sz ce hr => ?_, FrT_s hi h.2 h1 h2 (fun t ht => ?_)⟩
  · subst hi
    obtain ⟨-, -, u0, d0, v0, m0, ln0, sz0, ce0, hr0, hs⟩ := hr
    obtain ⟨c1, c2⟩ := h.1 _ _ _ _ _ _ _ hr0
    rcases hs with ⟨-, rfl, rfl, rfl, rfl, rfl, rfl, rfl⟩ | ⟨-, -, rfl, rfl, rfl, rfl, rfl, rfl, rfl⟩ | ⟨q1, q2, q3, -⟩ | ⟨-, q1, q2, -⟩
    · exact ⟨fun q => ⟨by have := (c1 q).1; omega, (c1 q).2⟩, fun q => ⟨by omega, (c2 q).2⟩⟩
    · exact ⟨fun q => ⟨by have := (c1 q).1; omega, (c1 q).2⟩, fun q => ⟨by omega, (c2 q).2⟩⟩
    · exfalso
      rcases hk with hk | hk
      · exact hk q1
      · have b := (c2 hk.2).2.1
        omega
    · exfalso
      rcases hk with hk | hk
      · exact hk q1
      · exact q2 hk.1
  · obtain ⟨u0, d0, v0, m0, ln0, sz0, ce0, hr0, -, q1, q2, -⟩ := ht
    rcases hk with hk | hk
    · exact absurd q1 hk
    · exact absurd hk.1 q2
theorem Fr_maybe (hi : i' = i + 1) (h : FrI ki pa pb pc pd pe dr i E ac isR le gr si mn kn la sh lg pl ph isR2 le2 gr2 si2 mn2 kn2 la2 sh2 lg2 pl2 ph2 rc mt) (hE : E < 0) (hd : (dr i).toInt = 0) (hk : (ki i).toInt = 14) (hE' : E' = i + (pb i).toInt + 1 ∨ (E' = ac ∧ ac ≤ i + (pb i).toInt + 1)) (hE2 : (i : Int) < E')
    (hs : ∀ v m ln sz ce : Nat → Int32, wmS m ln sz → inC isR le gr si mn kn la sh lg pl ph v m ln sz ce → inC isR3 le3 gr3 si3 mn3 kn3 la3 sh3 lg3 pl3 ph3 v m ln sz ce ∧ inC isR4 le4 gr4 si4 mn4 kn4 la4 sh4 lg4 pl4 ph4 v m ln sz ce) (h1 : ∀ j : Nat, j < i → (rc' j).toInt = (rc j).toInt) (h2 : ∀ j : Nat, j < i → (mt' j).toInt = (mt j).toInt) : FrI ki pa pb pc pd pe dr i' E' ac isR3 le3 gr3 si3 mn3 kn3 la3 sh3 lg3 pl3 ph3 isR4 le4 gr4 si4 mn4 kn4 la4 sh4 lg4 pl4 ph4 rc' mt' := by
  refine ⟨fun u d v m ln sz ce hr => ?_, FrT_s hi h.2 h1 h2 (fun t ht => ?_)⟩
  · subst hi
    obtain ⟨-, -, u0, d0, v0, m0, ln0, sz0, ce0, hr0, hss⟩ := hr
    obtain ⟨c1, c2⟩ := (h.1 _ _ _ _ _ _ _ hr0).1 hE
    rcases hss with ⟨q1, -⟩ | ⟨-, q1, -⟩ | ⟨-, -, -, q3, rfl, rfl, rfl, rfl, rfl⟩ | ⟨-, -, q2, -⟩
    · omega
    · rcases q1 with q1 | q1
      · exact absurd hd q1
      · omega
    · have b := hs _ _ _ _ _ (Rr_wm hr0) c2
      exact ⟨fun q => by omega, fun _ => ⟨by omega, by omega, fun _ => b.1, fun _ => b.2⟩⟩
    · exact absurd hk q2
  · obtain ⟨u0, d0, v0, m0, ln0, sz0, ce0, hr0, -, -, q2, -⟩ := ht
    exact absurd hk q2
theorem Fr_pass {may : Int32} (hi : i' = i + 1) (h : FrI ki pa pb pc pd pe dr i E ac isR le gr si mn kn la sh lg pl ph isR2 le2 gr2 si2 mn2 kn2 la2 sh2 lg2 pl2 ph2 rc mt) (hE : E < 0 ∨ (i : Int) < E) (hd : (dr i).toInt = 0) (hk : ¬ (ki i).toInt = 14)
    (hp : ¬ isR.toInt = 0 → PsR (ki i).toInt.toNat isR le gr si mn kn la sh lg pl ph isR3 le3 gr3 si3 mn3 kn3 la3 sh3 lg3 pl3 ph3 i (pa i) (pb i) (pc i) (pd i) (pe i) may)
    (h4 : ∀ v m ln sz ce : Nat → Int32, wmS m ln sz → inC isR2 le2 gr2 si2 mn2 kn2 la2 sh2 lg2 pl2 ph2 v m ln sz ce → inC isR4 le4 gr4 si4 mn4 kn4 la4 sh4 lg4 pl4 ph4 v m ln sz ce)
    (hrc : ¬ isR.toInt = 0 → ¬ (rc' i).toInt = 0 ∧ (mt' i).toInt = may.toInt) (h1 : ∀ j : Nat, j < i → (rc' j).toInt = (rc j).toInt) (h2 : ∀ j : Nat, j < i → (mt' j).toInt = (mt j).toInt) : FrI ki pa pb pc pd pe dr i' E ac isR3 le3 gr3 si3 mn3 kn3 la3 sh3 lg3 pl3 ph3 isR4 le4 gr4 si4 mn4 kn4 la4 sh4 lg4 pl4 ph4 rc' mt' := by
  refine ⟨fun u d v m ln sz ce hr => ?_, FrT_s hi h.2 h1 h2 (fun t ht => ?_)⟩
  · subst hi
    obtain ⟨hw, -, u0, d0, v0, m0, ln0, sz0, ce0, hr0, hss⟩ := hr
    obtain ⟨c1, c2⟩ := h.1 _ _ _ _ _ _ _ hr0
    rcases hss with ⟨q1, rfl, rfl, rfl, rfl, rfl, rfl, rfl⟩ | ⟨-, q1, -⟩ | ⟨-, q1, -⟩ | ⟨q0, -, -, rfl, rfl, q5⟩
    · exact ⟨fun q => by have := (c1 q).1; omega, fun q => ⟨by omega, (c2 q).2.1, fun q2 => absurd q1.2 q2, fun q2 => h4 _ _ _ _ _ hw ((c2 q).2.2.2 q2)⟩⟩
    · rcases q1 with q1 | q1
      · exact absurd hd q1
      · exact absurd q1.1 hk
    · exact absurd q1 hk
    · have hin : inC isR le gr si mn kn la sh lg pl ph v0 m0 ln0 sz0 ce0 := by
        by_cases q : E < 0
        · exact (c1 q).2
        · obtain ⟨b1, b2, b3, b4⟩ := c2 (by omega)
          exact b3 (fun z => q0 ⟨by omega, z⟩)
      have b := (hp hin.1 _ _ _ _ _ (Rr_wm hr0) (Rr_ml hr0) hin).1 _ _ _ _ _ hw q5
      exact ⟨fun q => ⟨by have := (c1 q).1; omega, b⟩, fun q => ⟨by omega, (c2 q).2.1, fun _ => b, fun q2 => by
        obtain ⟨b1, b2, b3, b4⟩ := c2 q
        exact absurd ⟨by omega, q2⟩ q0⟩⟩
  · obtain ⟨u0, d0, v0, m0, ln0, sz0, ce0, hr0, q0, -, -, ht⟩ := ht
    obtain ⟨c1, c2⟩ := h.1 _ _ _ _ _ _ _ hr0
    have hin : inC isR le gr si mn kn la sh lg pl ph v0 m0 ln0 sz0 ce0 := by
      by_cases q : E < 0
      · exact (c1 q).2
      · obtain ⟨b1, b2, b3, b4⟩ := c2 (by omega)
        exact b3 (fun z => q0 ⟨by omega, z⟩)
    have c3 := hrc hin.1
    exact ⟨c3.1, lb_eq c3.2.symm ((hp hin.1 _ _ _ _ _ (Rr_wm hr0) (Rr_ml hr0) hin).2 t ht)⟩
theorem Fr_end0 (h : FrI ki pa pb pc pd pe dr i E ac isR le gr si mn kn la sh lg pl ph isR2 le2 gr2 si2 mn2 kn2 la2 sh2 lg2 pl2 ph2 rc mt) (hE : E < 0) : SdR ki pa pb pc pd pe dr isR le gr si mn kn la sh lg pl ph rc mt i := ⟨fun u d v m ln sz ce hr => ((h.1 _ _ _ _ _ _ _ hr).1 hE).2, h.2⟩
theorem Fr_end1 (h : FrI ki pa pb pc pd pe dr i E ac isR le gr si mn kn la sh lg pl ph isR2 le2 gr2 si2 mn2 kn2 la2 sh2 lg2 pl2 ph2 rc mt) (hE : 0 ≤ E) (h1 : ∀ v m ln sz ce : Nat → Int32, wmS m ln sz → inC isR le gr si mn kn la sh lg pl ph v m ln sz ce → inC isR4 le4 gr4 si4 mn4 kn4 la4 sh4 lg4 pl4 ph4 v m ln sz ce) (h2 : ∀ v m ln sz ce : Nat → Int32, wmS m ln sz → inC isR2 le2 gr2 si2 mn2 kn2 la2 sh2 lg2 pl2 ph2 v m ln sz ce → inC isR4 le4 gr4 si4 mn4 kn4 la4 sh4 lg4 pl4 ph4 v m ln sz ce) : SdR ki pa pb pc pd pe dr isR4 le4 gr4 si4 mn4 kn4 la4 sh4 lg4 pl4 ph4 rc mt i := ⟨fun u d v m ln sz ce hr => by
  obtain ⟨-, -, b2, b3⟩ := (h.1 _ _ _ _ _ _ _ hr).2 hE
  by_cases q : d.toInt = 0
  · exact h2 _ _ _ _ _ (Rr_wm hr) (b3 q)
  · exact h1 _ _ _ _ _ (Rr_wm hr) (b2 q), h.2⟩
end
theorem aS_sh {la : Nat → Int32} {sh lg pl ph : Nat → Int} {kn' la' : Nat → Int32} {sh' lg' pl' ph' : Nat → Int} {i k : Nat} (h : aS la sh lg pl ph (40 + i) kn' la' sh' lg' pl' ph' k) : aS (fun j => la (40 + j)) (fun j => sh (40 + j)) (fun j => lg (40 + j)) (fun j => pl (480 + j)) (fun j => ph (480 + j)) i kn' la' sh' lg' pl' ph' k := by
  obtain ⟨h1, h2, h3, h4, h5⟩ := h
  refine ⟨h1, h2, h3, h4, fun p hp => ?_⟩
  have b := h5 p hp
  rw [show 12 * (40 + i) + p = 480 + (12 * i + p) from by omega] at b
  exact b
