/-! FACTS on their way through the PROGRAM, against all that a RUN may be -/
section
variable (ro dr : Nat → Int32) (i : Nat) (lf : Int) (isR : Int32) (le gr : Nat → Int) (si : Nat → Int64) (mn kn la : Nat → Int32) (sh lg pl ph : Nat → Int) (isR2 : Int32) (le2 gr2 : Nat → Int) (si2 : Nat → Int64) (mn2 kn2 la2 : Nat → Int32) (sh2 lg2 pl2 ph2 : Nat → Int) (rc mt : Nat → Int32)
def FlT (n : Nat) : Prop := ∀ j : Nat, j < n → ∀ t : Int32, Tc ro dr j t → ¬ (rc j).toInt = 0 ∧ lbit (mt j) t.toNatClampNeg
def FlI : Prop := (∀ (l : Int) (d : Int32) (v m ln sz ce : Nat → Int32), Rc ro dr i l d v m ln sz ce → l = lf ∧ ((lf = 0 ∨ ¬ d.toInt = 0) → inC isR le gr si mn kn la sh lg pl ph v m ln sz ce) ∧ (¬ (lf = 0 ∨ ¬ d.toInt = 0) → inC isR2 le2 gr2 si2 mn2 kn2 la2 sh2 lg2 pl2 ph2 v m ln sz ce)) ∧ FlT ro dr rc mt i
/-- what FACTS say of the end, of what is REACHED and of THROWS is so of every RUN -/
def SdC (n : Nat) : Prop := (∀ (l : Int) (d : Int32) (v m ln sz ce : Nat → Int32), Rc ro dr n l d v m ln sz ce → inC isR le gr si mn kn la sh lg pl ph v m ln sz ce) ∧ FlT ro dr rc mt n
end
section
variable {ro dr : Nat → Int32} {i i' : Nat} {lf lf' : Int} {isR : Int32} {le gr : Nat → Int} {si : Nat → Int64} {mn kn la : Nat → Int32} {sh lg pl ph : Nat → Int} {isR2 : Int32} {le2 gr2 : Nat → Int} {si2 : Nat → Int64} {mn2 kn2 la2 : Nat → Int32} {sh2 lg2 pl2 ph2 : Nat → Int} {isR3 : Int32} {le3 gr3 : Nat → Int} {si3 : Nat → Int64} {mn3 kn3 la3 : Nat → Int32} {sh3 lg3 pl3 ph3 : Nat → Int} {isR4 : Int32} {le4 gr4 : Nat → Int} {si4 : Nat → Int64} {mn4 kn4 la4 : Nat → Int32} {sh4 lg4 pl4 ph4 : Nat → Int} {rc mt rc' mt' : Nat → Int32} {may : Int32}
theorem FlT_eq {n : Nat} (h : FlT ro dr rc mt n) (h1 : ∀ j : Nat, j < n → (rc' j).toInt = (rc j).toInt) (h2 : ∀ j : Nat, j < n → (mt' j).toInt = (mt j).toInt) : FlT ro dr rc' mt' n := fun j hj t ht => by
  have b := h j hj t ht
  exact ⟨by rw [h1 j hj]; exact b.1, lb_eq (h2 j hj).symm b.2⟩
theorem FlT_s {n : Nat} (hn : i' = i + 1) (h : FlT ro dr rc mt i) (h1 : ∀ j : Nat, j < i → (rc' j).toInt = (rc j).toInt) (h2 : ∀ j : Nat, j < i → (mt' j).toInt = (mt j).toInt) (h3 : ∀ t : Int32, Tc ro dr i t → ¬ (rc' i).toInt = 0 ∧ lbit (mt' i) t.toNatClampNeg) : FlT ro dr rc' mt' i' := fun j hj t ht => by
  by_cases q : j = i
  · subst q; exact h3 t ht
  · exact FlT_eq h h1 h2 j (by omega) t ht
theorem Fl_0 (hi : i = 0) (h0 : lf = 0) (hR : isR.toInt = 1) (h1 : ∀ j : Nat, j < 6 → le j = 0) (h2 : ∀ j : Nat, j < 6 → gr j = 0) (h3 : ∀ j : Nat, j < 6 → (mn j).toInt = 1) : FlI ro dr i lf isR le gr si mn kn la sh lg pl ph isR2 le2 gr2 si2 mn2 kn2 la2 sh2 lg2 pl2 ph2 rc mt := by
  subst hi
  refine ⟨fun l d v m ln sz ce hr => ⟨by rw [h0]; exact hr.1, fun _ => ⟨by omega, fun x hx => ?_, fun r hr6 => ⟨fun _ => by rw [h3 r hr6]; decide, fun hm => ?_⟩⟩, fun q => absurd (Or.inl h0) q⟩, fun j hj => by omega⟩
  · have b1 := hr.2.2.1 x hx
    have b2 := h1 x hx
    have b3 := h2 x hx
    omega
  · have b1 := hr.2.2.2 r hr6
    omega
/-- a dropped ACT -/
theorem Fl_drop (hi : i' = i + 1) (h : FlI ro dr i lf isR le gr si mn kn la sh lg pl ph isR2 le2 gr2 si2 mn2 kn2 la2 sh2 lg2 pl2 ph2 rc mt) (hd : ¬ (dr i).toInt = 0) (h1 : ∀ j : Nat, j < i → (rc' j).toInt = (rc j).toInt) (h2 : ∀ j : Nat, j < i → (mt' j).toInt = (mt j).toInt) : FlI ro dr i' lf isR le gr si mn kn la sh lg pl ph isR2 le2 gr2 si2 mn2 kn2 la2 sh2 lg2 pl2 ph2 rc' mt' := by
  refine ⟨fun l d v m ln sz ce hr => ?_, FlT_s (n := i) hi h.2 h1 h2 (fun t ht => ?_)⟩
  · subst hi
    obtain ⟨-, l0, d0, v0, m0, ln0, sz0, ce0, hr0, hs⟩ := hr
    rcases hs with ⟨-, rfl, rfl, rfl, rfl, rfl, rfl, rfl⟩ | ⟨q, -⟩ | ⟨q, -⟩
    · exact h.1 _ _ _ _ _ _ _ hr0
    · exact absurd q hd
    · exact absurd q hd
  · obtain ⟨l0, d0, v0, m0, ln0, sz0, ce0, hr0, q, -⟩ := ht
    exact absurd q hd
/-- behind the last ACT nothing changes -/
theorem Fl_past (h : FlI ro dr i lf isR le gr si mn kn la sh lg pl ph isR2 le2 gr2 si2 mn2 kn2 la2 sh2 lg2 pl2 ph2 rc mt) (h1 : ∀ j : Nat, j < i → (rc' j).toInt = (rc j).toInt) (h2 : ∀ j : Nat, j < i → (mt' j).toInt = (mt j).toInt) : FlI ro dr i lf isR le gr si mn kn la sh lg pl ph isR2 le2 gr2 si2 mn2 kn2 la2 sh2 lg2 pl2 ph2 rc' mt' := ⟨h.1, FlT_eq h.2 h1 h2⟩
/-- a MAYBE begins -/
theorem Fl_maybe (hi : i' = i + 1) (h : FlI ro dr i lf isR le gr si mn kn la sh lg pl ph isR2 le2 gr2 si2 mn2 kn2 la2 sh2 lg2 pl2 ph2 rc mt) (hd : (dr i).toInt = 0) (hl : lf = 0) (hk : (ro (6 * i)).toInt = 14) (hl' : lf' = (ro (6 * i + 2)).toInt) (hs : subC le gr si mn kn la sh lg pl ph le3 gr3 si3 mn3 kn3 la3 sh3 lg3 pl3 ph3) (hR : isR3.toInt = isR.toInt) (h1 : ∀ j : Nat, j < i → (rc' j).toInt = (rc j).toInt) (h2 : ∀ j : Nat, j < i → (mt' j).toInt = (mt j).toInt) : FlI ro dr i' lf' isR le gr si mn kn la sh lg pl ph isR3 le3 gr3 si3 mn3 kn3 la3 sh3 lg3 pl3 ph3 rc' mt' := by
  refine ⟨fun l d v m ln sz ce hr => ?_, FlT_s (n := i) hi h.2 h1 h2 (fun t ht => ?_)⟩
  · subst hi
    obtain ⟨-, l0, d0, v0, m0, ln0, sz0, ce0, hr0, hss⟩ := hr
    have b0 := h.1 _ _ _ _ _ _ _ hr0
    rcases hss with ⟨q, -⟩ | ⟨-, -, -, rfl, rfl, rfl, rfl, rfl, rfl⟩ | ⟨-, q, -⟩
    · exact absurd hd q
    · have b1 := b0.2.1 (Or.inl hl)
      exact ⟨hl'.symm, fun _ => b1, fun _ => inC_sub hs (by rw [hR]; exact b1.1) (Rc_wm hr0) b1⟩
    · exact absurd ⟨b0.1.trans hl, hk⟩ q
  · obtain ⟨l0, d0, v0, m0, ln0, sz0, ce0, hr0, -, q, -⟩ := ht
    exact absurd ⟨(h.1 _ _ _ _ _ _ _ hr0).1.trans hl, hk⟩ q
/-- an ACT is done or not -/
theorem Fl_pass (hi : i' = i + 1) (h : FlI ro dr i lf isR le gr si mn kn la sh lg pl ph isR2 le2 gr2 si2 mn2 kn2 la2 sh2 lg2 pl2 ph2 rc mt) (hd : (dr i).toInt = 0) (hn : ¬ (lf = 0 ∧ (ro (6 * i)).toInt = 14))
    (hp : ¬ isR.toInt = 0 → PsK (ro (6 * i)).toInt.toNat isR le gr si mn kn la sh lg pl ph isR3 le3 gr3 si3 mn3 kn3 la3 sh3 lg3 pl3 ph3 i (ro (6 * i + 1)) (ro (6 * i + 2)) (ro (6 * i + 3)) (ro (6 * i + 4)) (ro (6 * i + 5)) may)
    (hrc : ¬ isR.toInt = 0 → ¬ (rc' i).toInt = 0 ∧ (mt' i).toInt = may.toInt) (h1 : ∀ j : Nat, j < i → (rc' j).toInt = (rc j).toInt) (h2 : ∀ j : Nat, j < i → (mt' j).toInt = (mt j).toInt) (hlf : 0 ≤ lf)
    (hf : (lf = 0 ∧ lf' = 0 ∧ (∀ v m ln sz ce : Nat → Int32, wmS m ln sz → inC isR3 le3 gr3 si3 mn3 kn3 la3 sh3 lg3 pl3 ph3 v m ln sz ce → inC isR4 le4 gr4 si4 mn4 kn4 la4 sh4 lg4 pl4 ph4 v m ln sz ce)) ∨ (1 < lf ∧ lf' = lf - 1 ∧ (∀ v m ln sz ce : Nat → Int32, wmS m ln sz → inC isR3 le3 gr3 si3 mn3 kn3 la3 sh3 lg3 pl3 ph3 v m ln sz ce → inC isR4 le4 gr4 si4 mn4 kn4 la4 sh4 lg4 pl4 ph4 v m ln sz ce)) ∨ (lf = 1 ∧ lf' = 0 ∧ (∀ v m ln sz ce : Nat → Int32, wmS m ln sz → inC isR3 le3 gr3 si3 mn3 kn3 la3 sh3 lg3 pl3 ph3 v m ln sz ce → inC isR4 le4 gr4 si4 mn4 kn4 la4 sh4 lg4 pl4 ph4 v m ln sz ce) ∧ (∀ v m ln sz ce : Nat → Int32, wmS m ln sz → inC isR2 le2 gr2 si2 mn2 kn2 la2 sh2 lg2 pl2 ph2 v m ln sz ce → inC isR4 le4 gr4 si4 mn4 kn4 la4 sh4 lg4 pl4 ph4 v m ln sz ce))) :
    FlI ro dr i' lf' isR4 le4 gr4 si4 mn4 kn4 la4 sh4 lg4 pl4 ph4 isR2 le2 gr2 si2 mn2 kn2 la2 sh2 lg2 pl2 ph2 rc' mt' := by
  refine ⟨fun l d v m ln sz ce hr => ?_, FlT_s (n := i) hi h.2 h1 h2 (fun t ht => ?_)⟩
  · subst hi
    obtain ⟨hw, l0, d0, v0, m0, ln0, sz0, ce0, hr0, hss⟩ := hr
    have b0 := h.1 _ _ _ _ _ _ _ hr0
    have hw0 := Rc_wm hr0
    have e0 := b0.1
    rcases hss with ⟨q, -⟩ | ⟨-, q1, q2, -⟩ | ⟨-, -, q3, q4, q5⟩
    · exact absurd hd q
    · exact absurd ⟨by omega, q2⟩ hn
    · have el : l = lf' := by
        rw [q3, e0]
        rcases hf with ⟨a, b, -⟩ | ⟨a, b, -⟩ | ⟨a, b, -⟩ <;> split <;> omega
      subst q4
      refine ⟨el, fun hg => ?_, fun hg => ?_⟩
      · rcases q5 with ⟨q6, q7⟩ | ⟨q6, rfl, rfl, rfl, rfl, rfl⟩
        · have c0 := b0.2.1 (by rw [e0] at q6; exact q6)
          have c1 := (hp c0.1 _ _ _ _ _ hw0 c0).1 _ _ _ _ _ hw q7
          rcases hf with ⟨-, -, f⟩ | ⟨-, -, f⟩ | ⟨-, -, f, -⟩
          · exact f _ _ _ _ _ hw c1
          · exact f _ _ _ _ _ hw c1
          · exact f _ _ _ _ _ hw c1
        · have c0 := b0.2.2 (by rw [e0] at q6; exact q6)
          rcases hf with ⟨f, -, -⟩ | ⟨f1, f2, -⟩ | ⟨-, -, -, f⟩
          · exact absurd (Or.inl (by omega)) q6
          · rcases hg with hg | hg
            · omega
            · exact absurd (Or.inr hg) q6
          · exact f _ _ _ _ _ hw c0
      · rcases q5 with ⟨q6, q7⟩ | ⟨q6, rfl, rfl, rfl, rfl, rfl⟩
        · exfalso
          rcases hf with ⟨-, f, -⟩ | ⟨f1, f2, -⟩ | ⟨-, f, -⟩
          · exact hg (Or.inl f)
          · rcases q6 with q6 | q6
            · omega
            · exact hg (Or.inr q6)
          · exact hg (Or.inl f)
        · exact b0.2.2 (by rw [e0] at q6; exact q6)
  · obtain ⟨l0, d0, v0, m0, ln0, sz0, ce0, hr0, -, -, q, ht⟩ := ht
    have b0 := h.1 _ _ _ _ _ _ _ hr0
    have c0 := b0.2.1 (by rw [b0.1] at q; exact q)
    have c1 := hrc c0.1
    exact ⟨c1.1, lb_eq c1.2.symm ((hp c0.1 _ _ _ _ _ (Rc_wm hr0) c0).2 t ht)⟩
theorem Fl_end0 (h : FlI ro dr i lf isR le gr si mn kn la sh lg pl ph isR2 le2 gr2 si2 mn2 kn2 la2 sh2 lg2 pl2 ph2 rc mt) (hl : lf = 0) : SdC ro dr isR le gr si mn kn la sh lg pl ph rc mt i := ⟨fun l d v m ln sz ce hr => (h.1 _ _ _ _ _ _ _ hr).2.1 (Or.inl hl), h.2⟩
theorem Fl_end1 (h : FlI ro dr i lf isR le gr si mn kn la sh lg pl ph isR2 le2 gr2 si2 mn2 kn2 la2 sh2 lg2 pl2 ph2 rc mt) (h1 : ∀ v m ln sz ce : Nat → Int32, wmS m ln sz → inC isR le gr si mn kn la sh lg pl ph v m ln sz ce → inC isR4 le4 gr4 si4 mn4 kn4 la4 sh4 lg4 pl4 ph4 v m ln sz ce) (h2 : ∀ v m ln sz ce : Nat → Int32, wmS m ln sz → inC isR2 le2 gr2 si2 mn2 kn2 la2 sh2 lg2 pl2 ph2 v m ln sz ce → inC isR4 le4 gr4 si4 mn4 kn4 la4 sh4 lg4 pl4 ph4 v m ln sz ce) : SdC ro dr isR4 le4 gr4 si4 mn4 kn4 la4 sh4 lg4 pl4 ph4 rc mt i := ⟨fun l d v m ln sz ce hr => by
  have b0 := h.1 _ _ _ _ _ _ _ hr
  by_cases q : lf = 0 ∨ ¬ d.toInt = 0
  · exact h1 _ _ _ _ _ (Rc_wm hr) (b0.2.1 q)
  · exact h2 _ _ _ _ _ (Rc_wm hr) (b0.2.2 q), h.2⟩
end
