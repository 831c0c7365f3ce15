/-! more for the reference -/
theorem sb_clr {k : Int32} {v s w : Int64} (hk : 0 ≤ k.toInt ∧ k.toInt ≤ 39) (es : s = 1 <<< (k.toInt64 &&& 63)) {x : Int64} (ex : x = s ^^^ (-1)) (ew : w = v &&& x) {q : Nat} (hq : q < 64) : sbit w q ↔ (sbit v q ∧ ¬ q = k.toNatClampNeg) := by
  have h := sb_shl hk es q
  unfold sbit at h ⊢
  rw [ew, Int64.toBitVec_and, BitVec.getLsbD_and, Bool.and_eq_true, ex, Int64.toBitVec_xor, BitVec.getLsbD_xor, show (-1 : Int64).toBitVec = BitVec.allOnes 64 from by decide, BitVec.getLsbD_allOnes, decide_eq_true hq, ← h]
  cases s.toBitVec.getLsbD q <;> simp
section
variable {lv lv' : Nat → Int32} {lo lo' hi hi' si si' : Nat → Int64} {nu nu' th th' la la' : Nat → Int32} {ls ls' mo mo' pl pl' ph ph' : Nat → Int64} {v m ln sz ce : Nat → Int32}
/-- bank 1 is as it was -/
theorem b1_in (h0 : ∀ j : Nat, ¬ j = (0 : Int32).toNatClampNeg → (lv' j).toInt = (lv j).toInt) (h1 : ∀ j : Nat, 6 ≤ j → (lo' j).toInt = (lo j).toInt) (h2 : ∀ j : Nat, 6 ≤ j → (hi' j).toInt = (hi j).toInt) (h3 : ∀ j : Nat, 6 ≤ j → si' j = si j) (h4 : ∀ j : Nat, 6 ≤ j → (nu' j).toInt = (nu j).toInt)
    (h5 : ∀ j : Nat, 40 ≤ j → (th' j).toInt = (th j).toInt) (h6 : ∀ j : Nat, 40 ≤ j → (la' j).toInt = (la j).toInt) (h7 : ∀ j : Nat, 40 ≤ j → (ls' j).toInt = (ls j).toInt) (h8 : ∀ j : Nat, 40 ≤ j → (mo' j).toInt = (mo j).toInt) (h9 : ∀ j : Nat, 480 ≤ j → (pl' j).toInt = (pl j).toInt) (h10 : ∀ j : Nat, 480 ≤ j → (ph' j).toInt = (ph j).toInt)
    (h : inC (lv (1 : Int32).toNatClampNeg) (fun j => (lo (6 + j)).toInt) (fun j => (hi (6 + j)).toInt) (fun j => si (6 + j)) (fun j => nu (6 + j)) (fun j => th (40 + j)) (fun j => la (40 + j)) (fun j => (ls (40 + j)).toInt) (fun j => (mo (40 + j)).toInt) (fun j => (pl (480 + j)).toInt) (fun j => (ph (480 + j)).toInt) v m ln sz ce) :
    inC (lv' (1 : Int32).toNatClampNeg) (fun j => (lo' (6 + j)).toInt) (fun j => (hi' (6 + j)).toInt) (fun j => si' (6 + j)) (fun j => nu' (6 + j)) (fun j => th' (40 + j)) (fun j => la' (40 + j)) (fun j => (ls' (40 + j)).toInt) (fun j => (mo' (40 + j)).toInt) (fun j => (pl' (480 + j)).toInt) (fun j => (ph' (480 + j)).toInt) v m ln sz ce := by
  have e0 : lv' (1 : Int32).toNatClampNeg = lv (1 : Int32).toNatClampNeg := i_eq (h0 _ (by decide))
  have e1 : (fun j => (lo' (6 + j)).toInt) = fun j => (lo (6 + j)).toInt := funext fun j => h1 _ (by omega)
  have e2 : (fun j => (hi' (6 + j)).toInt) = fun j => (hi (6 + j)).toInt := funext fun j => h2 _ (by omega)
  have e3 : (fun j => si' (6 + j)) = fun j => si (6 + j) := funext fun j => h3 _ (by omega)
  have e4 : (fun j => nu' (6 + j)) = fun j => nu (6 + j) := funext fun j => i_eq (h4 _ (by omega))
  have e5 : (fun j => th' (40 + j)) = fun j => th (40 + j) := funext fun j => i_eq (h5 _ (by omega))
  have e6 : (fun j => la' (40 + j)) = fun j => la (40 + j) := funext fun j => i_eq (h6 _ (by omega))
  have e7 : (fun j => (ls' (40 + j)).toInt) = fun j => (ls (40 + j)).toInt := funext fun j => h7 _ (by omega)
  have e8 : (fun j => (mo' (40 + j)).toInt) = fun j => (mo (40 + j)).toInt := funext fun j => h8 _ (by omega)
  have e9 : (fun j => (pl' (480 + j)).toInt) = fun j => (pl (480 + j)).toInt := funext fun j => h9 _ (by omega)
  have e10 : (fun j => (ph' (480 + j)).toInt) = fun j => (ph (480 + j)).toInt := funext fun j => h10 _ (by omega)
  rw [e0, e1, e2, e3, e4, e5, e6, e7, e8, e9, e10]
  exact h
end
/-- an elder place of a SITE, in blocks of 12 -/
theorem blk_eq {kn la : Nat → Int32} {sh lg pl ph : Nat → Int} {kn' la' : Nat → Int32} {sh' lg' pl' ph' : Nat → Int} {j : Nat} (h : eqS kn la sh lg pl ph kn' la' sh' lg' pl' ph' (j / 12)) : pl' j = pl j ∧ ph' j = ph j := by
  have b := h.2.2.2.2 (j % 12) (by omega)
  rw [show 12 * (j / 12) + j % 12 = j from by omega] at b
  exact b
theorem ge7 {x : Int32} {q : Nat} (h : lbit x q) : ¬ x.toInt = 0 := lb_ne h
section
variable {isR isR1 may : Int32} {le gr : Nat → Int} {si : Nat → Int64} {mn kn la : Nat → Int32} {sh lg pl ph le' gr' : Nat → Int} {si1 si' : Nat → Int64} {mn1 mn' kn' la' : Nat → Int32} {sh' lg' pl' ph' le1 gr1 : Nat → Int} {i : Nat} {a b c d e : Int32}
theorem place_inr {r x : Nat} {l : Int32} {v m ln sz ce : Nat → Int32} (hw : wmS m ln sz) (hr : r < 6) (hx : x < 6) (h : inC isR le gr si mn kn la sh lg pl ph v m ln sz ce)
    (hp : 0 ≤ (m r).toInt ∧ (ln (m r).toNatClampNeg).toInt = l.toInt ∧ 0 ≤ (v x).toInt ∧ (v x).toInt < (sz (m r).toNatClampNeg).toInt)
    (hS : ∀ j : Nat, (j = r → ∀ k : Nat, k < 40 → (sbit (si1 j) k ↔ (k < 40 ∧ sbit (si j) k ∧ lbit (la k) l.toNatClampNeg))) ∧ (¬ j = r → si1 j = si j)) (hn : upI mn r 0 mn1)
    (hX : ∀ n : Int, (le x) ≤ n → n ≤ (gr x) → 0 ≤ n → ∀ k : Nat, k < 40 → sbit (si1 r) k → n < (lg k) → (le1 x) ≤ n ∧ n ≤ (gr1 x)) (hO : ∀ j : Nat, ¬ j = x → (le1 j) = (le j) ∧ (gr1 j) = (gr j))
    (hR : ∀ k : Nat, ¬ isR.toInt = 0 → sbit (si1 r) k → (le1 x) ≤ (gr1 x) → ¬ isR1.toInt = 0) : inC isR1 le1 gr1 si1 mn1 kn la sh lg pl ph v m ln sz ce := by
  have n1 := nn_cl hp.1
  have w1 := hw.1 r
  have old := (h.2.2 r hr).2 hp.1
  obtain ⟨o1, o2, o3, o4, o5⟩ := old.2
  have e1 : l = ln (m r).toNatClampNeg := i_eq hp.2.1.symm
  have s1 : sbit (si1 r) (m r).toNatClampNeg := ((hS r).1 rfl _ (by omega)).mpr ⟨by omega, old.1, by rw [e1]; exact o2⟩
  have bx := h.2.1 x hx
  have cx := hX (v x).toInt bx.1 bx.2 hp.2.2.1 _ (by omega) s1 (by omega)
  refine ⟨hR _ h.1 s1 (by omega), fun y hy => ?_, fun q hq => ?_⟩
  · by_cases w : y = x
    · subst w; exact cx
    · have b1 := hO y w
      have b2 := h.2.1 y hy
      omega
  · have b0 := h.2.2 q hq
    by_cases w : q = r
    · subst w
      exact ⟨fun z => by omega, fun z => ⟨s1, (b0.2 z).2⟩⟩
    · rw [(hS q).2 w]
      have c1 := (hn q).2 w
      exact ⟨fun z => by have := b0.1 z; omega, b0.2⟩
end
