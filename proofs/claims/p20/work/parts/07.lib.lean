/-! own words: overlays of rows, two-valued answers, a contract's start and end, rows of the kit at fixed array classes -/
def ov (g : Nat → Int32) (n : Nat) (v : Int32) : Nat → Int32 := fun j => if j < n then v else g j
def ovL (g : Nat → Int64) (n : Nat) (v : Int64) : Nat → Int64 := fun j => if j < n then v else g j
theorem ov_0 (g : Nat → Int32) (v : Int32) : ov g 0 v = g := by funext j; simp [ov]
theorem ovL_0 (g : Nat → Int64) (v : Int64) : ovL g 0 v = g := by funext j; simp [ovL]
theorem ov_s (g : Nat → Int32) (i : Nat) (v : Int32) : upd (ov g i v) i v = ov g (i + 1) v := by
  funext j
  simp only [upd, ov]
  by_cases h : j = i
  · subst h; simp
  · by_cases h2 : j < i
    · rw [if_neg h, if_pos h2, if_pos (by omega)]
    · rw [if_neg h, if_neg h2, if_neg (by omega)]
theorem ovL_s (g : Nat → Int64) (i : Nat) (v : Int64) : vp_updL (ovL g i v) i v = ovL g (i + 1) v := by
  funext j
  simp only [vp_updL, ovL]
  by_cases h : j = i
  · subst h; simp
  · by_cases h2 : j < i
    · rw [if_neg h, if_pos h2, if_pos (by omega)]
    · rw [if_neg h, if_neg h2, if_neg (by omega)]
theorem ov_st (g : Nat → Int32) {i : Nat} (v : Int32) (h : i < 2 ^ 31) : upd (ov g i v) (nI i).toNatClampNeg v = ov g (i + 1) v := by rw [nI_clamp h]; exact ov_s g i v
theorem ovL_st (g : Nat → Int64) {i : Nat} (v : Int64) (h : i < 2 ^ 31) : vp_updL (ovL g i v) (nI i).toNatClampNeg v = ovL g (i + 1) v := by rw [nI_clamp h]; exact ovL_s g i v
theorem ov_stZ (g : Nat → Int32) {i : Nat} (v : Int32) (h : i < 2 ^ 31) (hv : vp_nar .boolean v = v) : upd (ov g i v) (nI i).toNatClampNeg (vp_nar .boolean v) = ov g (i + 1) v := by rw [hv]; exact ov_st g v h
theorem ov_in (g : Nat → Int32) {n j : Nat} (v : Int32) (h : j < n) : ov g n v j = v := by simp [ov, h]
theorem ovL_in (g : Nat → Int64) {n j : Nat} (v : Int64) (h : j < n) : ovL g n v j = v := by simp [ovL, h]
theorem ov_nI (g : Nat → Int32) {n j : Nat} (v : Int32) (h : j < n) (hn : n < 2 ^ 31) : ov g n v (nI j).toNatClampNeg = v := by rw [nI_clamp (by omega)]; exact ov_in g v h
theorem ovL_nI (g : Nat → Int64) {n j : Nat} (v : Int64) (h : j < n) (hn : n < 2 ^ 31) : ovL g n v (nI j).toNatClampNeg = v := by rw [nI_clamp (by omega)]; exact ovL_in g v h
abbrev V6 (x : Int32) : Prop := 0 ≤ x.toInt ∧ x.toInt < 6
abbrev V3 (x : Int32) : Prop := 0 ≤ x.toInt ∧ x.toInt < 3
abbrev VN (x : Int32) : Prop := -1000000 ≤ x.toInt ∧ x.toInt ≤ 1000000
/-- what promise 3 lets pass as an ACT -/
def okP (k a b c d e : Int32) : Prop :=
  (k.toInt = 0 ∧ V6 a ∧ VN b) ∨ (k.toInt = 1 ∧ V6 a ∧ VN b ∧ VN c ∧ b.toInt ≤ c.toInt) ∨ (k.toInt = 2 ∧ V6 a ∧ V6 b ∧ V6 c) ∨ (k.toInt = 3 ∧ V6 a ∧ V6 b ∧ V6 c) ∨ (k.toInt = 4 ∧ V6 a ∧ V3 b ∧ V6 c) ∨ (k.toInt = 5 ∧ V6 a) ∨ (k.toInt = 6 ∧ V6 a ∧ V6 b) ∨ (k.toInt = 7 ∧ V6 a ∧ V6 b ∧ V6 c) ∨ (k.toInt = 8 ∧ V6 a ∧ V6 b) ∨ (k.toInt = 9 ∧ V6 a ∧ V3 b ∧ V6 c ∧ V6 d) ∨ (k.toInt = 10 ∧ V6 a ∧ V6 b ∧ V3 c ∧ V6 d) ∨ (k.toInt = 11 ∧ V6 a ∧ V6 b ∧ V6 c ∧ V6 d ∧ V6 e) ∨ (k.toInt = 12 ∧ V6 a ∧ V3 b ∧ V6 c ∧ V6 d ∧ V6 e) ∨ (k.toInt = 13 ∧ V6 a ∧ V6 b) ∨ (k.toInt = 14 ∧ 1 ≤ b.toInt ∧ b.toInt ≤ 10)
theorem okP_0 {k a b c d e : Int32} (hk : k.toInt = 0) : okP k a b c d e ↔ (V6 a ∧ VN b) := ⟨fun h => by
  rcases h with h | h | h | h | h | h | h | h | h | h | h | h | h | h | h
  all_goals first | exact h.2 | exact absurd (hk.symm.trans h.1) (by decide), fun h => Or.inl ⟨hk, h⟩⟩
theorem okP_1 {k a b c d e : Int32} (hk : k.toInt = 1) : okP k a b c d e ↔ (V6 a ∧ VN b ∧ VN c ∧ b.toInt ≤ c.toInt) := ⟨fun h => by
  rcases h with h | h | h | h | h | h | h | h | h | h | h | h | h | h | h
  all_goals first | exact h.2 | exact absurd (hk.symm.trans h.1) (by decide), fun h => Or.inr (Or.inl ⟨hk, h⟩)⟩
theorem okP_2 {k a b c d e : Int32} (hk : k.toInt = 2) : okP k a b c d e ↔ (V6 a ∧ V6 b ∧ V6 c) := ⟨fun h => by
  rcases h with h | h | h | h | h | h | h | h | h | h | h | h | h | h | h
  all_goals first | exact h.2 | exact absurd (hk.symm.trans h.1) (by decide), fun h => Or.inr (Or.inr (Or.inl ⟨hk, h⟩))⟩
theorem okP_3 {k a b c d e : Int32} (hk : k.toInt = 3) : okP k a b c d e ↔ (V6 a ∧ V6 b ∧ V6 c) := ⟨fun h => by
  rcases h with h | h | h | h | h | h | h | h | h | h | h | h | h | h | h
  all_goals first | exact h.2 | exact absurd (hk.symm.trans h.1) (by decide), fun h => Or.inr (Or.inr (Or.inr (Or.inl ⟨hk, h⟩)))⟩
theorem okP_4 {k a b c d e : Int32} (hk : k.toInt = 4) : okP k a b c d e ↔ (V6 a ∧ V3 b ∧ V6 c) := ⟨fun h => by
  rcases h with h | h | h | h | h | h | h | h | h | h | h | h | h | h | h
  all_goals first | exact h.2 | exact absurd (hk.symm.trans h.1) (by decide), fun h => Or.inr (Or.inr (Or.inr (Or.inr (Or.inl ⟨hk, h⟩))))⟩
theorem okP_5 {k a b c d e : Int32} (hk : k.toInt = 5) : okP k a b c d e ↔ (V6 a) := ⟨fun h => by
  rcases h with h | h | h | h | h | h | h | h | h | h | h | h | h | h | h
  all_goals first | exact h.2 | exact absurd (hk.symm.trans h.1) (by decide), fun h => Or.inr (Or.inr (Or.inr (Or.inr (Or.inr (Or.inl ⟨hk, h⟩)))))⟩
theorem okP_6 {k a b c d e : Int32} (hk : k.toInt = 6) : okP k a b c d e ↔ (V6 a ∧ V6 b) := ⟨fun h => by
  rcases h with h | h | h | h | h | h | h | h | h | h | h | h | h | h | h
  all_goals first | exact h.2 | exact absurd (hk.symm.trans h.1) (by decide), fun h => Or.inr (Or.inr (Or.inr (Or.inr (Or.inr (Or.inr (Or.inl ⟨hk, h⟩))))))⟩
theorem okP_7 {k a b c d e : Int32} (hk : k.toInt = 7) : okP k a b c d e ↔ (V6 a ∧ V6 b ∧ V6 c) := ⟨fun h => by
  rcases h with h | h | h | h | h | h | h | h | h | h | h | h | h | h | h
  all_goals first | exact h.2 | exact absurd (hk.symm.trans h.1) (by decide), fun h => Or.inr (Or.inr (Or.inr (Or.inr (Or.inr (Or.inr (Or.inr (Or.inl ⟨hk, h⟩)))))))⟩
theorem okP_8 {k a b c d e : Int32} (hk : k.toInt = 8) : okP k a b c d e ↔ (V6 a ∧ V6 b) := ⟨fun h => by
  rcases h with h | h | h | h | h | h | h | h | h | h | h | h | h | h | h
  all_goals first | exact h.2 | exact absurd (hk.symm.trans h.1) (by decide), fun h => Or.inr (Or.inr (Or.inr (Or.inr (Or.inr (Or.inr (Or.inr (Or.inr (Or.inl ⟨hk, h⟩))))))))⟩
theorem okP_9 {k a b c d e : Int32} (hk : k.toInt = 9) : okP k a b c d e ↔ (V6 a ∧ V3 b ∧ V6 c ∧ V6 d) := ⟨fun h => by
  rcases h with h | h | h | h | h | h | h | h | h | h | h | h | h | h | h
  all_goals first | exact h.2 | exact absurd (hk.symm.trans h.1) (by decide), fun h => Or.inr (Or.inr (Or.inr (Or.inr (Or.inr (Or.inr (Or.inr (Or.inr (Or.inr (Or.inl ⟨hk, h⟩)))))))))⟩
theorem okP_10 {k a b c d e : Int32} (hk : k.toInt = 10) : okP k a b c d e ↔ (V6 a ∧ V6 b ∧ V3 c ∧ V6 d) := ⟨fun h => by
  rcases h with h | h | h | h | h | h | h | h | h | h | h | h | h | h | h
  all_goals first | exact h.2 | exact absurd (hk.symm.trans h.1) (by decide), fun h => Or.inr (Or.inr (Or.inr (Or.inr (Or.inr (Or.inr (Or.inr (Or.inr (Or.inr (Or.inr (Or.inl ⟨hk, h⟩))))))))))⟩
theorem okP_11 {k a b c d e : Int32} (hk : k.toInt = 11) : okP k a b c d e ↔ (V6 a ∧ V6 b ∧ V6 c ∧ V6 d ∧ V6 e) := ⟨fun h => by
  rcases h with h | h | h | h | h | h | h | h | h | h | h | h | h | h | h
  all_goals first | exact h.2 | exact absurd (hk.symm.trans h.1) (by decide), fun h => Or.inr (Or.inr (Or.inr (Or.inr (Or.inr (Or.inr (Or.inr (Or.inr (Or.inr (Or.inr (Or.inr (Or.inl ⟨hk, h⟩)))))))))))⟩
theorem okP_12 {k a b c d e : Int32} (hk : k.toInt = 12) : okP k a b c d e ↔ (V6 a ∧ V3 b ∧ V6 c ∧ V6 d ∧ V6 e) := ⟨fun h => by
  rcases h with h | h | h | h | h | h | h | h | h | h | h | h | h | h | h
  all_goals first | exact h.2 | exact absurd (hk.symm.trans h.1) (by decide), fun h => Or.inr (Or.inr (Or.inr (Or.inr (Or.inr (Or.inr (Or.inr (Or.inr (Or.inr (Or.inr (Or.inr (Or.inr (Or.inl ⟨hk, h⟩))))))))))))⟩
theorem okP_13 {k a b c d e : Int32} (hk : k.toInt = 13) : okP k a b c d e ↔ (V6 a ∧ V6 b) := ⟨fun h => by
  rcases h with h | h | h | h | h | h | h | h | h | h | h | h | h | h | h
  all_goals first | exact h.2 | exact absurd (hk.symm.trans h.1) (by decide), fun h => Or.inr (Or.inr (Or.inr (Or.inr (Or.inr (Or.inr (Or.inr (Or.inr (Or.inr (Or.inr (Or.inr (Or.inr (Or.inr (Or.inl ⟨hk, h⟩)))))))))))))⟩
theorem okP_14 {k a b c d e : Int32} (hk : k.toInt = 14) : okP k a b c d e ↔ (1 ≤ b.toInt ∧ b.toInt ≤ 10) := ⟨fun h => by
  rcases h with h | h | h | h | h | h | h | h | h | h | h | h | h | h | h
  all_goals first | exact h.2 | exact absurd (hk.symm.trans h.1) (by decide), fun h => Or.inr (Or.inr (Or.inr (Or.inr (Or.inr (Or.inr (Or.inr (Or.inr (Or.inr (Or.inr (Or.inr (Or.inr (Or.inr (Or.inr (⟨hk, h⟩))))))))))))))⟩
theorem okP_out {k a b c d e : Int32} (hk : k.toInt < 0 ∨ 14 < k.toInt) : ¬ okP k a b c d e := fun h => by
  rcases h with h | h | h | h | h | h | h | h | h | h | h | h | h | h | h
  all_goals (have := h.1; omega)
theorem v6_in {x : Int32} (h : V6 x) : vp_in x 6 := vp_in_iff.mpr ⟨h.1, by have := h.2; omega⟩
theorem v6_in12 {x : Int32} (h : V6 x) : vp_in x 12 := vp_in_iff.mpr ⟨h.1, by have := h.2; omega⟩
theorem v6_cl {x : Int32} (h : V6 x) : x.toNatClampNeg < 6 := by
  obtain ⟨j, hj, rfl⟩ := vp_in_of (v6_in h) (by decide)
  rw [nI_clamp (by omega)]; exact hj
theorem ov_v6 (g : Nat → Int32) {x : Int32} (v : Int32) (h : V6 x) : ov g 6 v x.toNatClampNeg = v := ov_in g v (v6_cl h)
theorem ovL_v6 (g : Nat → Int64) {x : Int32} (v : Int64) (h : V6 x) : ovL g 6 v x.toNatClampNeg = v := ovL_in g v (v6_cl h)
theorem v6_nI {i : Nat} (h : i < 6) : V6 (nI i) := by
  have h1 := nI_toInt (n := i) (by omega)
  constructor <;> omega
/-- an answer that is A where P holds, and B where it doesn't -/
def two (r : Int32) (P : Prop) (A B : Int32) : Prop := (r = A ∧ P) ∨ (r = B ∧ ¬ P)
theorem two_z {r : Int32} {P : Prop} (h : two r P 1 0) (c : r = 0) : ¬ P := by
  rcases h with ⟨h, -⟩ | ⟨-, h⟩
  · rw [h] at c; exact absurd c (by decide)
  · exact h
theorem two_nz {r : Int32} {P : Prop} (h : two r P 1 0) (c : ¬ r = 0) : P := by
  rcases h with ⟨-, h⟩ | ⟨h, -⟩
  · exact h
  · exact absurd h c
theorem two_eq {r r' : Int32} {P : Prop} {A B : Int32} (h : two r P A B) (h' : two r' P A B) : r = r' := by
  rcases h with ⟨a, b⟩ | ⟨a, b⟩ <;> rcases h' with ⟨c, d⟩ | ⟨c, d⟩
  · rw [a, c]
  · exact absurd b d
  · exact absurd d b
  · rw [a, c]
theorem lt_i {x y : Int32} (h : x < y) : x.toInt < y.toInt := Int32.lt_iff_toInt_lt.mp h
theorem le_i {x y : Int32} (h : x ≤ y) : x.toInt ≤ y.toInt := Int32.le_iff_toInt_le.mp h
theorem nlt_i {x y : Int32} (h : ¬ x < y) : y.toInt ≤ x.toInt := Int.not_lt.mp (fun q => h (Int32.lt_iff_toInt_lt.mpr q))
theorem nle_i {x y : Int32} (h : ¬ x ≤ y) : y.toInt < x.toInt := Int.not_le.mp (fun q => h (Int32.le_iff_toInt_le.mpr q))
theorem shr0 (y : Int64) : (0 : Int64) >>> y = 0 := by
  rw [← Int64.toBitVec_inj]
  simp [Int64.toBitVec_shiftRight]
abbrev ty3 (cI cJ cZ : ClassId) : List (ClassId × FieldType) := [(cI, .int), (cJ, .long), (cZ, .boolean)]
/-- the links between nest mates that are walked -/
def nwAll (U : State) : Prop := va_Nw (.methodLinkNest RX4 9 yX3_init RX4) U ∧ va_Nw (.methodLinkNest RX4 18 yX1_init RX4) U ∧ va_Nw (.methodLinkNest RX1 11 yX0_init RX4) U ∧ va_Nw (.methodLinkNest RX3 23 yX4_isVariable RX4) U ∧ va_Nw (.methodLinkNest RX3 27 yX4_isNumber RX4) U ∧ va_Nw (.methodLinkNest RX3 30 yX4_isReference RX4) U ∧ va_Nw (.methodLinkNest RX3 33 yX4_isLane RX4) U ∧ va_Nw (.methodLinkNest RX1 155 yX4_isIn RX4) U ∧ va_Nw (.methodLinkNest RX0 102 yX4_isIn RX4) U ∧ va_Nw (.methodLinkNest RX0 91 yX4_leastOfLane RX4) U ∧ va_Nw (.methodLinkNest RX0 95 yX4_greatestOfLane RX4) U
theorem nwAll.warm {s U : State} (hW : s.WarmedH U.vm) (h : nwAll s) : nwAll U := ⟨va_Nw.warmM hW h.1, va_Nw.warmM hW h.2.1, va_Nw.warmM hW h.2.2.1, va_Nw.warmM hW h.2.2.2.1, va_Nw.warmM hW h.2.2.2.2.1, va_Nw.warmM hW h.2.2.2.2.2.1, va_Nw.warmM hW h.2.2.2.2.2.2.1, va_Nw.warmM hW h.2.2.2.2.2.2.2.1, va_Nw.warmM hW h.2.2.2.2.2.2.2.2.1, va_Nw.warmM hW h.2.2.2.2.2.2.2.2.2.1, va_Nw.warmM hW h.2.2.2.2.2.2.2.2.2.2⟩
theorem nwAll.same {u U : State} (e : u.vm = U.vm) (h : nwAll u) : nwAll U := ⟨va_Nw.same rfl e h.1, va_Nw.same rfl e h.2.1, va_Nw.same rfl e h.2.2.1, va_Nw.same rfl e h.2.2.2.1, va_Nw.same rfl e h.2.2.2.2.1, va_Nw.same rfl e h.2.2.2.2.2.1, va_Nw.same rfl e h.2.2.2.2.2.2.1, va_Nw.same rfl e h.2.2.2.2.2.2.2.1, va_Nw.same rfl e h.2.2.2.2.2.2.2.2.1, va_Nw.same rfl e h.2.2.2.2.2.2.2.2.2.1, va_Nw.same rfl e h.2.2.2.2.2.2.2.2.2.2⟩
def cPre (dC : Nat → ClassId) (dI : Nat → Nat → Nat) (cI cJ cZ : ClassId) (sz : Nat) (ws : va_W) (U : State) : Prop := U.heap.size = sz ∧ va_P (dC, dI) vwCl ws U.heap ∧ va_K (dC, dI) vwCl (ty3 cI cJ cZ) U ∧ va_D (fun _ => True) ws ∧ nwAll U
abbrev cPost (dC : Nat → ClassId) (dI : Nat → Nat → Nat) (cI cJ cZ : ClassId) (A : Nat → Prop) (ws : va_W) (t : State) : Prop := va_P (dC, dI) vwCl ws t.heap ∧ va_K (dC, dI) vwCl (ty3 cI cJ cZ) t ∧ va_D A ws
theorem cPre_blind {dC : Nat → ClassId} {dI : Nat → Nat → Nat} {cI cJ cZ : ClassId} {sz : Nat} {ws : va_W} {av : List Value} : FrameBlind (va_Pc av (cPre dC dI cI cJ cZ sz ws)) := by
  intro a U g mk q
  obtain ⟨q0, q1, qP, qK, qD, qN⟩ := q
  exact ⟨q0, q1, qP, va_K.moved (u := U) (U := U.calling g mk a) (Vm.Alike.refl U.vm) qK, qD, nwAll.same (u := U) (U := U.calling g mk a) rfl qN⟩
theorem cPre_of {dC : Nat → ClassId} {dI : Nat → Nat → Nat} {cI cJ cZ : ClassId} {wc : va_W} {av : List Value} {s : State} {H : Heap} {A : Nat → Prop} (hK : va_K (dC, dI) vwCl (ty3 cI cJ cZ) s) (hN : nwAll s) (hP : va_P (dC, dI) vwCl wc H) (hD : va_D A wc) : ∀ U : State, U.heap = H → s.WarmedH U.vm → va_Pc av (cPre dC dI cI cJ cZ H.size wc) av.toArray U := by
  intro U hU hW
  exact ⟨rfl, by rw [hU], by rw [hU]; exact hP, va_K.moved hW.alike hK, hD.weaken (fun _ _ _ _ => trivial), hN.warm hW⟩
section MYR
variable {p : Program} {l : Launch} {e : Env} {R : Room} {s : State} {m : MethodId} {args : Array Value} {below : List Frame} {meth : Method} {c : Code} {H : Heap} {locs : List Loc} {cells slots : Nat} {Q : State → Prop}
variable {cc : ByteArray} {pc : Nat} {ls : Array Slot} {rest : List Value} {D : va_G} {cl : List vw_C} {A : Nat → Prop} {ws : va_W} {H0 : Heap}
theorem my_topi {x y : Int32} (h : x = y) (k : W p l e R s m args below meth c H locs cells slots Q (F0 m pc ls (.int y :: rest))) : W p l e R s m args below meth c H locs cells slots Q (F0 m pc ls (.int x :: rest)) := h ▸ k
theorem my_topl {x y : Int64} (h : x = y) (k : W p l e R s m args below meth c H locs cells slots Q (F0 m pc ls (.long y :: rest))) : W p l e R s m args below meth c H locs cells slots Q (F0 m pc ls (.long x :: rest)) := h ▸ k
theorem my_newaI {cI cJ cZ : ClassId} (hexec : p.tables.exec = Jvm.exec) (hb : c.code = cc) (harr : (Cond.arrayClass .int).before args s = true) (hK : va_K D cl (ty3 cI cJ cZ) s) (hP : va_P D cl ws H) (hD : va_D A ws) (hS : va_S A H0 H locs) (hA : ∀ q, H0.size ≤ q → A q)
    {n : Int32} {N' : Nat} (hn : ¬ n < 0) (hN : n.toNatClampNeg = N') (hbytes : N' * componentBytes .int ≤ 536870912) (hcells : cells + 1 ≤ R.cells) (hslots : slots + N' ≤ R.slots) (hdg : decode cc pc = .ok (.newarray .int, 2))
    (kk : ∀ (q : Nat) (H1 : Heap), va_P D cl (ws ++ [(q, .inl (cI, N', .inl (fun _ => 0)))]) H1 → va_D A (ws ++ [(q, .inl (cI, N', .inl (fun _ => 0)))]) → va_S A H0 H1 locs →
      W p l e R s m args below meth c H1 locs (cells + 1) (slots + N') Q (F0 m (pc + 2) ls (.ref q :: rest))) : W p l e R s m args below meth c H locs cells slots Q (F0 m pc ls (.int n :: rest)) := by
  refine va_newa (atype := .int) (ty := .int) hexec hb harr rfl hK hP hD hS hA (a0 := (N', .inl (fun _ => 0))) (fun cA => rfl) hn hN hbytes hcells hslots hdg (fun q cA H1 hK1 hP1 hD1 hS1 => ?_)
  have e1 := va_nm_int (hK.2 0 (cI, .int) rfl).2
  have e2 := va_nm_int (hK1.2 3 (cA, .int) rfl).2
  have e3 : cI = cA := Option.some.inj (e1.symm.trans e2)
  subst e3
  exact kk q H1 hP1 hD1 hS1
theorem my_newaJ {cI cJ cZ : ClassId} (hexec : p.tables.exec = Jvm.exec) (hb : c.code = cc) (harr : (Cond.arrayClass .long).before args s = true) (hK : va_K D cl (ty3 cI cJ cZ) s) (hP : va_P D cl ws H) (hD : va_D A ws) (hS : va_S A H0 H locs) (hA : ∀ q, H0.size ≤ q → A q)
    {n : Int32} {N' : Nat} (hn : ¬ n < 0) (hN : n.toNatClampNeg = N') (hbytes : N' * componentBytes .long ≤ 536870912) (hcells : cells + 1 ≤ R.cells) (hslots : slots + N' ≤ R.slots) (hdg : decode cc pc = .ok (.newarray .long, 2))
    (kk : ∀ (q : Nat) (H1 : Heap), va_P D cl (ws ++ [(q, .inl (cJ, N', .inr (.inl (fun _ => 0))))]) H1 → va_D A (ws ++ [(q, .inl (cJ, N', .inr (.inl (fun _ => 0))))]) → va_S A H0 H1 locs →
      W p l e R s m args below meth c H1 locs (cells + 1) (slots + N') Q (F0 m (pc + 2) ls (.ref q :: rest))) : W p l e R s m args below meth c H locs cells slots Q (F0 m pc ls (.int n :: rest)) := by
  refine va_newa (atype := .long) (ty := .long) hexec hb harr rfl hK hP hD hS hA (a0 := (N', .inr (.inl (fun _ => 0)))) (fun cA => rfl) hn hN hbytes hcells hslots hdg (fun q cA H1 hK1 hP1 hD1 hS1 => ?_)
  have e1 := va_nm_long (hK.2 1 (cJ, .long) rfl).2
  have e2 := va_nm_long (hK1.2 3 (cA, .long) rfl).2
  have e3 : cJ = cA := Option.some.inj (e1.symm.trans e2)
  subst e3
  exact kk q H1 hP1 hD1 hS1
theorem my_newaZ {cI cJ cZ : ClassId} (hexec : p.tables.exec = Jvm.exec) (hb : c.code = cc) (harr : (Cond.arrayClass .boolean).before args s = true) (hK : va_K D cl (ty3 cI cJ cZ) s) (hP : va_P D cl ws H) (hD : va_D A ws) (hS : va_S A H0 H locs) (hA : ∀ q, H0.size ≤ q → A q)
    {n : Int32} {N' : Nat} (hn : ¬ n < 0) (hN : n.toNatClampNeg = N') (hbytes : N' * componentBytes .boolean ≤ 536870912) (hcells : cells + 1 ≤ R.cells) (hslots : slots + N' ≤ R.slots) (hdg : decode cc pc = .ok (.newarray .boolean, 2))
    (kk : ∀ (q : Nat) (H1 : Heap), va_P D cl (ws ++ [(q, .inl (cZ, N', .inl (fun _ => 0)))]) H1 → va_D A (ws ++ [(q, .inl (cZ, N', .inl (fun _ => 0)))]) → va_S A H0 H1 locs →
      W p l e R s m args below meth c H1 locs (cells + 1) (slots + N') Q (F0 m (pc + 2) ls (.ref q :: rest))) : W p l e R s m args below meth c H locs cells slots Q (F0 m pc ls (.int n :: rest)) := by
  refine va_newa (atype := .boolean) (ty := .boolean) hexec hb harr rfl hK hP hD hS hA (a0 := (N', .inl (fun _ => 0))) (fun cA => rfl) hn hN hbytes hcells hslots hdg (fun q cA H1 hK1 hP1 hD1 hS1 => ?_)
  have e1 := va_nm_boolean (hK.2 2 (cZ, .boolean) rfl).2
  have e2 := va_nm_boolean (hK1.2 3 (cA, .boolean) rfl).2
  have e3 : cZ = cA := Option.some.inj (e1.symm.trans e2)
  subst e3
  exact kk q H1 hP1 hD1 hS1
/-- a loop that counts from 0 up to N: the world and the locals at its head are told by the count -/
theorem my_loop {nL : Nat} (N : Nat) (wld : Nat → va_W) (loc : Nat → List (Nat × Value)) {st : List Value}
    (hP : va_P D cl (wld 0) H) (hD : va_D A (wld 0)) (hS : va_S A H0 H locs) (hl : lv_has ls nL (loc 0))
    (ex : ∀ (H : Heap) (locs : List Loc) (ls : Array Slot), va_P D cl (wld N) H → va_D A (wld N) → va_S A H0 H locs → lv_has ls nL (loc N) → W p l e R s m args below meth c H locs cells slots Q (F0 m pc ls st))
    (step : ∀ i : Nat, i < N → (∀ (H : Heap) (locs : List Loc) (ls : Array Slot), va_P D cl (wld (i + 1)) H → va_D A (wld (i + 1)) → va_S A H0 H locs → lv_has ls nL (loc (i + 1)) → W p l e R s m args below meth c H locs cells slots Q (F0 m pc ls st)) →
      ∀ (H : Heap) (locs : List Loc) (ls : Array Slot), va_P D cl (wld i) H → va_D A (wld i) → va_S A H0 H locs → lv_has ls nL (loc i) → W p l e R s m args below meth c H locs cells slots Q (F0 m pc ls st)) :
    W p l e R s m args below meth c H locs cells slots Q (F0 m pc ls st) := by
  have key : ∀ (n i : Nat), i + n = N → ∀ (H : Heap) (locs : List Loc) (ls : Array Slot), va_P D cl (wld i) H → va_D A (wld i) → va_S A H0 H locs → lv_has ls nL (loc i) → W p l e R s m args below meth c H locs cells slots Q (F0 m pc ls st) := by
    intro n
    induction n with
    | zero => intro i hi; have hi : i = N := by omega
              subst hi; exact ex
    | succ n ih => intro i hi; exact step i (by omega) (ih (i + 1) (by omega))
  exact key N 0 (by omega) H locs ls hP hD hS hl
end MYR
/-! safe rows: what is loaded and computed is a variable with facts -/
abbrev kT (_ : Int32) : Prop := True
abbrev lT (_ : Int64) : Prop := True
abbrev kZ (v : Int32) : Prop := v = 0 ∨ v = 1
abbrev kLE12 (v : Int32) : Prop := v.toInt ≤ 12
abbrev kR012 (v : Int32) : Prop := 0 ≤ v.toInt ∧ v.toInt ≤ 12
abbrev kSITE (v : Int32) : Prop := -1 ≤ v.toInt ∧ v.toInt ≤ 39
abbrev l12 (v : Int64) : Prop := v.toInt ≤ 12
theorem nar01 {v : Int32} (h : kZ v) : narrow .boolean (.int v) = .int v := by rcases h with rfl | rfl <;> rfl
theorem fit01 {v : Int32} (h : kZ v) : fits .boolean (.int v) = true := by rcases h with rfl | rfl <;> rfl
theorem vpn01 (x : Int32) : kZ (vp_nar .boolean x) := by
  have h : vp_nar .boolean x = x &&& 1 := rfl
  rw [h]
  obtain ⟨j, hj, e⟩ := pk_andE x (m := 1) 1 (by decide)
  rw [e]
  have : j = 0 ∨ j = 1 := by omega
  rcases this with rfl | rfl
  · exact Or.inl rfl
  · exact Or.inr rfl
theorem upd_all {P : Int32 → Prop} {f : Nat → Int32} {k : Nat} {v : Int32} (h : ∀ j, P (f j)) (hv : P v) : ∀ j, P (upd f k v j) := by
  intro j
  simp only [upd]
  by_cases e : j = k
  · rw [if_pos e]; exact hv
  · rw [if_neg e]; exact h j
theorem updL_all {P : Int64 → Prop} {f : Nat → Int64} {k : Nat} {v : Int64} (h : ∀ j, P (f j)) (hv : P v) : ∀ j, P (vp_updL f k v j) := by
  intro j
  simp only [vp_updL]
  by_cases e : j = k
  · rw [if_pos e]; exact hv
  · rw [if_neg e]; exact h j
theorem cpy_all {α : Type} {P : α → Prop} {f g : Nat → α} {sp dp n : Nat} (hf : ∀ j, P (f j)) (hg : ∀ j, P (g j)) : ∀ j, P (va_cpy f g sp dp n j) := by
  intro j
  simp only [va_cpy]
  by_cases e : dp ≤ j ∧ j < dp + n
  · rw [if_pos e]; exact hf _
  · rw [if_neg e]; exact hg _
theorem ci_eq {x y : Int32} (h : x = y) : x.toInt = y.toInt := by rw [h]
theorem ci_ne {x y : Int32} (h : ¬ x = y) : ¬ x.toInt = y.toInt := fun q => h (Int32.toInt_inj.mp q)
theorem ci_lt {x y : Int32} (h : x < y) : x.toInt < y.toInt := lt_i h
theorem ci_nlt {x y : Int32} (h : ¬ x < y) : y.toInt ≤ x.toInt := nlt_i h
theorem ci_ge {x y : Int32} (h : y ≤ x) : y.toInt ≤ x.toInt := le_i h
theorem ci_nge {x y : Int32} (h : ¬ y ≤ x) : x.toInt < y.toInt := nle_i h
theorem ci_gt {x y : Int32} (h : y < x) : y.toInt < x.toInt := lt_i h
theorem ci_ngt {x y : Int32} (h : ¬ y < x) : x.toInt ≤ y.toInt := nlt_i h
theorem ci_le {x y : Int32} (h : x ≤ y) : x.toInt ≤ y.toInt := le_i h
theorem ci_nle {x y : Int32} (h : ¬ x ≤ y) : y.toInt < x.toInt := nle_i h
theorem lc_tri (x y : Int64) : (x.toInt < y.toInt ∧ lg_cmp x y = -1) ∨ (x.toInt = y.toInt ∧ lg_cmp x y = 0) ∨ (y.toInt < x.toInt ∧ lg_cmp x y = 1) := by
  unfold lg_cmp
  by_cases h1 : x > y
  · rw [if_pos h1]; exact Or.inr (Or.inr ⟨Int64.lt_iff_toInt_lt.mp h1, rfl⟩)
  · rw [if_neg h1]
    have h2 : x.toInt ≤ y.toInt := Int.not_lt.mp (fun q => h1 (Int64.lt_iff_toInt_lt.mpr q))
    by_cases h3 : x = y
    · rw [if_pos h3]; exact Or.inr (Or.inl ⟨by rw [h3], rfl⟩)
    · rw [if_neg h3]
      have h4 : ¬ x.toInt = y.toInt := fun q => h3 (Int64.toInt_inj.mp q)
      exact Or.inl ⟨by omega, rfl⟩
theorem lc_eq {x y : Int64} (h : lg_cmp x y = 0) : x.toInt = y.toInt := by
  rcases lc_tri x y with ⟨a, b⟩ | ⟨a, b⟩ | ⟨a, b⟩ <;> rw [b] at h
  · exact absurd h (by decide)
  · exact a
  · exact absurd h (by decide)
theorem lc_ne {x y : Int64} (h : ¬ lg_cmp x y = 0) : ¬ x.toInt = y.toInt := by
  rcases lc_tri x y with ⟨a, b⟩ | ⟨a, b⟩ | ⟨a, b⟩ <;> rw [b] at h
  · omega
  · exact absurd rfl h
  · omega
theorem lc_lt {x y : Int64} (h : lg_cmp x y < 0) : x.toInt < y.toInt := by
  rcases lc_tri x y with ⟨a, b⟩ | ⟨a, b⟩ | ⟨a, b⟩ <;> rw [b] at h
  · exact a
  · exact absurd h (by decide)
  · exact absurd h (by decide)
theorem lc_nlt {x y : Int64} (h : ¬ lg_cmp x y < 0) : y.toInt ≤ x.toInt := by
  rcases lc_tri x y with ⟨a, b⟩ | ⟨a, b⟩ | ⟨a, b⟩ <;> rw [b] at h
  · exact absurd (by decide) h
  · omega
  · omega
theorem lc_ge {x y : Int64} (h : 0 ≤ lg_cmp x y) : y.toInt ≤ x.toInt := by
  rcases lc_tri x y with ⟨a, b⟩ | ⟨a, b⟩ | ⟨a, b⟩ <;> rw [b] at h
  · exact absurd h (by decide)
  · omega
  · omega
theorem lc_nge {x y : Int64} (h : ¬ 0 ≤ lg_cmp x y) : x.toInt < y.toInt := by
  rcases lc_tri x y with ⟨a, b⟩ | ⟨a, b⟩ | ⟨a, b⟩ <;> rw [b] at h
  · exact a
  · exact absurd (by decide) h
  · exact absurd (by decide) h
theorem lc_gt {x y : Int64} (h : 0 < lg_cmp x y) : y.toInt < x.toInt := by
  rcases lc_tri x y with ⟨a, b⟩ | ⟨a, b⟩ | ⟨a, b⟩ <;> rw [b] at h
  · exact absurd h (by decide)
  · exact absurd h (by decide)
  · exact a
theorem lc_ngt {x y : Int64} (h : ¬ 0 < lg_cmp x y) : x.toInt ≤ y.toInt := by
  rcases lc_tri x y with ⟨a, b⟩ | ⟨a, b⟩ | ⟨a, b⟩ <;> rw [b] at h
  · omega
  · omega
  · exact absurd (by decide) h
theorem lc_le {x y : Int64} (h : lg_cmp x y ≤ 0) : x.toInt ≤ y.toInt := by
  rcases lc_tri x y with ⟨a, b⟩ | ⟨a, b⟩ | ⟨a, b⟩ <;> rw [b] at h
  · omega
  · omega
  · exact absurd h (by decide)
theorem lc_nle {x y : Int64} (h : ¬ lg_cmp x y ≤ 0) : y.toInt < x.toInt := by
  rcases lc_tri x y with ⟨a, b⟩ | ⟨a, b⟩ | ⟨a, b⟩ <;> rw [b] at h
  · exact absurd (by decide) h
  · exact absurd (by decide) h
  · exact a
theorem l_ne0 {y : Int64} (h : 0 < y.toInt) : ¬ y = 0 := fun q => by rw [q] at h; exact absurd h (by decide)
theorem i32r (x : Int32) : -2147483648 ≤ x.toInt ∧ x.toInt ≤ 2147483647 := by
  have h1 := Int32.le_toInt x
  have h2 := Int32.toInt_lt x
  omega
theorem i64r (x : Int64) : -9223372036854775808 ≤ x.toInt ∧ x.toInt ≤ 9223372036854775807 := by
  have h1 := Int64.le_toInt x
  have h2 := Int64.toInt_lt x
  omega
theorem bm32 {z : Int} (h : -2147483648 ≤ z ∧ z ≤ 2147483647) : z.bmod (2 ^ 32) = z := Int.bmod_eq_of_le (by omega) (by omega)
theorem bm64 {z : Int} (h : -9223372036854775808 ≤ z ∧ z ≤ 9223372036854775807) : z.bmod (2 ^ 64) = z := Int.bmod_eq_of_le (by omega) (by omega)
section SFR
variable {p : Program} {l : Launch} {e : Env} {R : Room} {s : State} {m : MethodId} {args : Array Value} {below : List Frame} {meth : Method} {c : Code} {H : Heap} {locs : List Loc} {cells slots : Nat} {Q : State → Prop}
variable {cc : ByteArray} {pc : Nat} {ls : Array Slot} {rest : List Value} {D : va_G} {cl : List vw_C} {A : Nat → Prop} {a : Nat} {tys : List (ClassId × FieldType)} {ws : va_W} {H0 : Heap}
theorem sf_iald (P : Int32 → Prop) (hexec : p.tables.exec = Jvm.exec) (hb : c.code = cc) (hK : va_K D cl tys s) (hP : va_P D cl ws H) (q0 t0 : Nat) {cA : ClassId} {n : Nat} {f : Nat → Int32} (ha : ws[q0]? = some (a, .inl (cA, n, .inl f))) (ht : tys[t0]? = some (cA, .int)) (hf : ∀ j, P (f j)) {i : Int32} (hin : vp_in i n) (hdg : decode cc pc = .ok (.iaload, 1))
    (kk : ∀ v : Int32, P v → v = f i.toNatClampNeg → W p l e R s m args below meth c H locs cells slots Q (F0 m (pc + 1) ls (.int v :: rest))) : W p l e R s m args below meth c H locs cells slots Q (F0 m pc ls (.int i :: .ref a :: rest)) :=
  va_iald hexec hb hK hP q0 t0 ha ht hin hdg (kk _ (hf _) rfl)
theorem sf_zald (P : Int32 → Prop) (hexec : p.tables.exec = Jvm.exec) (hb : c.code = cc) (hK : va_K D cl tys s) (hP : va_P D cl ws H) (q0 t0 : Nat) {cA : ClassId} {n : Nat} {f : Nat → Int32} (ha : ws[q0]? = some (a, .inl (cA, n, .inl f))) (ht : tys[t0]? = some (cA, .boolean)) (hf : ∀ j, P (f j)) {i : Int32} (hin : vp_in i n) (hdg : decode cc pc = .ok (.baload, 1))
    (kk : ∀ v : Int32, P v → v = f i.toNatClampNeg → W p l e R s m args below meth c H locs cells slots Q (F0 m (pc + 1) ls (.int v :: rest))) : W p l e R s m args below meth c H locs cells slots Q (F0 m pc ls (.int i :: .ref a :: rest)) :=
  va_zald hexec hb hK hP q0 t0 ha ht hin hdg (kk _ (hf _) rfl)
theorem sf_lald (P : Int64 → Prop) (hexec : p.tables.exec = Jvm.exec) (hb : c.code = cc) (hK : va_K D cl tys s) (hP : va_P D cl ws H) (q0 t0 : Nat) {cA : ClassId} {n : Nat} {f : Nat → Int64} (ha : ws[q0]? = some (a, .inl (cA, n, .inr (.inl f)))) (ht : tys[t0]? = some (cA, .long)) (hf : ∀ j, P (f j)) {i : Int32} (hin : vp_in i n) (hdg : decode cc pc = .ok (.laload, 1))
    (kk : ∀ v : Int64, P v → v = f i.toNatClampNeg → W p l e R s m args below meth c H locs cells slots Q (F0 m (pc + 1) ls (.long v :: rest))) : W p l e R s m args below meth c H locs cells slots Q (F0 m pc ls (.int i :: .ref a :: rest)) :=
  va_lald hexec hb hK hP q0 t0 ha ht hin hdg (kk _ (hf _) rfl)
theorem sf_iast (P : Int32 → Prop) (hexec : p.tables.exec = Jvm.exec) (hb : c.code = cc) (hK : va_K D cl tys s) (hP : va_P D cl ws H) (hD : va_D A ws) (hS : va_S A H0 H locs) (q0 t0 : Nat) {cA : ClassId} {n : Nat} {f : Nat → Int32} (ha : ws[q0]? = some (a, .inl (cA, n, .inl f))) (ht : tys[t0]? = some (cA, .int)) (hf : ∀ j, P (f j)) {i : Int32} {x : Int32} (hv : P x) (hin : vp_in i n) (hdg : decode cc pc = .ok (.iastore, 1))
    (kk : ∀ (f1 : Nat → Int32), (∀ j, P (f1 j)) → f1 i.toNatClampNeg = x → ∀ (H1 : Heap) (locs1 : List Loc), va_P D cl (ws.set q0 (a, .inl (cA, n, .inl f1))) H1 → va_D A (ws.set q0 (a, .inl (cA, n, .inl f1))) → va_S A H0 H1 locs1 → W p l e R s m args below meth c H1 locs1 cells slots Q (F0 m (pc + 1) ls rest)) : W p l e R s m args below meth c H locs cells slots Q (F0 m pc ls (.int x :: .int i :: .ref a :: rest)) :=
  va_iast hexec hb hK hP hD hS q0 t0 ha ht hin hdg (fun H1 locs1 => kk _ (upd_all hf hv) (by simp [upd]) H1 locs1)
theorem sf_zast (hexec : p.tables.exec = Jvm.exec) (hb : c.code = cc) (hK : va_K D cl tys s) (hP : va_P D cl ws H) (hD : va_D A ws) (hS : va_S A H0 H locs) (q0 t0 : Nat) {cA : ClassId} {n : Nat} {f : Nat → Int32} (ha : ws[q0]? = some (a, .inl (cA, n, .inl f))) (ht : tys[t0]? = some (cA, .boolean)) (hf : ∀ j, kZ (f j)) {i : Int32} {x : Int32} (hin : vp_in i n) (hdg : decode cc pc = .ok (.bastore, 1))
    (kk : ∀ (f1 : Nat → Int32), (∀ j, kZ (f1 j)) → f1 i.toNatClampNeg = vp_nar .boolean x → ∀ (H1 : Heap) (locs1 : List Loc), va_P D cl (ws.set q0 (a, .inl (cA, n, .inl f1))) H1 → va_D A (ws.set q0 (a, .inl (cA, n, .inl f1))) → va_S A H0 H1 locs1 → W p l e R s m args below meth c H1 locs1 cells slots Q (F0 m (pc + 1) ls rest)) : W p l e R s m args below meth c H locs cells slots Q (F0 m pc ls (.int x :: .int i :: .ref a :: rest)) :=
  va_zast hexec hb hK hP hD hS q0 t0 ha ht hin hdg (fun H1 locs1 => kk _ (upd_all hf (vpn01 x)) (by simp [upd]) H1 locs1)
theorem sf_last (P : Int64 → Prop) (hexec : p.tables.exec = Jvm.exec) (hb : c.code = cc) (hK : va_K D cl tys s) (hP : va_P D cl ws H) (hD : va_D A ws) (hS : va_S A H0 H locs) (q0 t0 : Nat) {cA : ClassId} {n : Nat} {f : Nat → Int64} (ha : ws[q0]? = some (a, .inl (cA, n, .inr (.inl f)))) (ht : tys[t0]? = some (cA, .long)) (hf : ∀ j, P (f j)) {i : Int32} {x : Int64} (hv : P x) (hin : vp_in i n) (hdg : decode cc pc = .ok (.lastore, 1))
    (kk : ∀ (f1 : Nat → Int64), (∀ j, P (f1 j)) → f1 i.toNatClampNeg = x → ∀ (H1 : Heap) (locs1 : List Loc), va_P D cl (ws.set q0 (a, .inl (cA, n, .inr (.inl f1)))) H1 → va_D A (ws.set q0 (a, .inl (cA, n, .inr (.inl f1)))) → va_S A H0 H1 locs1 → W p l e R s m args below meth c H1 locs1 cells slots Q (F0 m (pc + 1) ls rest)) : W p l e R s m args below meth c H locs cells slots Q (F0 m pc ls (.long x :: .int i :: .ref a :: rest)) :=
  va_last hexec hb hK hP hD hS q0 t0 ha ht hin hdg (fun H1 locs1 => kk _ (updL_all hf hv) (by simp [vp_updL]) H1 locs1)
theorem sf_iadd (hexec : p.tables.exec = Jvm.exec) (hb : c.code = cc) {x y : Int32} (hdg : decode cc pc = .ok (.iadd, 1)) (h : -2147483648 ≤ x.toInt + y.toInt ∧ x.toInt + y.toInt ≤ 2147483647)
    (kk : ∀ v : Int32, v.toInt = x.toInt + y.toInt → W p l e R s m args below meth c H locs cells slots Q (F0 m (pc + 1) ls (.int v :: rest))) : W p l e R s m args below meth c H locs cells slots Q (F0 m pc ls (.int y :: .int x :: rest)) :=
  lv_iadd hexec hb hdg (kk _ (by rw [Int32.toInt_add, bm32 h]))
theorem sf_isub (hexec : p.tables.exec = Jvm.exec) (hb : c.code = cc) {x y : Int32} (hdg : decode cc pc = .ok (.isub, 1)) (h : -2147483648 ≤ x.toInt - y.toInt ∧ x.toInt - y.toInt ≤ 2147483647)
    (kk : ∀ v : Int32, v.toInt = x.toInt - y.toInt → W p l e R s m args below meth c H locs cells slots Q (F0 m (pc + 1) ls (.int v :: rest))) : W p l e R s m args below meth c H locs cells slots Q (F0 m pc ls (.int y :: .int x :: rest)) :=
  lv_isub hexec hb hdg (kk _ (by rw [Int32.toInt_sub, bm32 h]))
theorem sf_imul (hexec : p.tables.exec = Jvm.exec) (hb : c.code = cc) {x y : Int32} {w z : Int} (hdg : decode cc pc = .ok (.imul, 1)) (hx : x.toInt = w) (hy : y.toInt = z) (h : -2147483648 ≤ w * z ∧ w * z ≤ 2147483647)
    (kk : ∀ v : Int32, v.toInt = w * z → W p l e R s m args below meth c H locs cells slots Q (F0 m (pc + 1) ls (.int v :: rest))) : W p l e R s m args below meth c H locs cells slots Q (F0 m pc ls (.int y :: .int x :: rest)) :=
  lv_imul hexec hb hdg (kk _ (by rw [Int32.toInt_mul, hx, hy, bm32 h]))
theorem sf_ladd (hexec : p.tables.exec = Jvm.exec) (hb : c.code = cc) {x y : Int64} (hdg : decode cc pc = .ok (.ladd, 1)) (h : -9223372036854775808 ≤ x.toInt + y.toInt ∧ x.toInt + y.toInt ≤ 9223372036854775807)
    (kk : ∀ v : Int64, v.toInt = x.toInt + y.toInt → W p l e R s m args below meth c H locs cells slots Q (F0 m (pc + 1) ls (.long v :: rest))) : W p l e R s m args below meth c H locs cells slots Q (F0 m pc ls (.long y :: .long x :: rest)) :=
  lv_ladd hexec hb hdg (kk _ (by rw [Int64.toInt_add, bm64 h]))
theorem sf_lsub (hexec : p.tables.exec = Jvm.exec) (hb : c.code = cc) {x y : Int64} (hdg : decode cc pc = .ok (.lsub, 1)) (h : -9223372036854775808 ≤ x.toInt - y.toInt ∧ x.toInt - y.toInt ≤ 9223372036854775807)
    (kk : ∀ v : Int64, v.toInt = x.toInt - y.toInt → W p l e R s m args below meth c H locs cells slots Q (F0 m (pc + 1) ls (.long v :: rest))) : W p l e R s m args below meth c H locs cells slots Q (F0 m pc ls (.long y :: .long x :: rest)) :=
  lv_lsub hexec hb hdg (kk _ (by rw [Int64.toInt_sub, bm64 h]))
theorem sf_i2l (hexec : p.tables.exec = Jvm.exec) (hb : c.code = cc) {x : Int32} (hdg : decode cc pc = .ok (.i2l, 1))
    (kk : ∀ v : Int64, (v.toInt = x.toInt ∧ -2147483648 ≤ v.toInt ∧ v.toInt ≤ 2147483647) → W p l e R s m args below meth c H locs cells slots Q (F0 m (pc + 1) ls (.long v :: rest))) : W p l e R s m args below meth c H locs cells slots Q (F0 m pc ls (.int x :: rest)) :=
  lv_i2l hexec hb hdg rfl (kk _ (by have h1 := i32r x; have h2 : x.toInt64.toInt = x.toInt := by simp
                                    omega))
theorem sf_l2i (hexec : p.tables.exec = Jvm.exec) (hb : c.code = cc) {x : Int64} (hdg : decode cc pc = .ok (.l2i, 1)) (h : -2147483648 ≤ x.toInt ∧ x.toInt ≤ 2147483647)
    (kk : ∀ v : Int32, v.toInt = x.toInt → W p l e R s m args below meth c H locs cells slots Q (F0 m (pc + 1) ls (.int v :: rest))) : W p l e R s m args below meth c H locs cells slots Q (F0 m pc ls (.long x :: rest)) :=
  lv_l2i hexec hb hdg rfl (kk _ (by rw [Int64.toInt_toInt32, bm32 h]))
theorem sf_iinc (hexec : p.tables.exec = Jvm.exec) (hb : c.code = cc) {i nL k : Nat} {n w : Int} {x : Int32} {lv : List (Nat × Value)} (hdg : decode cc pc = .ok (.iinc i n, 3)) (h : lv_has ls nL lv) (hk : lv[k]? = some (i, .int x)) (hw : (Int32.ofInt n).toInt = w) (hn : i < nL) (hr : -2147483648 ≤ x.toInt + w ∧ x.toInt + w ≤ 2147483647)
    (kk : ∀ v : Int32, v.toInt = x.toInt + w → ∀ ls1 : Array Slot, lv_has ls1 nL ((i, Value.int v) :: lv.filter (fun q => !(q.1 == i) && !(q.1 + 1 == i && q.2.category == 2))) → W p l e R s m args below meth c H locs cells slots Q (F0 m (pc + 3) ls1 rest)) : W p l e R s m args below meth c H locs cells slots Q (F0 m pc ls rest) :=
  lv_iinc hexec hb hdg h hk rfl hn rfl (kk _ (by rw [Int32.toInt_add, hw, bm32 hr]))
theorem sf_iincA (hexec : p.tables.exec = Jvm.exec) (hb : c.code = cc) {i nL k : Nat} {n : Int} {x : Int32} {lv : List (Nat × Value)} (hdg : decode cc pc = .ok (.iinc i n, 3)) (h : lv_has ls nL lv) (hk : lv[k]? = some (i, .int x)) (hn : i < nL)
    (kk : ∀ v : Int32, ∀ ls1 : Array Slot, lv_has ls1 nL ((i, Value.int v) :: lv.filter (fun q => !(q.1 == i) && !(q.1 + 1 == i && q.2.category == 2))) → W p l e R s m args below meth c H locs cells slots Q (F0 m (pc + 3) ls1 rest)) : W p l e R s m args below meth c H locs cells slots Q (F0 m pc ls rest) :=
  lv_iinc hexec hb hdg h hk rfl hn rfl (kk _)
theorem my_wloop {S : Type} (I : S → Prop) (μ : S → Nat) (wld : S → va_W) (loc : S → List (Nat × Value)) {nL : Nat} {st : List Value} (u0 : S) (h0 : I u0)
    (hP : va_P D cl (wld u0) H) (hD : va_D A (wld u0)) (hS : va_S A H0 H locs) (hl : lv_has ls nL (loc u0))
    (step : ∀ u : S, I u → (∀ u1 : S, I u1 → μ u1 < μ u → ∀ (H : Heap) (locs : List Loc) (ls : Array Slot), va_P D cl (wld u1) H → va_D A (wld u1) → va_S A H0 H locs → lv_has ls nL (loc u1) → W p l e R s m args below meth c H locs cells slots Q (F0 m pc ls st)) →
      ∀ (H : Heap) (locs : List Loc) (ls : Array Slot), va_P D cl (wld u) H → va_D A (wld u) → va_S A H0 H locs → lv_has ls nL (loc u) → W p l e R s m args below meth c H locs cells slots Q (F0 m pc ls st)) :
    W p l e R s m args below meth c H locs cells slots Q (F0 m pc ls st) := by
  have key : ∀ (n : Nat) (u : S), μ u < n → I u → ∀ (H : Heap) (locs : List Loc) (ls : Array Slot), va_P D cl (wld u) H → va_D A (wld u) → va_S A H0 H locs → lv_has ls nL (loc u) → W p l e R s m args below meth c H locs cells slots Q (F0 m pc ls st) := by
    intro n
    induction n with
    | zero => intro u h; exact absurd h (Nat.not_lt_zero _)
    | succ n ih => intro u h hI; exact step u hI (fun u1 h1 h2 => ih u1 (by omega) h1)
  exact key (μ u0 + 1) u0 (by omega) h0 H locs ls hP hD hS hl
/-- where two ways meet: what holds there is said once -/
theorem my_join {S : Type} (I : S → Prop) (wld : S → va_W) (loc : S → List (Nat × Value)) (stk : S → List Value) {nL : Nat} (pj : Nat) {g : JFrame}
    (cont : ∀ u : S, I u → ∀ (H : Heap) (locs : List Loc) (ls : Array Slot), va_P D cl (wld u) H → va_D A (wld u) → va_S A H0 H locs → lv_has ls nL (loc u) → W p l e R s m args below meth c H locs cells slots Q (F0 m pj ls (stk u)))
    (k : (∀ u : S, I u → ∀ (H : Heap) (locs : List Loc) (ls : Array Slot), va_P D cl (wld u) H → va_D A (wld u) → va_S A H0 H locs → lv_has ls nL (loc u) → W p l e R s m args below meth c H locs cells slots Q (F0 m pj ls (stk u))) → W p l e R s m args below meth c H locs cells slots Q g) : W p l e R s m args below meth c H locs cells slots Q g := k cont
theorem my_joinP {S : Type} (I : S → Prop) (loc : S → List (Nat × Value)) (stk : S → List Value) {nL : Nat} (pj : Nat) {g : JFrame}
    (cont : ∀ u : S, I u → ∀ (ls : Array Slot), lv_has ls nL (loc u) → W p l e R s m args below meth c H locs cells slots Q (F0 m pj ls (stk u)))
    (k : (∀ u : S, I u → ∀ (ls : Array Slot), lv_has ls nL (loc u) → W p l e R s m args below meth c H locs cells slots Q (F0 m pj ls (stk u))) → W p l e R s m args below meth c H locs cells slots Q g) : W p l e R s m args below meth c H locs cells slots Q g := k cont
theorem sf_mmax (hexec : p.tables.exec = Jvm.exec) (hb : c.code = cc) (hml : c.maxLocals = ls.size) {own : String} {index : Nat} (hown : s.vm.findClass own = some m.cls) (hlink : (Cond.methodLink own index Lib.Math.max.name).before args s = true) (hstat : (Cond.static Lib.Math.max.name).before args s = true) (hini : (Cond.initialized "java/lang/Math").before args s = true) (hcode : (Cond.code Lib.Math.max.name Lib.Math.max.code 2 (some .int)).before args s = true)
    (hframes : 1 ≤ R.frames) (hlocals : (rest.map fun v => v.category).sum + 13 ≤ R.locals) (hc : cells ≤ R.cells) (hs : slots ≤ R.slots) {x y : Int32} (hdg : decode cc pc = .ok (.invokestatic index, 3))
    (kk : ∀ v : Int32, (x.toInt ≤ v.toInt ∧ y.toInt ≤ v.toInt ∧ (v.toInt = x.toInt ∨ v.toInt = y.toInt)) → W p l e R s m args below meth c H locs cells slots Q (F0 m (pc + 3) ls (.int v :: rest))) : W p l e R s m args below meth c H locs cells slots Q (F0 m pc ls (.int y :: .int x :: rest)) := by
  refine va_mmax hexec hb hml hown hlink hstat hini hcode hframes hlocals hc hs hdg (kk _ ?_)
  by_cases h : x < y
  · rw [if_pos h]; have := lt_i h; omega
  · rw [if_neg h]; have := nlt_i h; omega
theorem sf_mmin (hexec : p.tables.exec = Jvm.exec) (hb : c.code = cc) (hml : c.maxLocals = ls.size) {own : String} {index : Nat} (hown : s.vm.findClass own = some m.cls) (hlink : (Cond.methodLink own index Lib.Math.min.name).before args s = true) (hstat : (Cond.static Lib.Math.min.name).before args s = true) (hini : (Cond.initialized "java/lang/Math").before args s = true) (hcode : (Cond.code Lib.Math.min.name Lib.Math.min.code 2 (some .int)).before args s = true)
    (hframes : 1 ≤ R.frames) (hlocals : (rest.map fun v => v.category).sum + 13 ≤ R.locals) (hc : cells ≤ R.cells) (hs : slots ≤ R.slots) {x y : Int32} (hdg : decode cc pc = .ok (.invokestatic index, 3))
    (kk : ∀ v : Int32, (v.toInt ≤ x.toInt ∧ v.toInt ≤ y.toInt ∧ (v.toInt = x.toInt ∨ v.toInt = y.toInt)) → W p l e R s m args below meth c H locs cells slots Q (F0 m (pc + 3) ls (.int v :: rest))) : W p l e R s m args below meth c H locs cells slots Q (F0 m pc ls (.int y :: .int x :: rest)) := by
  refine va_mmin hexec hb hml hown hlink hstat hini hcode hframes hlocals hc hs hdg (kk _ ?_)
  first
    | (by_cases h : y < x
       · rw [if_pos h]; have := lt_i h; omega
       · rw [if_neg h]; have := nlt_i h; omega)
    | (by_cases h : x < y
       · rw [if_pos h]; have := lt_i h; omega
       · rw [if_neg h]; have := nlt_i h; omega)
theorem sf_mminl (hexec : p.tables.exec = Jvm.exec) (hb : c.code = cc) (hml : c.maxLocals = ls.size) {own : String} {index : Nat} (hown : s.vm.findClass own = some m.cls) (hlink : (Cond.methodLink own index Lib.MathLoose.min_long.x).before args s = true) (hstat : (Cond.static Lib.MathLoose.min_long.x).before args s = true) (hini : (Cond.initialized "java/lang/Math").before args s = true) (hcode : (Cond.code Lib.MathLoose.min_long.x Lib.MathLoose.min_long.code 4 (some .long)).before args s = true)
    (hframes : 1 ≤ R.frames) (hlocals : (rest.map fun v => v.category).sum + 15 ≤ R.locals) (hc : cells ≤ R.cells) (hs : slots ≤ R.slots) {x y : Int64} (hdg : decode cc pc = .ok (.invokestatic index, 3))
    (kk : ∀ v : Int64, True → W p l e R s m args below meth c H locs cells slots Q (F0 m (pc + 3) ls (.long v :: rest))) : W p l e R s m args below meth c H locs cells slots Q (F0 m pc ls (.long y :: .long x :: rest)) :=
  va_mmin_long hexec hb hml hown hlink hstat hini hcode hframes hlocals hc hs hdg (kk _ trivial)
theorem nn_cl {z : Int32} (h : 0 ≤ z.toInt) : (z.toNatClampNeg : Int) = z.toInt := by
  have h1 : ¬ z < 0 := fun q => by have := lt_i q; have h0 : (0 : Int32).toInt = 0 := by decide
                                   omega
  obtain ⟨j, hj, rfl⟩ := nI_of h1
  rw [nI_clamp hj, nI_toInt hj]
theorem sf_copyi (P : Int32 → Prop) (hexec : p.tables.exec = Jvm.exec) (hb : c.code = cc) (hml : c.maxLocals = ls.size) {own : String} {index : Nat} (hown : s.vm.findClass own = some m.cls) (hlink : (Cond.methodLink own index arraycopyName).before args s = true) (hnat : (Cond.native arraycopyName).before args s = true) (hstat : (Cond.static arraycopyName).before args s = true) (hini : (Cond.initialized "java/lang/System").before args s = true)
    (hK : va_K D cl tys s) (hP : va_P D cl ws H) (hD : va_D A ws) (hS : va_S A H0 H locs) (q0 q1 t0 t1 : Nat) {a0 : Nat} {c0 c1 : ClassId} {n0 n1 : Nat} {f g : Nat → Int32} (ha0 : ws[q0]? = some (a0, .inl (c0, n0, .inl f))) (ha1 : ws[q1]? = some (a, .inl (c1, n1, .inl g))) (ht0 : tys[t0]? = some (c0, .int)) (ht1 : tys[t1]? = some (c1, .int)) (hf : ∀ j, P (f j)) (hg : ∀ j, P (g j))
    {sp dp n : Int32} (h1 : 0 ≤ sp.toInt) (h2 : 0 ≤ dp.toInt) (h3 : 0 ≤ n.toInt) (h4 : sp.toInt + n.toInt ≤ n0) (h5 : dp.toInt + n.toInt ≤ n1)
    (hframes : 1 ≤ R.frames) (hlocals : (rest.map fun v => v.category).sum + (nativeFrameWords "java/lang/System" "arraycopy" 5 + 11) ≤ R.locals) (hdg : decode cc pc = .ok (.invokestatic index, 3))
    (kk : ∀ (f1 : Nat → Int32), (∀ j, P (f1 j)) → ∀ (H1 : Heap) (locs1 : List Loc), va_P D cl (ws.set q1 (a, .inl (c1, n1, .inl f1))) H1 → va_D A (ws.set q1 (a, .inl (c1, n1, .inl f1))) → va_S A H0 H1 locs1 → W p l e R s m args below meth c H1 locs1 cells slots Q (F0 m (pc + 3) ls rest)) : W p l e R s m args below meth c H locs cells slots Q (F0 m pc ls (.int n :: .int dp :: .ref a :: .int sp :: .ref a0 :: rest)) := by
  have z0 : (0 : Int32).toInt = 0 := by decide
  have e1 := nn_cl h1
  have e2 := nn_cl h2
  have e3 := nn_cl h3
  exact va_copyi hexec hb hml hown hlink hnat hstat hini hK hP hD hS q0 q1 t0 t1 ha0 ha1 ht0 ht1 rfl (fun q => by have := lt_i q; omega) (fun q => by have := lt_i q; omega) (fun q => by have := lt_i q; omega) (by omega) (by omega) (fun _ _ => rfl) hframes hlocals hdg (fun H1 locs1 => kk _ (cpy_all hf hg) H1 locs1)
theorem sf_copyl (P : Int64 → Prop) (hexec : p.tables.exec = Jvm.exec) (hb : c.code = cc) (hml : c.maxLocals = ls.size) {own : String} {index : Nat} (hown : s.vm.findClass own = some m.cls) (hlink : (Cond.methodLink own index arraycopyName).before args s = true) (hnat : (Cond.native arraycopyName).before args s = true) (hstat : (Cond.static arraycopyName).before args s = true) (hini : (Cond.initialized "java/lang/System").before args s = true)
    (hK : va_K D cl tys s) (hP : va_P D cl ws H) (hD : va_D A ws) (hS : va_S A H0 H locs) (q0 q1 t0 t1 : Nat) {a0 : Nat} {c0 c1 : ClassId} {n0 n1 : Nat} {f g : Nat → Int64} (ha0 : ws[q0]? = some (a0, .inl (c0, n0, .inr (.inl f)))) (ha1 : ws[q1]? = some (a, .inl (c1, n1, .inr (.inl g)))) (ht0 : tys[t0]? = some (c0, .long)) (ht1 : tys[t1]? = some (c1, .long)) (hf : ∀ j, P (f j)) (hg : ∀ j, P (g j))
    {sp dp n : Int32} (h1 : 0 ≤ sp.toInt) (h2 : 0 ≤ dp.toInt) (h3 : 0 ≤ n.toInt) (h4 : sp.toInt + n.toInt ≤ n0) (h5 : dp.toInt + n.toInt ≤ n1)
    (hframes : 1 ≤ R.frames) (hlocals : (rest.map fun v => v.category).sum + (nativeFrameWords "java/lang/System" "arraycopy" 5 + 11) ≤ R.locals) (hdg : decode cc pc = .ok (.invokestatic index, 3))
    (kk : ∀ (f1 : Nat → Int64), (∀ j, P (f1 j)) → ∀ (H1 : Heap) (locs1 : List Loc), va_P D cl (ws.set q1 (a, .inl (c1, n1, .inr (.inl f1)))) H1 → va_D A (ws.set q1 (a, .inl (c1, n1, .inr (.inl f1)))) → va_S A H0 H1 locs1 → W p l e R s m args below meth c H1 locs1 cells slots Q (F0 m (pc + 3) ls rest)) : W p l e R s m args below meth c H locs cells slots Q (F0 m pc ls (.int n :: .int dp :: .ref a :: .int sp :: .ref a0 :: rest)) := by
  have z0 : (0 : Int32).toInt = 0 := by decide
  have e1 := nn_cl h1
  have e2 := nn_cl h2
  have e3 := nn_cl h3
  exact va_copyl hexec hb hml hown hlink hnat hstat hini hK hP hD hS q0 q1 t0 t1 ha0 ha1 ht0 ht1 rfl (fun q => by have := lt_i q; omega) (fun q => by have := lt_i q; omega) (fun q => by have := lt_i q; omega) (by omega) (by omega) (fun _ _ => rfl) hframes hlocals hdg (fun H1 locs1 => kk _ (cpy_all hf hg) H1 locs1)
end SFR
/-! word lists put together out of the callees' lists -/
def gdL (ws : List Cond) : Prop := ∀ w ∈ ws, (w.onTables && w.keeps) = true ∨ ∃ ty, w = .arrayClass ty
theorem gdW {ws : List Cond} (h : ws.all goodWord = true) : gdL ws := fun w hw => good_of_word (List.all_eq_true.mp h w hw)
theorem gdE : gdL [] := fun w hw => absurd hw List.not_mem_nil
theorem gdC {c : Cond} {ws : List Cond} (hc : gdL [c]) (h : gdL ws) : gdL (c :: ws) := fun w hw => (List.mem_cons.mp hw).elim (fun e => hc w (List.mem_cons.mpr (Or.inl e))) (h w)
theorem gdA {a b : List Cond} (ha : gdL a) (hb : gdL b) : gdL (a ++ b) := fun w hw => (List.mem_append.mp hw).elim (ha w) (hb w)
theorem gdI {big hd ws : List Cond} (ps : List Nat) (hp : hd = ps.filterMap (fun i => big[i]?)) (hg : hd.all goodWord = true) (hm : ∀ w ∈ ws, w ∈ big) (h : gdL ws) : GoodIn big (hd ++ ws) := fun w hw => (List.mem_append.mp hw).elim (fun q => ⟨by rw [hp] at q; obtain ⟨i, -, hi⟩ := List.mem_filterMap.mp q; exact List.mem_of_getElem? hi, good_of_word (List.all_eq_true.mp hg w q)⟩) (fun q => ⟨hm w q, h w q⟩)
set_option maxRecDepth 20000 in
theorem gd_wsX00 : gdL wsX00 := gdW (by decide +kernel)
set_option maxRecDepth 20000 in
theorem gd_wsX10 : gdL wsX10 := gdW (by decide +kernel)
set_option maxRecDepth 20000 in
theorem gd_wsX20 : gdL wsX20 := gdW (by decide +kernel)
set_option maxRecDepth 20000 in
theorem gd_wsX30 : gdL wsX30 := gdW (by decide +kernel)
set_option maxRecDepth 20000 in
theorem gd_wsX40 : gdL wsX40 := gdW (by decide +kernel)
set_option maxRecDepth 20000 in
theorem gd_wsX50 : gdL wsX50 := gdW (by decide +kernel)
theorem two_kz {r : Int32} {P : Prop} (h : two r P 1 0) : kZ r := h.elim (fun q => Or.inr q.1) (fun q => Or.inl q.1)
section SFR2
variable {p : Program} {l : Launch} {e : Env} {R : Room} {s : State} {m : MethodId} {args : Array Value} {below : List Frame} {meth : Method} {c : Code} {H : Heap} {locs : List Loc} {cells slots : Nat} {Q : State → Prop}
variable {cc : ByteArray} {pc : Nat} {ls : Array Slot} {rest : List Value}
theorem sf_mminl2 (hexec : p.tables.exec = Jvm.exec) (hb : c.code = cc) (hml : c.maxLocals = ls.size) {own : String} {index : Nat} (hown : s.vm.findClass own = some m.cls) (hlink : (Cond.methodLink own index Lib.MathLoose.min_long.x).before args s = true) (hstat : (Cond.static Lib.MathLoose.min_long.x).before args s = true) (hini : (Cond.initialized "java/lang/Math").before args s = true) (hcode : (Cond.code Lib.MathLoose.min_long.x Lib.MathLoose.min_long.code 4 (some .long)).before args s = true)
    (hframes : 1 ≤ R.frames) (hlocals : (rest.map fun v => v.category).sum + 15 ≤ R.locals) (hc : cells ≤ R.cells) (hs : slots ≤ R.slots) {x y : Int64} (hdg : decode cc pc = .ok (.invokestatic index, 3))
    (kk : ∀ v : Int64, (v.toInt ≤ x.toInt ∧ v.toInt ≤ y.toInt ∧ (v.toInt = x.toInt ∨ v.toInt = y.toInt)) → W p l e R s m args below meth c H locs cells slots Q (F0 m (pc + 3) ls (.long v :: rest))) : W p l e R s m args below meth c H locs cells slots Q (F0 m pc ls (.long y :: .long x :: rest)) := by
  refine va_mmin_long hexec hb hml hown hlink hstat hini hcode hframes hlocals hc hs hdg (kk _ ?_)
  by_cases h : y < x
  · rw [if_pos h]; have := Int64.lt_iff_toInt_lt.mp h; omega
  · rw [if_neg h]
    have : x.toInt ≤ y.toInt := Int.not_lt.mp (fun q => h (Int64.lt_iff_toInt_lt.mpr q))
    omega
end SFR2
