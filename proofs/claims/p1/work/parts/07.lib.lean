/-! own words: overlays of rows, two-valued answers, a contract's start and end, rows of the kit at fixed array classes -/
def ov (g : Nat → Int32) (n : Nat) (v : Int32) : Nat → Int32 := fun j => if j < n then v else g j
def ovL (g : Nat → Int64) (n : Nat) (v : Int64) : Nat → Int64 := fun j => if j < n then v else g j
theorem ov_0 (g : Nat → Int32) (v : Int32) : ov g 0 v = g := by funext j; simp [ov]
theorem ovL_0 (g : Nat → Int64) (v : Int64) : ovL g 0 v = g := by funext j; simp [ovL]
theorem ov_s (g : Nat → Int32) (i : Nat) (v : Int32) : upd (ov g i v) i v = ov g (i + 1) v := by
  funext j
  simp only [upd, ov]
  by_cases h : j = i
  · subst h; simp
  · by_cases h2 : j < i
    · rw [if_neg h, if_pos h2, if_pos (by omega)]
    · rw [if_neg h, if_neg h2, if_neg (by omega)]
theorem ovL_s (g : Nat → Int64) (i : Nat) (v : Int64) : vp_updL (ovL g i v) i v = ovL g (i + 1) v := by
  funext j
  simp only [vp_updL, ovL]
  by_cases h : j = i
  · subst h; simp
  · by_cases h2 : j < i
    · rw [if_neg h, if_pos h2, if_pos (by omega)]
    · rw [if_neg h, if_neg h2, if_neg (by omega)]
theorem ov_st (g : Nat → Int32) {i : Nat} (v : Int32) (h : i < 2 ^ 31) : upd (ov g i v) (nI i).toNatClampNeg v = ov g (i + 1) v := by rw [nI_clamp h]; exact ov_s g i v
theorem ovL_st (g : Nat → Int64) {i : Nat} (v : Int64) (h : i < 2 ^ 31) : vp_updL (ovL g i v) (nI i).toNatClampNeg v = ovL g (i + 1) v := by rw [nI_clamp h]; exact ovL_s g i v
theorem ov_stZ (g : Nat → Int32) {i : Nat} (v : Int32) (h : i < 2 ^ 31) (hv : vp_nar .boolean v = v) : upd (ov g i v) (nI i).toNatClampNeg (vp_nar .boolean v) = ov g (i + 1) v := by rw [hv]; exact ov_st g v h
theorem ov_in (g : Nat → Int32) {n j : Nat} (v : Int32) (h : j < n) : ov g n v j = v := by simp [ov, h]
theorem ovL_in (g : Nat → Int64) {n j : Nat} (v : Int64) (h : j < n) : ovL g n v j = v := by simp [ovL, h]
theorem ov_nI (g : Nat → Int32) {n j : Nat} (v : Int32) (h : j < n) (hn : n < 2 ^ 31) : ov g n v (nI j).toNatClampNeg = v := by rw [nI_clamp (by omega)]; exact ov_in g v h
theorem ovL_nI (g : Nat → Int64) {n j : Nat} (v : Int64) (h : j < n) (hn : n < 2 ^ 31) : ovL g n v (nI j).toNatClampNeg = v := by rw [nI_clamp (by omega)]; exact ovL_in g v h
abbrev V6 (x : Int32) : Prop := 0 ≤ x.toInt ∧ x.toInt < 6
abbrev V3 (x : Int32) : Prop := 0 ≤ x.toInt ∧ x.toInt < 3
abbrev VN (x : Int32) : Prop := -1000000 ≤ x.toInt ∧ x.toInt ≤ 1000000
/-- what promise 3 lets pass as an ACT -/
def okP (k a b c d e : Int32) : Prop :=
  (k.toInt = 0 ∧ V6 a ∧ VN b) ∨ (k.toInt = 1 ∧ V6 a ∧ VN b ∧ VN c ∧ b.toInt ≤ c.toInt) ∨ (k.toInt = 2 ∧ V6 a ∧ V6 b ∧ V6 c) ∨ (k.toInt = 3 ∧ V6 a ∧ V6 b ∧ V6 c) ∨ (k.toInt = 4 ∧ V6 a ∧ V3 b ∧ V6 c) ∨ (k.toInt = 5 ∧ V6 a) ∨ (k.toInt = 6 ∧ V6 a ∧ V6 b) ∨ (k.toInt = 7 ∧ V6 a ∧ V6 b ∧ V6 c) ∨ (k.toInt = 8 ∧ V6 a ∧ V6 b) ∨ (k.toInt = 9 ∧ V6 a ∧ V3 b ∧ V6 c ∧ V6 d) ∨ (k.toInt = 10 ∧ V6 a ∧ V6 b ∧ V3 c ∧ V6 d) ∨ (k.toInt = 11 ∧ V6 a ∧ V6 b ∧ V6 c ∧ V6 d ∧ V6 e) ∨ (k.toInt = 12 ∧ V6 a ∧ V3 b ∧ V6 c ∧ V6 d ∧ V6 e) ∨ (k.toInt = 13 ∧ V6 a ∧ V6 b) ∨ (k.toInt = 14 ∧ 1 ≤ b.toInt ∧ b.toInt ≤ 10)
theorem okP_0 {k a b c d e : Int32} (hk : k.toInt = 0) : okP k a b c d e ↔ (V6 a ∧ VN b) := ⟨fun h => by
  rcases h with h | h | h | h | h | h | h | h | h | h | h | h | h | h | h
  all_goals first | exact h.2 | exact absurd (hk.symm.trans h.1) (by decide), fun h => Or.inl ⟨hk, h⟩⟩
theorem okP_1 {k a b c d e : Int32} (hk : k.toInt = 1) : okP k a b c d e ↔ (V6 a ∧ VN b ∧ VN c ∧ b.toInt ≤ c.toInt) := ⟨fun h => by
  rcases h with h | h | h | h | h | h | h | h | h | h | h | h | h | h | h
  all_goals first | exact h.2 | exact absurd (hk.symm.trans h.1) (by decide), fun h => Or.inr (Or.inl ⟨hk, h⟩)⟩
theorem okP_2 {k a b c d e : Int32} (hk : k.toInt = 2) : okP k a b c d e ↔ (V6 a ∧ V6 b ∧ V6 c) := ⟨fun h => by
  rcases h with h | h | h | h | h | h | h | h | h | h | h | h | h | h | h
  all_goals first | exact h.2 | exact absurd (hk.symm.trans h.1) (by decide), fun h => Or.inr (Or.inr (Or.inl ⟨hk, h⟩))⟩
theorem okP_3 {k a b c d e : Int32} (hk : k.toInt = 3) : okP k a b c d e ↔ (V6 a ∧ V6 b ∧ V6 c) := ⟨fun h => by
  rcases h with h | h | h | h | h | h | h | h | h | h | h | h | h | h | h
  all_goals first | exact h.2 | exact absurd (hk.symm.trans h.1) (by decide), fun h => Or.inr (Or.inr (Or.inr (Or.inl ⟨hk, h⟩)))⟩
theorem okP_4 {k a b c d e : Int32} (hk : k.toInt = 4) : okP k a b c d e ↔ (V6 a ∧ V3 b ∧ V6 c) := ⟨fun h => by
  rcases h with h | h | h | h | h | h | h | h | h | h | h | h | h | h | h
  all_goals first | exact h.2 | exact absurd (hk.symm.trans h.1) (by decide), fun h => Or.inr (Or.inr (Or.inr (Or.inr (Or.inl ⟨hk, h⟩))))⟩
theorem okP_5 {k a b c d e : Int32} (hk : k.toInt = 5) : okP k a b c d e ↔ (V6 a) := ⟨fun h => by
  rcases h with h | h | h | h | h | h | h | h | h | h | h | h | h | h | h
  all_goals first | exact h.2 | exact absurd (hk.symm.trans h.1) (by decide), fun h => Or.inr (Or.inr (Or.inr (Or.inr (Or.inr (Or.inl ⟨hk, h⟩)))))⟩
theorem okP_6 {k a b c d e : Int32} (hk : k.toInt = 6) : okP k a b c d e ↔ (V6 a ∧ V6 b) := ⟨fun h => by
  rcases h with h | h | h | h | h | h | h | h | h | h | h | h | h | h | h
  all_goals first | exact h.2 | exact absurd (hk.symm.trans h.1) (by decide), fun h => Or.inr (Or.inr (Or.inr (Or.inr (Or.inr (Or.inr (Or.inl ⟨hk, h⟩))))))⟩
theorem okP_7 {k a b c d e : Int32} (hk : k.toInt = 7) : okP k a b c d e ↔ (V6 a ∧ V6 b ∧ V6 c) := ⟨fun h => by
  rcases h with h | h | h | h | h | h | h | h | h | h | h | h | h | h | h
  all_goals first | exact h.2 | exact absurd (hk.symm.trans h.1) (by decide), fun h => Or.inr (Or.inr (Or.inr (Or.inr (Or.inr (Or.inr (Or.inr (Or.inl ⟨hk, h⟩)))))))⟩
theorem okP_8 {k a b c d e : Int32} (hk : k.toInt = 8) : okP k a b c d e ↔ (V6 a ∧ V6 b) := ⟨fun h => by
  rcases h with h | h | h | h | h | h | h | h | h | h | h | h | h | h | h
  all_goals first | exact h.2 | exact absurd (hk.symm.trans h.1) (by decide), fun h => Or.inr (Or.inr (Or.inr (Or.inr (Or.inr (Or.inr (Or.inr (Or.inr (Or.inl ⟨hk, h⟩))))))))⟩
theorem okP_9 {k a b c d e : Int32} (hk : k.toInt = 9) : okP k a b c d e ↔ (V6 a ∧ V3 b ∧ V6 c ∧ V6 d) := ⟨fun h => by
  rcases h with h | h | h | h | h | h | h | h | h | h | h | h | h | h | h
  all_goals first | exact h.2 | exact absurd (hk.symm.trans h.1) (by decide), fun h => Or.inr (Or.inr (Or.inr (Or.inr (Or.inr (Or.inr (Or.inr (Or.inr (Or.inr (Or.inl ⟨hk, h⟩)))))))))⟩
theorem okP_10 {k a b c d e : Int32} (hk : k.toInt = 10) : okP k a b c d e ↔ (V6 a ∧ V6 b ∧ V3 c ∧ V6 d) := ⟨fun h => by
  rcases h with h | h | h | h | h | h | h | h | h | h | h | h | h | h | h
  all_goals first | exact h.2 | exact absurd (hk.symm.trans h.1) (by decide), fun h => Or.inr (Or.inr (Or.inr (Or.inr (Or.inr (Or.inr (Or.inr (Or.inr (Or.inr (Or.inr (Or.inl ⟨hk, h⟩))))))))))⟩
theorem okP_11 {k a b c d e : Int32} (hk : k.toInt = 11) : okP k a b c d e ↔ (V6 a ∧ V6 b ∧ V6 c ∧ V6 d ∧ V6 e) := ⟨fun h => by
  rcases h with h | h | h | h | h | h | h | h | h | h | h | h | h | h | h
  all_goals first | exact h.2 | exact absurd (hk.symm.trans h.1) (by decide), fun h => Or.inr (Or.inr (Or.inr (Or.inr (Or.inr (Or.inr (Or.inr (Or.inr (Or.inr (Or.inr (Or.inr (Or.inl ⟨hk, h⟩)))))))))))⟩
theorem okP_12 {k a b c d e : Int32} (hk : k.toInt = 12) : okP k a b c d e ↔ (V6 a ∧ V3 b ∧ V6 c ∧ V6 d ∧ V6 e) := ⟨fun h => by
  rcases h with h | h | h | h | h | h | h | h | h | h | h | h | h | h | h
  all_goals first | exact h.2 | exact absurd (hk.symm.trans h.1) (by decide), fun h => Or.inr (Or.inr (Or.inr (Or.inr (Or.inr (Or.inr (Or.inr (Or.inr (Or.inr (Or.inr (Or.inr (Or.inr (Or.inl ⟨hk, h⟩))))))))))))⟩
theorem okP_13 {k a b c d e : Int32} (hk : k.toInt = 13) : okP k a b c d e ↔ (V6 a ∧ V6 b) := ⟨fun h => by
  rcases h with h | h | h | h | h | h | h | h | h | h | h | h | h | h | h
  all_goals first | exact h.2 | exact absurd (hk.symm.trans h.1) (by decide), fun h => Or.inr (Or.inr (Or.inr (Or.inr (Or.inr (Or.inr (Or.inr (Or.inr (Or.inr (Or.inr (Or.inr (Or.inr (Or.inr (Or.inl ⟨hk, h⟩)))))))))))))⟩
theorem okP_14 {k a b c d e : Int32} (hk : k.toInt = 14) : okP k a b c d e ↔ (1 ≤ b.toInt ∧ b.toInt ≤ 10) := ⟨fun h => by
  rcases h with h | h | h | h | h | h | h | h | h | h | h | h | h | h | h
  all_goals first | exact h.2 | exact absurd (hk.symm.trans h.1) (by decide), fun h => Or.inr (Or.inr (Or.inr (Or.inr (Or.inr (Or.inr (Or.inr (Or.inr (Or.inr (Or.inr (Or.inr (Or.inr (Or.inr (Or.inr (⟨hk, h⟩))))))))))))))⟩
theorem okP_out {k a b c d e : Int32} (hk : k.toInt < 0 ∨ 14 < k.toInt) : ¬ okP k a b c d e := fun h => by
  rcases h with h | h | h | h | h | h | h | h | h | h | h | h | h | h | h
  all_goals (have := h.1; omega)
theorem v6_in {x : Int32} (h : V6 x) : vp_in x 6 := vp_in_iff.mpr ⟨h.1, by have := h.2; omega⟩
theorem v6_in12 {x : Int32} (h : V6 x) : vp_in x 12 := vp_in_iff.mpr ⟨h.1, by have := h.2; omega⟩
theorem v6_cl {x : Int32} (h : V6 x) : x.toNatClampNeg < 6 := by
  obtain ⟨j, hj, rfl⟩ := vp_in_of (v6_in h) (by decide)
  rw [nI_clamp (by omega)]; exact hj
theorem ov_v6 (g : Nat → Int32) {x : Int32} (v : Int32) (h : V6 x) : ov g 6 v x.toNatClampNeg = v := ov_in g v (v6_cl h)
theorem ovL_v6 (g : Nat → Int64) {x : Int32} (v : Int64) (h : V6 x) : ovL g 6 v x.toNatClampNeg = v := ovL_in g v (v6_cl h)
theorem v6_nI {i : Nat} (h : i < 6) : V6 (nI i) := by
  have h1 := nI_toInt (n := i) (by omega)
  constructor <;> omega
/-- an answer that is A where P holds, and B where it doesn't -/
def two (r : Int32) (P : Prop) (A B : Int32) : Prop := (r = A ∧ P) ∨ (r = B ∧ ¬ P)
theorem two_z {r : Int32} {P : Prop} (h : two r P 1 0) (c : r = 0) : ¬ P := by
  rcases h with ⟨h, -⟩ | ⟨-, h⟩
  · rw [h] at c; exact absurd c (by decide)
  · exact h
theorem two_nz {r : Int32} {P : Prop} (h : two r P 1 0) (c : ¬ r = 0) : P := by
  rcases h with ⟨-, h⟩ | ⟨h, -⟩
  · exact h
  · exact absurd h c
theorem two_eq {r r' : Int32} {P : Prop} {A B : Int32} (h : two r P A B) (h' : two r' P A B) : r = r' := by
  rcases h with ⟨a, b⟩ | ⟨a, b⟩ <;> rcases h' with ⟨c, d⟩ | ⟨c, d⟩
  · rw [a, c]
  · exact absurd b d
  · exact absurd d b
  · rw [a, c]
theorem lt_i {x y : Int32} (h : x < y) : x.toInt < y.toInt := Int32.lt_iff_toInt_lt.mp h
theorem le_i {x y : Int32} (h : x ≤ y) : x.toInt ≤ y.toInt := Int32.le_iff_toInt_le.mp h
theorem nlt_i {x y : Int32} (h : ¬ x < y) : y.toInt ≤ x.toInt := Int.not_lt.mp (fun q => h (Int32.lt_iff_toInt_lt.mpr q))
theorem nle_i {x y : Int32} (h : ¬ x ≤ y) : y.toInt < x.toInt := Int.not_le.mp (fun q => h (Int32.le_iff_toInt_le.mpr q))
theorem shr0 (y : Int64) : (0 : Int64) >>> y = 0 := by
  rw [← Int64.toBitVec_inj]
  simp [Int64.toBitVec_shiftRight]
abbrev ty3 (cI cJ cZ : ClassId) : List (ClassId × FieldType) := [(cI, .int), (cJ, .long), (cZ, .boolean)]
/-- the links between nest mates that are walked -/
def nwAll (U : State) : Prop := va_Nw (.methodLinkNest RX4 9 yX3_init RX4) U ∧ va_Nw (.methodLinkNest RX4 18 yX1_init RX4) U ∧ va_Nw (.methodLinkNest RX1 11 yX0_init RX4) U ∧ va_Nw (.methodLinkNest RX3 23 yX4_isVariable RX4) U ∧ va_Nw (.methodLinkNest RX3 27 yX4_isNumber RX4) U ∧ va_Nw (.methodLinkNest RX3 30 yX4_isReference RX4) U ∧ va_Nw (.methodLinkNest RX3 33 yX4_isLane RX4) U
theorem nwAll.warm {s U : State} (hW : s.WarmedH U.vm) (h : nwAll s) : nwAll U := ⟨va_Nw.warmM hW h.1, va_Nw.warmM hW h.2.1, va_Nw.warmM hW h.2.2.1, va_Nw.warmM hW h.2.2.2.1, va_Nw.warmM hW h.2.2.2.2.1, va_Nw.warmM hW h.2.2.2.2.2.1, va_Nw.warmM hW h.2.2.2.2.2.2⟩
theorem nwAll.same {u U : State} (e : u.vm = U.vm) (h : nwAll u) : nwAll U := ⟨va_Nw.same rfl e h.1, va_Nw.same rfl e h.2.1, va_Nw.same rfl e h.2.2.1, va_Nw.same rfl e h.2.2.2.1, va_Nw.same rfl e h.2.2.2.2.1, va_Nw.same rfl e h.2.2.2.2.2.1, va_Nw.same rfl e h.2.2.2.2.2.2⟩
def cPre (dC : Nat → ClassId) (dI : Nat → Nat → Nat) (cI cJ cZ : ClassId) (sz : Nat) (ws : va_W) (U : State) : Prop := U.heap.size = sz ∧ va_P (dC, dI) vwCl ws U.heap ∧ va_K (dC, dI) vwCl (ty3 cI cJ cZ) U ∧ va_D (fun _ => True) ws ∧ nwAll U
abbrev cPost (dC : Nat → ClassId) (dI : Nat → Nat → Nat) (cI cJ cZ : ClassId) (A : Nat → Prop) (ws : va_W) (t : State) : Prop := va_P (dC, dI) vwCl ws t.heap ∧ va_K (dC, dI) vwCl (ty3 cI cJ cZ) t ∧ va_D A ws
theorem cPre_blind {dC : Nat → ClassId} {dI : Nat → Nat → Nat} {cI cJ cZ : ClassId} {sz : Nat} {ws : va_W} {av : List Value} : FrameBlind (va_Pc av (cPre dC dI cI cJ cZ sz ws)) := by
  intro a U g mk q
  obtain ⟨q0, q1, qP, qK, qD, qN⟩ := q
  exact ⟨q0, q1, qP, va_K.moved (u := U) (U := U.calling g mk a) (Vm.Alike.refl U.vm) qK, qD, nwAll.same (u := U) (U := U.calling g mk a) rfl qN⟩
theorem cPre_of {dC : Nat → ClassId} {dI : Nat → Nat → Nat} {cI cJ cZ : ClassId} {wc : va_W} {av : List Value} {s : State} {H : Heap} {A : Nat → Prop} (hK : va_K (dC, dI) vwCl (ty3 cI cJ cZ) s) (hN : nwAll s) (hP : va_P (dC, dI) vwCl wc H) (hD : va_D A wc) : ∀ U : State, U.heap = H → s.WarmedH U.vm → va_Pc av (cPre dC dI cI cJ cZ H.size wc) av.toArray U := by
  intro U hU hW
  exact ⟨rfl, by rw [hU], by rw [hU]; exact hP, va_K.moved hW.alike hK, hD.weaken (fun _ _ _ _ => trivial), hN.warm hW⟩
section MYR
variable {p : Program} {l : Launch} {e : Env} {R : Room} {s : State} {m : MethodId} {args : Array Value} {below : List Frame} {meth : Method} {c : Code} {H : Heap} {locs : List Loc} {cells slots : Nat} {Q : State → Prop}
variable {cc : ByteArray} {pc : Nat} {ls : Array Slot} {rest : List Value} {D : va_G} {cl : List vw_C} {A : Nat → Prop} {ws : va_W} {H0 : Heap}
theorem my_topi {x y : Int32} (h : x = y) (k : W p l e R s m args below meth c H locs cells slots Q (F0 m pc ls (.int y :: rest))) : W p l e R s m args below meth c H locs cells slots Q (F0 m pc ls (.int x :: rest)) := h ▸ k
theorem my_topl {x y : Int64} (h : x = y) (k : W p l e R s m args below meth c H locs cells slots Q (F0 m pc ls (.long y :: rest))) : W p l e R s m args below meth c H locs cells slots Q (F0 m pc ls (.long x :: rest)) := h ▸ k
theorem my_newaI {cI cJ cZ : ClassId} (hexec : p.tables.exec = Jvm.exec) (hb : c.code = cc) (harr : (Cond.arrayClass .int).before args s = true) (hK : va_K D cl (ty3 cI cJ cZ) s) (hP : va_P D cl ws H) (hD : va_D A ws) (hS : va_S A H0 H locs) (hA : ∀ q, H0.size ≤ q → A q)
    {n : Int32} {N' : Nat} (hn : ¬ n < 0) (hN : n.toNatClampNeg = N') (hbytes : N' * componentBytes .int ≤ 536870912) (hcells : cells + 1 ≤ R.cells) (hslots : slots + N' ≤ R.slots) (hdg : decode cc pc = .ok (.newarray .int, 2))
    (kk : ∀ (q : Nat) (H1 : Heap), va_P D cl (ws ++ [(q, .inl (cI, N', .inl (fun _ => 0)))]) H1 → va_D A (ws ++ [(q, .inl (cI, N', .inl (fun _ => 0)))]) → va_S A H0 H1 locs →
      W p l e R s m args below meth c H1 locs (cells + 1) (slots + N') Q (F0 m (pc + 2) ls (.ref q :: rest))) : W p l e R s m args below meth c H locs cells slots Q (F0 m pc ls (.int n :: rest)) := by
  refine va_newa (atype := .int) (ty := .int) hexec hb harr rfl hK hP hD hS hA (a0 := (N', .inl (fun _ => 0))) (fun cA => rfl) hn hN hbytes hcells hslots hdg (fun q cA H1 hK1 hP1 hD1 hS1 => ?_)
  have e1 := va_nm_int (hK.2 0 (cI, .int) rfl).2
  have e2 := va_nm_int (hK1.2 3 (cA, .int) rfl).2
  have e3 : cI = cA := Option.some.inj (e1.symm.trans e2)
  subst e3
  exact kk q H1 hP1 hD1 hS1
theorem my_newaJ {cI cJ cZ : ClassId} (hexec : p.tables.exec = Jvm.exec) (hb : c.code = cc) (harr : (Cond.arrayClass .long).before args s = true) (hK : va_K D cl (ty3 cI cJ cZ) s) (hP : va_P D cl ws H) (hD : va_D A ws) (hS : va_S A H0 H locs) (hA : ∀ q, H0.size ≤ q → A q)
    {n : Int32} {N' : Nat} (hn : ¬ n < 0) (hN : n.toNatClampNeg = N') (hbytes : N' * componentBytes .long ≤ 536870912) (hcells : cells + 1 ≤ R.cells) (hslots : slots + N' ≤ R.slots) (hdg : decode cc pc = .ok (.newarray .long, 2))
    (kk : ∀ (q : Nat) (H1 : Heap), va_P D cl (ws ++ [(q, .inl (cJ, N', .inr (.inl (fun _ => 0))))]) H1 → va_D A (ws ++ [(q, .inl (cJ, N', .inr (.inl (fun _ => 0))))]) → va_S A H0 H1 locs →
      W p l e R s m args below meth c H1 locs (cells + 1) (slots + N') Q (F0 m (pc + 2) ls (.ref q :: rest))) : W p l e R s m args below meth c H locs cells slots Q (F0 m pc ls (.int n :: rest)) := by
  refine va_newa (atype := .long) (ty := .long) hexec hb harr rfl hK hP hD hS hA (a0 := (N', .inr (.inl (fun _ => 0)))) (fun cA => rfl) hn hN hbytes hcells hslots hdg (fun q cA H1 hK1 hP1 hD1 hS1 => ?_)
  have e1 := va_nm_long (hK.2 1 (cJ, .long) rfl).2
  have e2 := va_nm_long (hK1.2 3 (cA, .long) rfl).2
  have e3 : cJ = cA := Option.some.inj (e1.symm.trans e2)
  subst e3
  exact kk q H1 hP1 hD1 hS1
theorem my_newaZ {cI cJ cZ : ClassId} (hexec : p.tables.exec = Jvm.exec) (hb : c.code = cc) (harr : (Cond.arrayClass .boolean).before args s = true) (hK : va_K D cl (ty3 cI cJ cZ) s) (hP : va_P D cl ws H) (hD : va_D A ws) (hS : va_S A H0 H locs) (hA : ∀ q, H0.size ≤ q → A q)
    {n : Int32} {N' : Nat} (hn : ¬ n < 0) (hN : n.toNatClampNeg = N') (hbytes : N' * componentBytes .boolean ≤ 536870912) (hcells : cells + 1 ≤ R.cells) (hslots : slots + N' ≤ R.slots) (hdg : decode cc pc = .ok (.newarray .boolean, 2))
    (kk : ∀ (q : Nat) (H1 : Heap), va_P D cl (ws ++ [(q, .inl (cZ, N', .inl (fun _ => 0)))]) H1 → va_D A (ws ++ [(q, .inl (cZ, N', .inl (fun _ => 0)))]) → va_S A H0 H1 locs →
      W p l e R s m args below meth c H1 locs (cells + 1) (slots + N') Q (F0 m (pc + 2) ls (.ref q :: rest))) : W p l e R s m args below meth c H locs cells slots Q (F0 m pc ls (.int n :: rest)) := by
  refine va_newa (atype := .boolean) (ty := .boolean) hexec hb harr rfl hK hP hD hS hA (a0 := (N', .inl (fun _ => 0))) (fun cA => rfl) hn hN hbytes hcells hslots hdg (fun q cA H1 hK1 hP1 hD1 hS1 => ?_)
  have e1 := va_nm_boolean (hK.2 2 (cZ, .boolean) rfl).2
  have e2 := va_nm_boolean (hK1.2 3 (cA, .boolean) rfl).2
  have e3 : cZ = cA := Option.some.inj (e1.symm.trans e2)
  subst e3
  exact kk q H1 hP1 hD1 hS1
/-- a loop that counts from 0 up to N: the world and the locals at its head are told by the count -/
theorem my_loop {nL : Nat} (N : Nat) (wld : Nat → va_W) (loc : Nat → List (Nat × Value)) {st : List Value}
    (hP : va_P D cl (wld 0) H) (hD : va_D A (wld 0)) (hS : va_S A H0 H locs) (hl : lv_has ls nL (loc 0))
    (ex : ∀ (H : Heap) (locs : List Loc) (ls : Array Slot), va_P D cl (wld N) H → va_D A (wld N) → va_S A H0 H locs → lv_has ls nL (loc N) → W p l e R s m args below meth c H locs cells slots Q (F0 m pc ls st))
    (step : ∀ i : Nat, i < N → (∀ (H : Heap) (locs : List Loc) (ls : Array Slot), va_P D cl (wld (i + 1)) H → va_D A (wld (i + 1)) → va_S A H0 H locs → lv_has ls nL (loc (i + 1)) → W p l e R s m args below meth c H locs cells slots Q (F0 m pc ls st)) →
      ∀ (H : Heap) (locs : List Loc) (ls : Array Slot), va_P D cl (wld i) H → va_D A (wld i) → va_S A H0 H locs → lv_has ls nL (loc i) → W p l e R s m args below meth c H locs cells slots Q (F0 m pc ls st)) :
    W p l e R s m args below meth c H locs cells slots Q (F0 m pc ls st) := by
  have key : ∀ (n i : Nat), i + n = N → ∀ (H : Heap) (locs : List Loc) (ls : Array Slot), va_P D cl (wld i) H → va_D A (wld i) → va_S A H0 H locs → lv_has ls nL (loc i) → W p l e R s m args below meth c H locs cells slots Q (F0 m pc ls st) := by
    intro n
    induction n with
    | zero => intro i hi; have hi : i = N := by omega
              subst hi; exact ex
    | succ n ih => intro i hi; exact step i (by omega) (ih (i + 1) (by omega))
  exact key N 0 (by omega) H locs ls hP hD hS hl
end MYR
