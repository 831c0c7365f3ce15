/-! THE CLAIM OUT OF ONE WALK OF THE LAW'S BODY. Your part is whole_start (and what it stands on); all else here is the same for every law, but numbers. -/
def R_law : String := "ArraySegmentsLaw"
def lw_P (b : Addr) (xs : List Int32) (args : Array Value) (s : State) : Prop := args = #[.ref b] ∧ s.IntsAt b xs ∧ xs.length ≤ 3584 ∧ (Jvm.Cond.and given_1 narrow_1).before args s = true
def lw_Q (_ : Array Value) (s : State) (o : Outcome) (t : State) : Prop := o = .returned (some (.int 1)) ∧ Framed s o t [] 64 6560
def lw_Z (below : List Frame) (a : Array Value) (s : State) : State → Prop := fun t => ∃ o, t.status = .running ∧ Ended t below o ∧ lw_Q a s o t
/-- the law's own end, with 1 on the stack, nothing written that was there before, its room as the claim has it -/
theorem lw_ret {p : Program} {l : Launch} {e : Env} {s : State} {m : MethodId} {below : List Frame} {meth : Method} {c : Code} {b : Nat} (hx : p.tables.exec = Jvm.exec) (hb : c.code = code) (hr : meth.sig.returnType = ret) (hlocks : meth.locks = false) {pc : Nat} {H : Heap} {ls : Array Slot} (hdg : decode code pc = .ok (.ireturn, 1)) : W p l e room_1 s m #[Value.ref b] below meth c H [] 64 6560 (lw_Z below #[Value.ref b] s) (F0 m pc ls [.int 1]) := by
  intro T hT X
  obtain ⟨fs, hret, hrun, hended, hW, hframe⟩ := X.leave (v := some (.int 1)) (hlocks := hlocks) (fun h => by rw [hr] at h; cases h)
  have hmeth' : T.vm.method? m = some meth := X.method'
  refine ⟨T.setFrames fs, ?_, .returned (some (.int 1)), hrun, hended, rfl, ⟨_, rfl⟩, hW, hframe⟩
  jvm_step X.here [X.here.top, hx, hb, hdg, hmeth', hr, ret, narrow_b1]
  (try refine ⟨rfl, ?_⟩); (try refine ⟨rfl, ?_⟩)
  first | (intro acts; rw [hret _ acts rfl rfl rfl]) | rw [hret _ _ rfl rfl rfl]
  exact Steps.refl _
/-- what holds at the law's entry: the machine, the code, the tables' words (any of lw_tbl by 'hts w (by decide +kernel)'), the script of L ints xs at the cell b, what the Statement gives of the start (any of its parts by flat_of_before) -/
def lw_At (p : Program) (s : State) (m : MethodId) (meth : Method) (c : Code) (b L : Nat) (xs : Nat → Int32) : Prop :=
  p.tables.exec = Jvm.exec ∧ c.code = code ∧ meth.sig.returnType = ret ∧ c.maxLocals = 4 ∧ s.vm.findClass R_law = some m.cls ∧ (∀ w ∈ lw_tbl, w.before #[Value.ref b] s = true) ∧ va_X b L xs s s.heap ∧ b < s.heap.size ∧ meth.locks = false ∧ (Jvm.Cond.and given_1 narrow_1).before #[Value.ref b] s = true
theorem mem_r {big ws : List Cond} (ps : List Nat) (hp : ws = ps.filterMap (fun i => big[i]?)) : ∀ w ∈ ws, w ∈ big := by
  intro w hw
  rw [hp] at hw
  obtain ⟨i, -, hi⟩ := List.mem_filterMap.mp hw
  exact List.mem_of_getElem? hi
theorem mem_app {big a b : List Cond} (ha : ∀ w ∈ a, w ∈ big) (hb : ∀ w ∈ b, w ∈ big) : ∀ w ∈ a ++ b, w ∈ big := fun w h => (List.mem_append.mp h).elim (ha w) (hb w)
theorem mem_c {big b : List Cond} {c : Cond} (hc : c ∈ big) (hb : ∀ w ∈ b, w ∈ big) : ∀ w ∈ c :: b, w ∈ big := fun w h => (List.mem_cons.mp h).elim (fun e => by rw [e]; exact hc) (hb w)
theorem mem_n {big : List Cond} : ∀ w ∈ ([] : List Cond), w ∈ big := fun w h => absurd h List.not_mem_nil
theorem and31 (x : Int32) : 0 ≤ (x &&& 31).toInt ∧ (x &&& 31).toInt ≤ 31 := by
  obtain ⟨j, hj, e⟩ := pk_andE x (m := 31) 5 (by decide)
  rw [e, nI_toInt (by omega)]
  omega
theorem arr_int {args : Array Value} {s : State} (h : (Cond.arrayClass .int).before args s = true) : ∃ cA : ClassId, ArrOfT s cA .int ∧ va_RA s cA .int := by
  obtain ⟨c, k, comp, h1, h2, h3⟩ := Cond.arrayClass_spec h
  exact ⟨c, fun n z => ⟨fun k h => (by cases h), k, h2, comp, h3⟩, h1⟩
theorem arr_long {args : Array Value} {s : State} (h : (Cond.arrayClass .long).before args s = true) : ∃ cA : ClassId, ArrOfT s cA .long ∧ va_RA s cA .long := by
  obtain ⟨c, k, comp, h1, h2, h3⟩ := Cond.arrayClass_spec h
  exact ⟨c, fun n z => ⟨fun k h => (by cases h), k, h2, comp, h3⟩, h1⟩
theorem arr_boolean {args : Array Value} {s : State} (h : (Cond.arrayClass .boolean).before args s = true) : ∃ cA : ClassId, ArrOfT s cA .boolean ∧ va_RA s cA .boolean := by
  obtain ⟨c, k, comp, h1, h2, h3⟩ := Cond.arrayClass_spec h
  exact ⟨c, fun n z => ⟨fun k h => (by cases h), k, h2, comp, h3⟩, h1⟩
theorem slen7 {L : Nat} {v : Int32} (h : L ≤ 3584) (e : v = nI L - 7) : v.toInt = (L : Int) - 7 := by
  have h7 : (7 : Int32).toInt = 7 := by decide
  have hn : (nI L).toInt = (L : Int) := nI_toInt (by omega)
  rw [e, Int32.toInt_sub, hn, h7, bm32 (by omega)]
theorem addk {i : Int32} {k : Int32} {n : Int} (hk : k.toInt = n) (h : 0 ≤ i.toInt ∧ i.toInt ≤ 3584) (hn : 0 ≤ n ∧ n ≤ 10) : (i + k).toInt = i.toInt + n := by
  rw [Int32.toInt_add, hk, bm32 (by omega)]
theorem act_cnt {n n' : Int32} {P A B : Prop} (h0 : 0 ≤ n.toInt ∧ n.toInt ≤ 40) (hE : ((¬ P ∨ 40 ≤ n.toInt) ∧ n' = n ∧ A) ∨ (P ∧ n.toInt < 40 ∧ n'.toInt = n.toInt + 1 ∧ B)) : 0 ≤ n'.toInt ∧ n'.toInt ≤ 40 := by
  rcases hE with ⟨-, h, -⟩ | ⟨-, h1, h2, -⟩
  · rw [h]; exact h0
  · omega
theorem act_same {n n' m m' : Int32} {P A B A' B' : Prop} (e : n = m) (hE : ((¬ P ∨ 40 ≤ n.toInt) ∧ n' = n ∧ A) ∨ (P ∧ n.toInt < 40 ∧ n'.toInt = n.toInt + 1 ∧ B)) (hF : ((¬ P ∨ 40 ≤ m.toInt) ∧ m' = m ∧ A') ∨ (P ∧ m.toInt < 40 ∧ m'.toInt = m.toInt + 1 ∧ B')) : n' = m' := by
  subst e
  rcases hE with ⟨g, h, -⟩ | ⟨g, h1, h2, -⟩
  · rcases hF with ⟨-, h', -⟩ | ⟨g', h1', h2', -⟩
    · rw [h, h']
    · rcases g with g | g
      · exact absurd g' g
      · omega
  · rcases hF with ⟨g', h', -⟩ | ⟨g', h1', h2', -⟩
    · rcases g' with g' | g'
      · exact absurd g g'
      · omega
    · exact Int32.toInt_inj.mp (by omega)
theorem upd_at (f : Nat → Int32) (k : Nat) (v : Int32) {j : Nat} (h : j = k) : upd f k v j = v := by simp [upd, h]
theorem upd_ne (f : Nat → Int32) (k : Nat) (v : Int32) {j : Nat} (h : ¬ j = k) : upd f k v j = f j := by simp [upd, h]
theorem act_rc {n n' : Int32} {rw' rw0 dr dr' : Nat → Int32} {k a b c d e : Int32} (h0 : 0 ≤ n.toInt ∧ n.toInt ≤ 40) (hR : ∀ i : Nat, (i : Int) < n.toInt → okP (rw0 (6 * i)) (rw0 (6 * i + 1)) (rw0 (6 * i + 2)) (rw0 (6 * i + 3)) (rw0 (6 * i + 4)) (rw0 (6 * i + 5)))
    (hE : ((¬ okP k a b c d e ∨ 40 ≤ n.toInt) ∧ n' = n ∧ rw' = rw0 ∧ dr' = dr) ∨ (okP k a b c d e ∧ n.toInt < 40 ∧ n'.toInt = n.toInt + 1 ∧ rw' = (upd (upd (upd (upd (upd (upd rw0 (6 * n.toInt.toNat) k) (6 * n.toInt.toNat + 1) a) (6 * n.toInt.toNat + 2) b) (6 * n.toInt.toNat + 3) c) (6 * n.toInt.toNat + 4) d) (6 * n.toInt.toNat + 5) e) ∧ dr' = (upd dr (n.toInt.toNat) 0))) :
    ∀ i : Nat, (i : Int) < n'.toInt → okP (rw' (6 * i)) (rw' (6 * i + 1)) (rw' (6 * i + 2)) (rw' (6 * i + 3)) (rw' (6 * i + 4)) (rw' (6 * i + 5)) := by
  rcases hE with ⟨-, h1, h2, -⟩ | ⟨hok, h1, h2, h3, -⟩
  · rw [h1, h2]; exact hR
  · intro i hi
    rw [h3]
    by_cases g : i = n.toInt.toNat
    · have e0 : ∀ (t : Nat) (v : Int32), t = 0 → upd (upd (upd (upd (upd (upd rw0 (6 * n.toInt.toNat) k) (6 * n.toInt.toNat + 1) a) (6 * n.toInt.toNat + 2) b) (6 * n.toInt.toNat + 3) c) (6 * n.toInt.toNat + 4) d) (6 * n.toInt.toNat + 5) e (6 * i) = k := fun t v _ => by
        rw [upd_ne _ _ _ (by omega), upd_ne _ _ _ (by omega), upd_ne _ _ _ (by omega), upd_ne _ _ _ (by omega), upd_ne _ _ _ (by omega), upd_at _ _ _ (by omega)]
      rw [e0 0 k rfl]
      rw [upd_ne _ _ e (j := 6 * i + 1) (by omega), upd_ne _ _ d (j := 6 * i + 1) (by omega), upd_ne _ _ c (j := 6 * i + 1) (by omega), upd_ne _ _ b (j := 6 * i + 1) (by omega), upd_at _ _ a (j := 6 * i + 1) (by omega)]
      rw [upd_ne _ _ e (j := 6 * i + 2) (by omega), upd_ne _ _ d (j := 6 * i + 2) (by omega), upd_ne _ _ c (j := 6 * i + 2) (by omega), upd_at _ _ b (j := 6 * i + 2) (by omega)]
      rw [upd_ne _ _ e (j := 6 * i + 3) (by omega), upd_ne _ _ d (j := 6 * i + 3) (by omega), upd_at _ _ c (j := 6 * i + 3) (by omega)]
      rw [upd_ne _ _ e (j := 6 * i + 4) (by omega), upd_at _ _ d (j := 6 * i + 4) (by omega)]
      rw [upd_at _ _ e (j := 6 * i + 5) (by omega)]
      exact hok
    · have e0 : ∀ t j : Nat, t < 6 → j = 6 * i + t → upd (upd (upd (upd (upd (upd rw0 (6 * n.toInt.toNat) k) (6 * n.toInt.toNat + 1) a) (6 * n.toInt.toNat + 2) b) (6 * n.toInt.toNat + 3) c) (6 * n.toInt.toNat + 4) d) (6 * n.toInt.toNat + 5) e j = rw0 j := fun t j ht hj => by
        rw [upd_ne _ _ _ (by omega), upd_ne _ _ _ (by omega), upd_ne _ _ _ (by omega), upd_ne _ _ _ (by omega), upd_ne _ _ _ (by omega), upd_ne _ _ _ (by omega)]
      rw [e0 0 (6 * i) (by omega) (by omega), e0 1 (6 * i + 1) (by omega) rfl, e0 2 (6 * i + 2) (by omega) rfl, e0 3 (6 * i + 3) (by omega) rfl, e0 4 (6 * i + 4) (by omega) rfl, e0 5 (6 * i + 5) (by omega) rfl]
      exact hR i (by omega)
theorem act_rg {n n' : Int32} {f0 f1 f2 f3 f4 f5 g0 g1 g2 g3 g4 g5 dr dr' : Nat → Int32} {k a b c d e : Int32} (h0 : 0 ≤ n.toInt ∧ n.toInt ≤ 40) (hR : ∀ i : Nat, (i : Int) < n.toInt → okP (f0 i) (f1 i) (f2 i) (f3 i) (f4 i) (f5 i))
    (hE : ((¬ okP k a b c d e ∨ 40 ≤ n.toInt) ∧ n' = n ∧ g0 = f0 ∧ g1 = f1 ∧ g2 = f2 ∧ g3 = f3 ∧ g4 = f4 ∧ g5 = f5 ∧ dr' = dr) ∨ (okP k a b c d e ∧ n.toInt < 40 ∧ n'.toInt = n.toInt + 1 ∧ g0 = (upd f0 (n.toInt.toNat) k) ∧ g1 = (upd f1 (n.toInt.toNat) a) ∧ g2 = (upd f2 (n.toInt.toNat) b) ∧ g3 = (upd f3 (n.toInt.toNat) c) ∧ g4 = (upd f4 (n.toInt.toNat) d) ∧ g5 = (upd f5 (n.toInt.toNat) e) ∧ dr' = (upd dr (n.toInt.toNat) 0))) :
    ∀ i : Nat, (i : Int) < n'.toInt → okP (g0 i) (g1 i) (g2 i) (g3 i) (g4 i) (g5 i) := by
  rcases hE with ⟨-, h1, r0, r1, r2, r3, r4, r5, -⟩ | ⟨hok, h1, h2, r0, r1, r2, r3, r4, r5, -⟩
  · rw [h1, r0, r1, r2, r3, r4, r5]; exact hR
  · intro i hi
    rw [r0, r1, r2, r3, r4, r5]
    by_cases g : i = n.toInt.toNat
    · rw [upd_at _ _ _ g, upd_at _ _ _ g, upd_at _ _ _ g, upd_at _ _ _ g, upd_at _ _ _ g, upd_at _ _ _ g]; exact hok
    · rw [upd_ne _ _ _ g, upd_ne _ _ _ g, upd_ne _ _ _ g, upd_ne _ _ _ g, upd_ne _ _ _ g, upd_ne _ _ _ g]; exact hR i (by omega)
theorem act_z {dr dr' : Nat → Int32} {k : Nat} (h : ∀ j, kZ (dr j)) (hE : dr' = dr ∨ dr' = upd dr k 0 ∨ dr' = upd dr k 1) : ∀ j, kZ (dr' j) := by
  intro j
  rcases hE with r | r | r
  · rw [r]; exact h j
  · rw [r]
    by_cases g : j = k
    · rw [upd_at _ _ _ g]; exact Or.inl rfl
    · rw [upd_ne _ _ _ g]; exact h j
  · rw [r]
    by_cases g : j = k
    · rw [upd_at _ _ _ g]; exact Or.inr rfl
    · rw [upd_ne _ _ _ g]; exact h j
theorem act_dr {n n' m m' : Int32} {P A B A' B' : Prop} {d d' e e' : Nat → Int32} (h0 : 0 ≤ n.toInt) (hq : n = m) (hd : ∀ j : Nat, (j : Int) < n.toInt → d j = e j) (hE : ((¬ P ∨ 40 ≤ n.toInt) ∧ n' = n ∧ A ∧ d' = d) ∨ (P ∧ n.toInt < 40 ∧ n'.toInt = n.toInt + 1 ∧ B ∧ d' = upd d (n.toInt.toNat) 0)) (hF : ((¬ P ∨ 40 ≤ m.toInt) ∧ m' = m ∧ A' ∧ e' = e) ∨ (P ∧ m.toInt < 40 ∧ m'.toInt = m.toInt + 1 ∧ B' ∧ e' = upd e (m.toInt.toNat) 0)) : ∀ j : Nat, (j : Int) < n'.toInt → d' j = e' j := by
  subst hq
  rcases hE with ⟨g, h, -, r⟩ | ⟨g, h1, h2, -, r⟩
  · rcases hF with ⟨-, h', -, r'⟩ | ⟨g', h1', h2', -, r'⟩
    · rw [h, r, r']; exact hd
    · rcases g with g | g
      · exact absurd g' g
      · omega
  · rcases hF with ⟨g', h', -⟩ | ⟨g', h1', h2', -, r'⟩
    · rcases g' with g' | g'
      · exact absurd g g'
      · omega
    · intro j hj
      rw [r, r']
      by_cases q : j = n.toInt.toNat
      · rw [upd_at _ _ _ q, upd_at _ _ _ q]
      · rw [upd_ne _ _ _ q, upd_ne _ _ _ q]; exact hd j (by omega)
theorem act_ret {n m r r' : Int32} {P : Prop} (hq : n = m) (h : (r = -2 ∧ ¬ P) ∨ (r = -4 ∧ P ∧ 40 ≤ n.toInt) ∨ (r.toInt = n.toInt ∧ P ∧ n.toInt < 40)) (h' : (r' = -2 ∧ ¬ P) ∨ (r' = -4 ∧ P ∧ 40 ≤ m.toInt) ∨ (r'.toInt = m.toInt ∧ P ∧ m.toInt < 40)) : r = r' := by
  subst hq
  rcases h with ⟨a, b⟩ | ⟨a, b, c⟩ | ⟨a, b, c⟩
  · rcases h' with ⟨a', b'⟩ | ⟨a', b', c'⟩ | ⟨a', b', c'⟩
    · rw [a, a']
    · exact absurd b' b
    · exact absurd b' b
  · rcases h' with ⟨a', b'⟩ | ⟨a', b', c'⟩ | ⟨a', b', c'⟩
    · exact absurd b b'
    · rw [a, a']
    · omega
  · rcases h' with ⟨a', b'⟩ | ⟨a', b', c'⟩ | ⟨a', b', c'⟩
    · exact absurd b b'
    · omega
    · exact Int32.toInt_inj.mp (by omega)
theorem drop_ret {n m i r r' : Int32} {d e : Nat → Int32} (hq : n = m) (hd : ∀ j : Nat, (j : Int) < n.toInt → d j = e j) (h : (r = -2 ∧ ¬ (0 ≤ i.toInt ∧ i.toInt < n.toInt)) ∨ (r = 0 ∧ (0 ≤ i.toInt ∧ i.toInt < n.toInt) ∧ ¬ d (i).toNatClampNeg = 0) ∨ (r = 1 ∧ (0 ≤ i.toInt ∧ i.toInt < n.toInt) ∧ d (i).toNatClampNeg = 0))
    (h' : (r' = -2 ∧ ¬ (0 ≤ i.toInt ∧ i.toInt < m.toInt)) ∨ (r' = 0 ∧ (0 ≤ i.toInt ∧ i.toInt < m.toInt) ∧ ¬ e (i).toNatClampNeg = 0) ∨ (r' = 1 ∧ (0 ≤ i.toInt ∧ i.toInt < m.toInt) ∧ e (i).toNatClampNeg = 0)) : r = r' := by
  subst hq
  have key : (0 ≤ i.toInt ∧ i.toInt < n.toInt) → d (i).toNatClampNeg = e (i).toNatClampNeg := fun q => hd _ (by have := nn_cl (z := i) q.1; omega)
  rcases h with ⟨a, b⟩ | ⟨a, b, c⟩ | ⟨a, b, c⟩
  · rcases h' with ⟨a', b'⟩ | ⟨a', b', c'⟩ | ⟨a', b', c'⟩
    · rw [a, a']
    · exact absurd b' b
    · exact absurd b' b
  · rcases h' with ⟨a', b'⟩ | ⟨a', b', c'⟩ | ⟨a', b', c'⟩
    · exact absurd b b'
    · rw [a, a']
    · exact absurd ((key b).trans c') c
  · rcases h' with ⟨a', b'⟩ | ⟨a', b', c'⟩ | ⟨a', b', c'⟩
    · exact absurd b b'
    · exact absurd ((key b).symm.trans c) c'
    · rw [a, a']
theorem drop_dr {n r r' : Int32} {d e d' e' : Nat → Int32} {k : Nat} (hr : r = r') (hd : ∀ j : Nat, (j : Int) < n.toInt → d j = e j) (h : (¬ r = 1 ∧ d' = d) ∨ (r = 1 ∧ d' = upd d k 1)) (h' : (¬ r' = 1 ∧ e' = e) ∨ (r' = 1 ∧ e' = upd e k 1)) : ∀ j : Nat, (j : Int) < n.toInt → d' j = e' j := by
  subst hr
  intro j hj
  rcases h with ⟨a, b⟩ | ⟨a, b⟩
  · rcases h' with ⟨a', b'⟩ | ⟨a', b'⟩
    · rw [b, b']; exact hd j hj
    · exact absurd a' a
  · rcases h' with ⟨a', b'⟩ | ⟨a', b'⟩
    · exact absurd a a'
    · rw [b, b']
      by_cases q : j = k
      · rw [upd_at _ _ _ q, upd_at _ _ _ q]
      · rw [upd_ne _ _ _ q, upd_ne _ _ _ q]; exact hd j hj
theorem no_rows {n : Int32} {P : Nat → Prop} (e : n = 0) : ∀ i : Nat, (i : Int) < n.toInt → P i := fun i h => by
  rw [e] at h
  have : (0 : Int32).toInt = 0 := by decide
  omega
theorem ov_site : ∀ j : Nat, kSITE (ov (fun _ => 0) 6 (-1) j) := fun j => by
  simp only [ov]
  split
  · decide
  · decide
