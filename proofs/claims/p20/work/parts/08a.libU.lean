theorem kz_iv {v : Int32} (h : 0 ≤ v.toInt ∧ v.toInt ≤ 1) : kZ v := by
  have h2 : v.toInt = 0 ∨ v.toInt = 1 := by omega
  rcases h2 with h2 | h2
  · exact Or.inl (Int32.toInt_inj.mp (by rw [h2]; decide))
  · exact Or.inr (Int32.toInt_inj.mp (by rw [h2]; decide))
theorem kz_to {v : Int32} (h : kZ v) : 0 ≤ v.toInt ∧ v.toInt ≤ 1 := by rcases h with rfl | rfl <;> decide
theorem and01 {a b : Int32} (ha : kZ a) (hb : kZ b) : kZ (a &&& b) := by
  rcases ha with rfl | rfl <;> rcases hb with rfl | rfl
  · exact Or.inl (by decide)
  · exact Or.inl (by decide)
  · exact Or.inl (by decide)
  · exact Or.inr (by decide)
theorem and_0 {a : Int32} (ha : kZ a) : vp_nar .boolean (a &&& 0) = 0 := by rcases ha with rfl | rfl <;> rfl
abbrev castR (l n r : Int) : Prop := (l = 0 → -128 ≤ r ∧ r ≤ 127 ∧ (-128 ≤ n ∧ n ≤ 127 → r = n)) ∧ (l = 1 → 0 ≤ r ∧ r ≤ 65535 ∧ (0 ≤ n ∧ n ≤ 65535 → r = n)) ∧ (¬ l = 0 → ¬ l = 1 → r = n)
abbrev eqI (f g : Nat → Int32) : Prop := ∀ j : Nat, (g j).toInt = (f j).toInt
abbrev upI (f : Nat → Int32) (k : Nat) (x : Int) (g : Nat → Int32) : Prop := ∀ j : Nat, (j = k → (g j).toInt = x) ∧ (¬ j = k → (g j).toInt = (f j).toInt)
/-! exact stores: the new row is told place by place -/
theorem vpn_id {x : Int32} (h : kZ x) : vp_nar .boolean x = x := by rcases h with rfl | rfl <;> rfl
section SFU
variable {p : Program} {l : Launch} {e : Env} {R : Room} {s : State} {m : MethodId} {args : Array Value} {below : List Frame} {meth : Method} {c : Code} {H : Heap} {locs : List Loc} {cells slots : Nat} {Q : State → Prop}
variable {cc : ByteArray} {pc : Nat} {ls : Array Slot} {rest : List Value} {D : va_G} {cl : List vw_C} {A : Nat → Prop} {a : Nat} {tys : List (ClassId × FieldType)} {ws : va_W} {H0 : Heap}
theorem sf_iastU (P : Int32 → Prop) (hexec : p.tables.exec = Jvm.exec) (hb : c.code = cc) (hK : va_K D cl tys s) (hP : va_P D cl ws H) (hD : va_D A ws) (hS : va_S A H0 H locs) (q0 t0 : Nat) {cA : ClassId} {n : Nat} {f : Nat → Int32} (ha : ws[q0]? = some (a, .inl (cA, n, .inl f))) (ht : tys[t0]? = some (cA, .int)) (hf : ∀ j, P (f j)) {i : Int32} {x : Int32} (hv : P x) (hin : vp_in i n) (hdg : decode cc pc = .ok (.iastore, 1))
    (kk : ∀ (f1 : Nat → Int32), (∀ j, P (f1 j)) → (∀ j : Nat, (j = i.toNatClampNeg → (f1 j).toInt = x.toInt) ∧ (¬ j = i.toNatClampNeg → (f1 j).toInt = (f j).toInt)) → ∀ (H1 : Heap) (locs1 : List Loc), va_P D cl (ws.set q0 (a, .inl (cA, n, .inl f1))) H1 → va_D A (ws.set q0 (a, .inl (cA, n, .inl f1))) → va_S A H0 H1 locs1 → W p l e R s m args below meth c H1 locs1 cells slots Q (F0 m (pc + 1) ls rest)) : W p l e R s m args below meth c H locs cells slots Q (F0 m pc ls (.int x :: .int i :: .ref a :: rest)) :=
  va_iast hexec hb hK hP hD hS q0 t0 ha ht hin hdg (fun H1 locs1 => kk _ (upd_all hf hv) (fun j => ⟨fun h => by simp [upd, h], fun h => by simp [upd, h]⟩) H1 locs1)
theorem sf_zastU (hexec : p.tables.exec = Jvm.exec) (hb : c.code = cc) (hK : va_K D cl tys s) (hP : va_P D cl ws H) (hD : va_D A ws) (hS : va_S A H0 H locs) (q0 t0 : Nat) {cA : ClassId} {n : Nat} {f : Nat → Int32} (ha : ws[q0]? = some (a, .inl (cA, n, .inl f))) (ht : tys[t0]? = some (cA, .boolean)) (hf : ∀ j, kZ (f j)) {i : Int32} {x : Int32} (hv : kZ x) (hin : vp_in i n) (hdg : decode cc pc = .ok (.bastore, 1))
    (kk : ∀ (f1 : Nat → Int32), (∀ j, kZ (f1 j)) → (∀ j : Nat, (j = i.toNatClampNeg → (f1 j).toInt = x.toInt) ∧ (¬ j = i.toNatClampNeg → (f1 j).toInt = (f j).toInt)) → ∀ (H1 : Heap) (locs1 : List Loc), va_P D cl (ws.set q0 (a, .inl (cA, n, .inl f1))) H1 → va_D A (ws.set q0 (a, .inl (cA, n, .inl f1))) → va_S A H0 H1 locs1 → W p l e R s m args below meth c H1 locs1 cells slots Q (F0 m (pc + 1) ls rest)) : W p l e R s m args below meth c H locs cells slots Q (F0 m pc ls (.int x :: .int i :: .ref a :: rest)) :=
  va_zast hexec hb hK hP hD hS q0 t0 ha ht hin hdg (fun H1 locs1 => kk _ (upd_all hf (vpn01 x)) (fun j => ⟨fun h => by simp [upd, h, vpn_id hv], fun h => by simp [upd, h]⟩) H1 locs1)
theorem sf_lastU2 (P : Int64 → Prop) (hexec : p.tables.exec = Jvm.exec) (hb : c.code = cc) (hK : va_K D cl tys s) (hP : va_P D cl ws H) (hD : va_D A ws) (hS : va_S A H0 H locs) (q0 t0 : Nat) {cA : ClassId} {n : Nat} {f : Nat → Int64} (ha : ws[q0]? = some (a, .inl (cA, n, .inr (.inl f)))) (ht : tys[t0]? = some (cA, .long)) (hf : ∀ j, P (f j)) {i : Int32} {x : Int64} (hv : P x) (hin : vp_in i n) (hdg : decode cc pc = .ok (.lastore, 1))
    (kk : ∀ (f1 : Nat → Int64), (∀ j, P (f1 j)) → (∀ j : Nat, (j = i.toNatClampNeg → f1 j = x) ∧ (¬ j = i.toNatClampNeg → f1 j = f j)) → ∀ (H1 : Heap) (locs1 : List Loc), va_P D cl (ws.set q0 (a, .inl (cA, n, .inr (.inl f1)))) H1 → va_D A (ws.set q0 (a, .inl (cA, n, .inr (.inl f1)))) → va_S A H0 H1 locs1 → W p l e R s m args below meth c H1 locs1 cells slots Q (F0 m (pc + 1) ls rest)) : W p l e R s m args below meth c H locs cells slots Q (F0 m pc ls (.long x :: .int i :: .ref a :: rest)) :=
  va_last hexec hb hK hP hD hS q0 t0 ha ht hin hdg (fun H1 locs1 => kk _ (updL_all hf hv) (fun j => ⟨fun h => by simp [vp_updL, h], fun h => by simp [vp_updL, h]⟩) H1 locs1)
theorem sf_copyiU (P : Int32 → Prop) (hexec : p.tables.exec = Jvm.exec) (hb : c.code = cc) (hml : c.maxLocals = ls.size) {own : String} {index : Nat} (hown : s.vm.findClass own = some m.cls) (hlink : (Cond.methodLink own index arraycopyName).before args s = true) (hnat : (Cond.native arraycopyName).before args s = true) (hstat : (Cond.static arraycopyName).before args s = true) (hini : (Cond.initialized "java/lang/System").before args s = true)
    (hK : va_K D cl tys s) (hP : va_P D cl ws H) (hD : va_D A ws) (hS : va_S A H0 H locs) (q0 q1 t0 t1 : Nat) {a0 : Nat} {c0 c1 : ClassId} {n0 n1 : Nat} {f g : Nat → Int32} (ha0 : ws[q0]? = some (a0, .inl (c0, n0, .inl f))) (ha1 : ws[q1]? = some (a, .inl (c1, n1, .inl g))) (ht0 : tys[t0]? = some (c0, .int)) (ht1 : tys[t1]? = some (c1, .int)) (hf : ∀ j, P (f j)) (hg : ∀ j, P (g j))
    {sp dp n : Int32} (h1 : 0 ≤ sp.toInt) (h2 : 0 ≤ dp.toInt) (h3 : 0 ≤ n.toInt) (h4 : sp.toInt + n.toInt ≤ n0) (h5 : dp.toInt + n.toInt ≤ n1)
    (hframes : 1 ≤ R.frames) (hlocals : (rest.map fun v => v.category).sum + (nativeFrameWords "java/lang/System" "arraycopy" 5 + 11) ≤ R.locals) (hdg : decode cc pc = .ok (.invokestatic index, 3))
    (kk : ∀ (f1 : Nat → Int32), (∀ j, P (f1 j)) → (∀ j : Nat, (dp.toInt ≤ j ∧ (j : Int) < dp.toInt + n.toInt → (f1 j).toInt = (f (sp.toNatClampNeg + (j - dp.toNatClampNeg))).toInt) ∧ (¬ (dp.toInt ≤ j ∧ (j : Int) < dp.toInt + n.toInt) → (f1 j).toInt = (g j).toInt)) → ∀ (H1 : Heap) (locs1 : List Loc), va_P D cl (ws.set q1 (a, .inl (c1, n1, .inl f1))) H1 → va_D A (ws.set q1 (a, .inl (c1, n1, .inl f1))) → va_S A H0 H1 locs1 → W p l e R s m args below meth c H1 locs1 cells slots Q (F0 m (pc + 3) ls rest)) : W p l e R s m args below meth c H locs cells slots Q (F0 m pc ls (.int n :: .int dp :: .ref a :: .int sp :: .ref a0 :: rest)) := by
  have z0 : (0 : Int32).toInt = 0 := by decide
  have e1 := nn_cl h1
  have e2 := nn_cl h2
  have e3 := nn_cl h3
  exact va_copyi hexec hb hml hown hlink hnat hstat hini hK hP hD hS q0 q1 t0 t1 ha0 ha1 ht0 ht1 rfl (fun q => by have := lt_i q; omega) (fun q => by have := lt_i q; omega) (fun q => by have := lt_i q; omega) (by omega) (by omega) (fun _ _ => rfl) hframes hlocals hdg (fun H1 locs1 => kk _ (cpy_all hf hg) (fun j => ⟨fun h => by rw [pk_cpy_in (by omega) (by omega)], fun h => by rw [pk_cpy_out (by omega)]⟩) H1 locs1)
theorem sf_copylU (P : Int64 → Prop) (hexec : p.tables.exec = Jvm.exec) (hb : c.code = cc) (hml : c.maxLocals = ls.size) {own : String} {index : Nat} (hown : s.vm.findClass own = some m.cls) (hlink : (Cond.methodLink own index arraycopyName).before args s = true) (hnat : (Cond.native arraycopyName).before args s = true) (hstat : (Cond.static arraycopyName).before args s = true) (hini : (Cond.initialized "java/lang/System").before args s = true)
    (hK : va_K D cl tys s) (hP : va_P D cl ws H) (hD : va_D A ws) (hS : va_S A H0 H locs) (q0 q1 t0 t1 : Nat) {a0 : Nat} {c0 c1 : ClassId} {n0 n1 : Nat} {f g : Nat → Int64} (ha0 : ws[q0]? = some (a0, .inl (c0, n0, .inr (.inl f)))) (ha1 : ws[q1]? = some (a, .inl (c1, n1, .inr (.inl g)))) (ht0 : tys[t0]? = some (c0, .long)) (ht1 : tys[t1]? = some (c1, .long)) (hf : ∀ j, P (f j)) (hg : ∀ j, P (g j))
    {sp dp n : Int32} (h1 : 0 ≤ sp.toInt) (h2 : 0 ≤ dp.toInt) (h3 : 0 ≤ n.toInt) (h4 : sp.toInt + n.toInt ≤ n0) (h5 : dp.toInt + n.toInt ≤ n1)
    (hframes : 1 ≤ R.frames) (hlocals : (rest.map fun v => v.category).sum + (nativeFrameWords "java/lang/System" "arraycopy" 5 + 11) ≤ R.locals) (hdg : decode cc pc = .ok (.invokestatic index, 3))
    (kk : ∀ (f1 : Nat → Int64), (∀ j, P (f1 j)) → (∀ j : Nat, (dp.toInt ≤ j ∧ (j : Int) < dp.toInt + n.toInt → f1 j = f (sp.toNatClampNeg + (j - dp.toNatClampNeg))) ∧ (¬ (dp.toInt ≤ j ∧ (j : Int) < dp.toInt + n.toInt) → f1 j = g j)) → ∀ (H1 : Heap) (locs1 : List Loc), va_P D cl (ws.set q1 (a, .inl (c1, n1, .inr (.inl f1)))) H1 → va_D A (ws.set q1 (a, .inl (c1, n1, .inr (.inl f1)))) → va_S A H0 H1 locs1 → W p l e R s m args below meth c H1 locs1 cells slots Q (F0 m (pc + 3) ls rest)) : W p l e R s m args below meth c H locs cells slots Q (F0 m pc ls (.int n :: .int dp :: .ref a :: .int sp :: .ref a0 :: rest)) := by
  have z0 : (0 : Int32).toInt = 0 := by decide
  have e1 := nn_cl h1
  have e2 := nn_cl h2
  have e3 := nn_cl h3
  exact va_copyl hexec hb hml hown hlink hnat hstat hini hK hP hD hS q0 q1 t0 t1 ha0 ha1 ht0 ht1 rfl (fun q => by have := lt_i q; omega) (fun q => by have := lt_i q; omega) (fun q => by have := lt_i q; omega) (by omega) (by omega) (fun _ _ => rfl) hframes hlocals hdg (fun H1 locs1 => kk _ (cpy_all hf hg) (fun j => ⟨fun h => by rw [pk_cpy_in (by omega) (by omega)], fun h => by rw [pk_cpy_out (by omega)]⟩) H1 locs1)
end SFU
abbrev kL3 (v : Int32) : Prop := 0 ≤ v.toInt ∧ v.toInt ≤ 2
abbrev kL7 (v : Int32) : Prop := 0 ≤ v.toInt ∧ v.toInt ≤ 7
theorem nn_cl2 (z : Int32) : (0 ≤ z.toInt → (z.toNatClampNeg : Int) = z.toInt) ∧ (z.toInt < 0 → z.toNatClampNeg = 0) := by
  refine ⟨nn_cl, fun h => ?_⟩
  rw [Int32.toNatClampNeg]
  omega
theorem cast_bE {n r : Int32} (e : r = n.toInt8.toInt32) : -128 ≤ r.toInt ∧ r.toInt ≤ 127 ∧ (-128 ≤ n.toInt ∧ n.toInt ≤ 127 → r.toInt = n.toInt) := by
  have h1 : r.toInt = n.toInt.bmod 256 := by
    rw [e, Int8.toInt_toInt32, Int32.toInt_toInt8]
  have h2 := Int.bmod_le (x := n.toInt) (m := 256) (by decide)
  have h3 := Int.le_bmod (x := n.toInt) (m := 256) (by decide)
  refine ⟨by omega, by omega, fun h => ?_⟩
  rw [h1]
  exact Int.bmod_eq_of_le (by omega) (by omega)
theorem cast_cE {n r : Int32} (e : r = (n.toUInt32 % 65536).toInt32) : 0 ≤ r.toInt ∧ r.toInt ≤ 65535 ∧ (0 ≤ n.toInt ∧ n.toInt ≤ 65535 → r.toInt = n.toInt) := by
  have h0 : r = nI (n.toBitVec.toNat % 65536) := by rw [e, pk_char]
  have h1 : r.toInt = ((n.toBitVec.toNat % 65536 : Nat) : Int) := by rw [h0, nI_toInt (by omega)]
  refine ⟨by omega, by omega, fun h => ?_⟩
  obtain ⟨j, hj, rfl⟩ := nI_of (x := n) (fun q => by have h8 := lt_i q; have h9 : (0 : Int32).toInt = 0 := by decide
                                                     omega)
  rw [h1, pk_tn (by omega), nI_toInt hj]
  rw [nI_toInt hj] at h
  omega
theorem ush33 {x v : Int64} (e : v = (x.toUInt64 >>> ((33 : Int32).toInt64.toUInt64 &&& Int64.toUInt64 63)).toInt64) : 0 ≤ v.toInt ∧ v.toInt ≤ 2147483647 := by
  have h0 : ((33 : Int32).toInt64.toUInt64 &&& Int64.toUInt64 63).toNat % 64 = 33 := by decide
  have h1 : v.toBitVec.toNat = x.toBitVec.toNat / 2 ^ 33 := by
    rw [e]
    show (x.toUInt64 >>> ((33 : Int32).toInt64.toUInt64 &&& Int64.toUInt64 63)).toNat = _
    rw [UInt64.toNat_shiftRight, h0, Nat.shiftRight_eq_div_pow]
    rfl
  have h2 : x.toBitVec.toNat < 2 ^ 64 := x.toBitVec.isLt
  have h3 : v.toBitVec.toNat < 2147483648 := by omega
  have h4 : v.toInt = (v.toBitVec.toNat : Int) := by
    show v.toBitVec.toInt = _
    rw [BitVec.toInt_eq_toNat_of_lt (by omega)]
  omega
theorem rem_bd {x y v : Int64} (e : v = x - x / y * y) (hx : 0 ≤ x.toInt) (hy : 0 < y.toInt) : 0 ≤ v.toInt ∧ v.toInt < y.toInt := by
  have z0 : (0 : Int64).toInt = 0 := by decide
  obtain ⟨a, ha, rfl⟩ := pk_lOf (x := x) (fun q => by have := Int64.lt_iff_toInt_lt.mp q; omega)
  obtain ⟨b, hb, rfl⟩ := pk_lOf (x := y) (fun q => by have := Int64.lt_iff_toInt_lt.mp q; omega)
  have h2 := pk_lT hb
  have h3 : 0 < b := by omega
  have h4 := Nat.mod_lt a h3
  have h5 : v = lN (a % b) := by rw [e, pk_lRem ha h3 hb]
  have h6 : v.toInt = ((a % b : Nat) : Int) := by rw [h5, pk_lT (by omega)]
  rw [h6, h2]
  omega
