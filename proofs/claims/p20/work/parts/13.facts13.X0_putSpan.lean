def v_X0_putSpan : List Cond := .code yX0_putSpan cX0_putSpan 10 none :: ([.methodLink RX0 68 Lib.Math.max.name, .static Lib.Math.max.name, .initialized "java/lang/Math", .code Lib.Math.max.name Lib.Math.max.code 2 (some .int), .fieldLink RX0 42 "ArraySegments$Facts" "leastAt" "[I", .methodLink RX0 62 Lib.Math.min.name, .static Lib.Math.min.name, .code Lib.Math.min.name Lib.Math.min.code 2 (some .int), .fieldLink RX0 45 "ArraySegments$Facts" "greatestAt" "[I"] ++ (wsX00))
theorem inv_X0_putSpan_X0 : ∀ w ∈ wsX00, w ∈ v_X0_putSpan := fun _ h => List.mem_cons_of_mem _ (List.mem_append_right _ (h))
set_option maxRecDepth 20000 in
theorem gd_X0_putSpan : gdL v_X0_putSpan := gdC (gdW (by decide +kernel)) (gdA (gdW (by decide +kernel)) gd_wsX00)
abbrev sw_X0_putSpan (cI cJ cZ : ClassId) (fh : Nat) (f_isReached : Int32) (f_least : Value) (f_greatest : Value) (f_sites : Value) (f_maybeNull : Value) (f_known : Value) (f_lanes : Value) (f_shortest : Value) (f_longest : Value) (fa_leastAt : Nat) (fa_greatestAt : Nat) (fc_leastAt : Nat → Int32) (fc_greatestAt : Nat → Int32) (ia : Int32) (fa : Int32) (ba : Int64) (loa : Int32) (hia : Int32) (sa : Int32) : va_W := [(fh, .inr (0, [.int f_isReached, f_least, f_greatest, f_sites, f_maybeNull, f_known, f_lanes, f_shortest, f_longest, .ref fa_leastAt, .ref fa_greatestAt])), (fa_leastAt, .inl (cI, 480, .inl fc_leastAt)), (fa_greatestAt, .inl (cI, 480, .inl fc_greatestAt))]
set_option maxHeartbeats 8000000 in
set_option maxRecDepth 100000 in
theorem s_X0_putSpan (l : Launch) (dC : Nat → ClassId) (dI : Nat → Nat → Nat) (cI cJ cZ : ClassId) (fh : Nat) (f_isReached : Int32) (f_least : Value) (f_greatest : Value) (f_sites : Value) (f_maybeNull : Value) (f_known : Value) (f_lanes : Value) (f_shortest : Value) (f_longest : Value) (fa_leastAt : Nat) (fa_greatestAt : Nat) (fc_leastAt : Nat → Int32) (fc_greatestAt : Nat → Int32) (ia : Int32) (fa : Int32) (ba : Int64) (loa : Int32) (hia : Int32) (sa : Int32) (sz : Nat) (q_f_isReached : kZ f_isReached) (hy_ia : 0 ≤ ia.toInt ∧ ia.toInt ≤ 39) : Met l yX0_putSpan v_X0_putSpan ({ frames := 1, cells := 0, slots := 0, locals := 19 }) (va_Pc [.ref fh, .int ia, .int fa, .long ba, .int loa, .int hia, .int sa] (cPre dC dI cI cJ cZ sz (sw_X0_putSpan cI cJ cZ fh f_isReached f_least f_greatest f_sites f_maybeNull f_known f_lanes f_shortest f_longest fa_leastAt fa_greatestAt fc_leastAt fc_greatestAt ia fa ba loa hia sa))) (va_Qv (fun (u : (Nat → Int32) × (Nat → Int32)) => (∀ j : Nat, (12 * ia.toInt ≤ j ∧ 12 * ia.toInt + fa.toInt ≤ j ∧ (j : Int) < 12 * ia.toInt + 12 ∧ (j : Int) < 12 * ia.toInt + ba.toInt → (sa.toInt = 0 → ((u.1) j).toInt ≤ (fc_leastAt j).toInt ∧ ((u.1) j).toInt ≤ loa.toInt ∧ (((u.1) j).toInt = (fc_leastAt j).toInt ∨ ((u.1) j).toInt = loa.toInt)) ∧ (¬ sa.toInt = 0 → ((u.1) j).toInt = loa.toInt)) ∧ (¬ (12 * ia.toInt ≤ j ∧ 12 * ia.toInt + fa.toInt ≤ j ∧ (j : Int) < 12 * ia.toInt + 12 ∧ (j : Int) < 12 * ia.toInt + ba.toInt) → ((u.1) j).toInt = (fc_leastAt j).toInt)) ∧ (∀ j : Nat, (12 * ia.toInt ≤ j ∧ 12 * ia.toInt + fa.toInt ≤ j ∧ (j : Int) < 12 * ia.toInt + 12 ∧ (j : Int) < 12 * ia.toInt + ba.toInt → (sa.toInt = 0 → (fc_greatestAt j).toInt ≤ ((u.2) j).toInt ∧ hia.toInt ≤ ((u.2) j).toInt ∧ (((u.2) j).toInt = (fc_greatestAt j).toInt ∨ ((u.2) j).toInt = hia.toInt)) ∧ (¬ sa.toInt = 0 → ((u.2) j).toInt = hia.toInt)) ∧ (¬ (12 * ia.toInt ≤ j ∧ 12 * ia.toInt + fa.toInt ≤ j ∧ (j : Int) < 12 * ia.toInt + 12 ∧ (j : Int) < 12 * ia.toInt + ba.toInt) → ((u.2) j).toInt = (fc_greatestAt j).toInt))) (fun (u : (Nat → Int32) × (Nat → Int32)) => cPost dC dI cI cJ cZ (va_A (sw_X0_putSpan cI cJ cZ fh f_isReached f_least f_greatest f_sites f_maybeNull f_known f_lanes f_shortest f_longest fa_leastAt fa_greatestAt fc_leastAt fc_greatestAt ia fa ba loa hia sa) sz) [(fh, .inr (0, [.int f_isReached, f_least, f_greatest, f_sites, f_maybeNull, f_known, f_lanes, f_shortest, f_longest, .ref fa_leastAt, .ref fa_greatestAt])), (fa_leastAt, .inl (cI, 480, .inl (u.1))), (fa_greatestAt, .inl (cI, 480, .inl (u.2)))]) (va_A (sw_X0_putSpan cI cJ cZ fh f_isReached f_least f_greatest f_sites f_maybeNull f_known f_lanes f_shortest f_longest fa_leastAt fa_greatestAt fc_leastAt fc_greatestAt ia fa ba loa hia sa) sz)) 0 0 (va_A (sw_X0_putSpan cI cJ cZ fh f_isReached f_least f_greatest f_sites f_maybeNull f_known f_lanes f_shortest f_longest fa_leastAt fa_greatestAt fc_leastAt fc_greatestAt ia fa ba loa hia sa) sz) := by
  refine Met.ofW (cc := cX0_putSpan) (maxL := 10) (ret := none) (by decide) rfl ?_
  intro p e s m args below meth c s₁ B hml hv
  obtain ⟨rfl, hsz, hP, hK, hD0, hN⟩ := hv
  have hx := B.exec
  have hb := B.bytes
  have hr := B.returns
  have hts := atoms_spec (ws := v_X0_putSpan) B.pre
  have hown : s.vm.findClass RX0 = some m.cls := findClass_of_methodNamed B.named
  have hlocks := B.notSynchronized
  subst hsz
  have hD := hD0.self (sz := s.heap.size)
  generalize hAe : va_A (sw_X0_putSpan cI cJ cZ fh f_isReached f_least f_greatest f_sites f_maybeNull f_known f_lanes f_shortest f_longest fa_leastAt fa_greatestAt fc_leastAt fc_greatestAt ia fa ba loa hia sa) s.heap.size = A at hD ⊢
  have hA : ∀ q : Nat, s.heap.size ≤ q → A q := fun q h => by rw [← hAe]; exact Or.inr h
  clear hAe hD0
  have hS : va_S A s.heap s.heap [] := va_S.rf
  replace hP : va_P (dC, dI) vwCl [(fh, .inr (0, [.int f_isReached, f_least, f_greatest, f_sites, f_maybeNull, f_known, f_lanes, f_shortest, f_longest, .ref fa_leastAt, .ref fa_greatestAt])), (fa_leastAt, .inl (cI, 480, .inl fc_leastAt)), (fa_greatestAt, .inl (cI, 480, .inl fc_greatestAt))] s.heap := hP
  replace hD : va_D A [(fh, .inr (0, [.int f_isReached, f_least, f_greatest, f_sites, f_maybeNull, f_known, f_lanes, f_shortest, f_longest, .ref fa_leastAt, .ref fa_greatestAt])), (fa_leastAt, .inl (cI, 480, .inl fc_leastAt)), (fa_greatestAt, .inl (cI, 480, .inl fc_greatestAt))] := hD
  have hl := lv_entry ([.ref fh, .int ia, .int fa, .long ba, .int loa, .int hia, .int sa]) (n := 10) (Nat.le_of_ble_eq_true rfl)
  rw [lg_entry_eq]
  generalize (lg_sl ([.ref fh, .int ia, .int fa, .long ba, .int loa, .int hia, .int sa]) ++ List.replicate (10 - (lg_sl ([.ref fh, .int ia, .int fa, .long ba, .int loa, .int hia, .int sa])).length) Slot.unset).toArray = ls at hl ⊢
  replace hl : lv_has ls 10 [(0, .ref fh), (1, .int ia), (2, .int fa), (3, .long ba), (5, .int loa), (6, .int hia), (7, .int sa)] := hl
  have z_0 : (0 : Int32).toInt = 0 := by decide
  have z_1 : (1 : Int32).toInt = 1 := by decide
  have z_12 : (12 : Int32).toInt = 12 := by decide
  refine lv_iload_n hx hb dX0_putSpan_0 rfl (lv_at hl 2 rfl) ?_
  refine lv_iconst (v := 0) hx hb dX0_putSpan_1 (by decide) ?_
  have ir_2 := i32r fa
  refine sf_mmax hx hb (by rw [hml]; exact hl.1.symm) hown (hts (.methodLink RX0 68 Lib.Math.max.name) (List.mem_of_getElem? (i := 1) rfl)) (hts (.static Lib.Math.max.name) (List.mem_of_getElem? (i := 2) rfl)) (hts (.initialized "java/lang/Math") (List.mem_of_getElem? (i := 3) rfl)) (hts (.code Lib.Math.max.name Lib.Math.max.code 2 (some .int)) (List.mem_of_getElem? (i := 4) rfl)) (Nat.le_of_ble_eq_true rfl) (Nat.le_of_ble_eq_true rfl) (Nat.le_of_ble_eq_true rfl) (Nat.le_of_ble_eq_true rfl) dX0_putSpan_2 (fun v_1 q_v_1 => ?_)
  have qi_v_1 : 0 ≤ v_1.toInt := by omega
  refine lv_istore (lv' := [(8, .int v_1), (0, .ref fh), (1, .int ia), (2, .int fa), (3, .long ba), (5, .int loa), (6, .int hia), (7, .int sa)]) hx hb dX0_putSpan_5 hl (by decide) rfl (fun ls1 hl1 => ?_)
  replace hl := hl1; clear hl1
  refine my_wloop (S := Int32 × (Nat → Int32) × (Nat → Int32)) (fun u => (0 ≤ (u.1).toInt) ∧ ((0 ≤ (u.1).toInt ∧ fa.toInt ≤ (u.1).toInt) ∧ (((u.1).toInt = 0 ∨ (u.1).toInt = fa.toInt) ∨ ((u.1).toInt ≤ ba.toInt ∧ (u.1).toInt ≤ 12))) ∧ (∀ j : Nat, (12 * ia.toInt ≤ j ∧ 12 * ia.toInt + fa.toInt ≤ j ∧ (j : Int) < 12 * ia.toInt + (u.1).toInt → (sa.toInt = 0 → ((u.2.1) j).toInt ≤ (fc_leastAt j).toInt ∧ ((u.2.1) j).toInt ≤ loa.toInt ∧ (((u.2.1) j).toInt = (fc_leastAt j).toInt ∨ ((u.2.1) j).toInt = loa.toInt)) ∧ (¬ sa.toInt = 0 → ((u.2.1) j).toInt = loa.toInt)) ∧ (¬ (12 * ia.toInt ≤ j ∧ 12 * ia.toInt + fa.toInt ≤ j ∧ (j : Int) < 12 * ia.toInt + (u.1).toInt) → ((u.2.1) j).toInt = (fc_leastAt j).toInt)) ∧ (∀ j : Nat, (12 * ia.toInt ≤ j ∧ 12 * ia.toInt + fa.toInt ≤ j ∧ (j : Int) < 12 * ia.toInt + (u.1).toInt → (sa.toInt = 0 → (fc_greatestAt j).toInt ≤ ((u.2.2) j).toInt ∧ hia.toInt ≤ ((u.2.2) j).toInt ∧ (((u.2.2) j).toInt = (fc_greatestAt j).toInt ∨ ((u.2.2) j).toInt = hia.toInt)) ∧ (¬ sa.toInt = 0 → ((u.2.2) j).toInt = hia.toInt)) ∧ (¬ (12 * ia.toInt ≤ j ∧ 12 * ia.toInt + fa.toInt ≤ j ∧ (j : Int) < 12 * ia.toInt + (u.1).toInt) → ((u.2.2) j).toInt = (fc_greatestAt j).toInt))) (fun u => (12 - (u.1).toInt).toNat) (fun u => [(fh, .inr (0, [.int f_isReached, f_least, f_greatest, f_sites, f_maybeNull, f_known, f_lanes, f_shortest, f_longest, .ref fa_leastAt, .ref fa_greatestAt])), (fa_leastAt, .inl (cI, 480, .inl (u.2.1))), (fa_greatestAt, .inl (cI, 480, .inl (u.2.2)))]) (fun u => [(8, .int (u.1)), (0, .ref fh), (1, .int ia), (2, .int fa), (3, .long ba), (5, .int loa), (6, .int hia), (7, .int sa)]) (H0 := s.heap) (A := A) (D := (dC, dI)) (cl := vwCl) (v_1, fc_leastAt, fc_greatestAt) (show (0 ≤ v_1.toInt) ∧ ((0 ≤ v_1.toInt ∧ fa.toInt ≤ v_1.toInt) ∧ ((v_1.toInt = 0 ∨ v_1.toInt = fa.toInt) ∨ (v_1.toInt ≤ ba.toInt ∧ v_1.toInt ≤ 12))) ∧ (∀ j : Nat, (12 * ia.toInt ≤ j ∧ 12 * ia.toInt + fa.toInt ≤ j ∧ (j : Int) < 12 * ia.toInt + v_1.toInt → (sa.toInt = 0 → (fc_leastAt j).toInt ≤ (fc_leastAt j).toInt ∧ (fc_leastAt j).toInt ≤ loa.toInt ∧ ((fc_leastAt j).toInt = (fc_leastAt j).toInt ∨ (fc_leastAt j).toInt = loa.toInt)) ∧ (¬ sa.toInt = 0 → (fc_leastAt j).toInt = loa.toInt)) ∧ (¬ (12 * ia.toInt ≤ j ∧ 12 * ia.toInt + fa.toInt ≤ j ∧ (j : Int) < 12 * ia.toInt + v_1.toInt) → (fc_leastAt j).toInt = (fc_leastAt j).toInt)) ∧ (∀ j : Nat, (12 * ia.toInt ≤ j ∧ 12 * ia.toInt + fa.toInt ≤ j ∧ (j : Int) < 12 * ia.toInt + v_1.toInt → (sa.toInt = 0 → (fc_greatestAt j).toInt ≤ (fc_greatestAt j).toInt ∧ hia.toInt ≤ (fc_greatestAt j).toInt ∧ ((fc_greatestAt j).toInt = (fc_greatestAt j).toInt ∨ (fc_greatestAt j).toInt = hia.toInt)) ∧ (¬ sa.toInt = 0 → (fc_greatestAt j).toInt = hia.toInt)) ∧ (¬ (12 * ia.toInt ≤ j ∧ 12 * ia.toInt + fa.toInt ≤ j ∧ (j : Int) < 12 * ia.toInt + v_1.toInt) → (fc_greatestAt j).toInt = (fc_greatestAt j).toInt)) from ⟨(by omega), (by omega), (fun j => ⟨fun h => by omega, fun _ => rfl⟩), (fun j => ⟨fun h => by omega, fun _ => rfl⟩)⟩) (by exact hP) (by exact hD) hS (by exact hl) (fun u_3 hu_3 ih_3 H_3 locs_3 ls1 hP1 hD1 hS1 hl1 => ?_)
  obtain ⟨v_4, f_5, f_6⟩ := u_3
  replace hu_3 : (0 ≤ v_4.toInt) ∧ ((0 ≤ v_4.toInt ∧ fa.toInt ≤ v_4.toInt) ∧ ((v_4.toInt = 0 ∨ v_4.toInt = fa.toInt) ∨ (v_4.toInt ≤ ba.toInt ∧ v_4.toInt ≤ 12))) ∧ (∀ j : Nat, (12 * ia.toInt ≤ j ∧ 12 * ia.toInt + fa.toInt ≤ j ∧ (j : Int) < 12 * ia.toInt + v_4.toInt → (sa.toInt = 0 → (f_5 j).toInt ≤ (fc_leastAt j).toInt ∧ (f_5 j).toInt ≤ loa.toInt ∧ ((f_5 j).toInt = (fc_leastAt j).toInt ∨ (f_5 j).toInt = loa.toInt)) ∧ (¬ sa.toInt = 0 → (f_5 j).toInt = loa.toInt)) ∧ (¬ (12 * ia.toInt ≤ j ∧ 12 * ia.toInt + fa.toInt ≤ j ∧ (j : Int) < 12 * ia.toInt + v_4.toInt) → (f_5 j).toInt = (fc_leastAt j).toInt)) ∧ (∀ j : Nat, (12 * ia.toInt ≤ j ∧ 12 * ia.toInt + fa.toInt ≤ j ∧ (j : Int) < 12 * ia.toInt + v_4.toInt → (sa.toInt = 0 → (fc_greatestAt j).toInt ≤ (f_6 j).toInt ∧ hia.toInt ≤ (f_6 j).toInt ∧ ((f_6 j).toInt = (fc_greatestAt j).toInt ∨ (f_6 j).toInt = hia.toInt)) ∧ (¬ sa.toInt = 0 → (f_6 j).toInt = hia.toInt)) ∧ (¬ (12 * ia.toInt ≤ j ∧ 12 * ia.toInt + fa.toInt ≤ j ∧ (j : Int) < 12 * ia.toInt + v_4.toInt) → (f_6 j).toInt = (fc_greatestAt j).toInt)) := hu_3
  obtain ⟨q_v_4, x_3_0, x_3_1, x_3_2⟩ := hu_3
  replace hP : va_P (dC, dI) vwCl [(fh, .inr (0, [.int f_isReached, f_least, f_greatest, f_sites, f_maybeNull, f_known, f_lanes, f_shortest, f_longest, .ref fa_leastAt, .ref fa_greatestAt])), (fa_leastAt, .inl (cI, 480, .inl f_5)), (fa_greatestAt, .inl (cI, 480, .inl f_6))] H_3 := hP1
  replace hD : va_D A [(fh, .inr (0, [.int f_isReached, f_least, f_greatest, f_sites, f_maybeNull, f_known, f_lanes, f_shortest, f_longest, .ref fa_leastAt, .ref fa_greatestAt])), (fa_leastAt, .inl (cI, 480, .inl f_5)), (fa_greatestAt, .inl (cI, 480, .inl f_6))] := hD1
  replace hS := hS1
  clear hP1 hD1 hS1
  replace hl : lv_has ls1 10 [(8, .int v_4), (0, .ref fh), (1, .int ia), (2, .int fa), (3, .long ba), (5, .int loa), (6, .int hia), (7, .int sa)] := hl1
  clear hl1
  refine lv_iload hx hb dX0_putSpan_7 (lv_at hl 0 rfl) ?_
  refine sf_i2l hx hb dX0_putSpan_9 (fun v_7 q_v_7 => ?_)
  refine lv_lload_n hx hb dX0_putSpan_10 rfl (lv_at hl 4 rfl) ?_
  refine W.lcmp hx hb dX0_putSpan_11 ?_
  refine lv_if_ge (tgt := 95) hx hb dX0_putSpan_12 (by decide) (fun c_8 => ?_) (fun c_8 => ?_)
  · -- yes
    have k_8 : ba.toInt ≤ v_7.toInt := lc_ge c_8
    have hP9 := hP.sub (ws' := [(fh, .inr (0, [.int f_isReached, f_least, f_greatest, f_sites, f_maybeNull, f_known, f_lanes, f_shortest, f_longest, .ref fa_leastAt, .ref fa_greatestAt])), (fa_leastAt, .inl (cI, 480, .inl f_5)), (fa_greatestAt, .inl (cI, 480, .inl f_6))]) [0, 1, 2] rfl
    have hD9 := hD.sub (ws' := [(fh, .inr (0, [.int f_isReached, f_least, f_greatest, f_sites, f_maybeNull, f_known, f_lanes, f_shortest, f_longest, .ref fa_leastAt, .ref fa_greatestAt])), (fa_leastAt, .inl (cI, 480, .inl f_5)), (fa_greatestAt, .inl (cI, 480, .inl f_6))]) [0, 1, 2] (by decide) rfl
    exact W.vret hx hb hr (fun t ht hW => ⟨⟨(f_5, f_6), rfl, ⟨(show ∀ j : Nat, (12 * ia.toInt ≤ j ∧ 12 * ia.toInt + fa.toInt ≤ j ∧ (j : Int) < 12 * ia.toInt + 12 ∧ (j : Int) < 12 * ia.toInt + ba.toInt → (sa.toInt = 0 → (f_5 j).toInt ≤ (fc_leastAt j).toInt ∧ (f_5 j).toInt ≤ loa.toInt ∧ ((f_5 j).toInt = (fc_leastAt j).toInt ∨ (f_5 j).toInt = loa.toInt)) ∧ (¬ sa.toInt = 0 → (f_5 j).toInt = loa.toInt)) ∧ (¬ (12 * ia.toInt ≤ j ∧ 12 * ia.toInt + fa.toInt ≤ j ∧ (j : Int) < 12 * ia.toInt + 12 ∧ (j : Int) < 12 * ia.toInt + ba.toInt) → (f_5 j).toInt = (fc_leastAt j).toInt) from (fun j => ⟨fun h => (x_3_1 j).1 (by omega), fun h => (x_3_1 j).2 (by omega)⟩)), (show ∀ j : Nat, (12 * ia.toInt ≤ j ∧ 12 * ia.toInt + fa.toInt ≤ j ∧ (j : Int) < 12 * ia.toInt + 12 ∧ (j : Int) < 12 * ia.toInt + ba.toInt → (sa.toInt = 0 → (fc_greatestAt j).toInt ≤ (f_6 j).toInt ∧ hia.toInt ≤ (f_6 j).toInt ∧ ((f_6 j).toInt = (fc_greatestAt j).toInt ∨ (f_6 j).toInt = hia.toInt)) ∧ (¬ sa.toInt = 0 → (f_6 j).toInt = hia.toInt)) ∧ (¬ (12 * ia.toInt ≤ j ∧ 12 * ia.toInt + fa.toInt ≤ j ∧ (j : Int) < 12 * ia.toInt + 12 ∧ (j : Int) < 12 * ia.toInt + ba.toInt) → (f_6 j).toInt = (fc_greatestAt j).toInt) from (fun j => ⟨fun h => (x_3_2 j).1 (by omega), fun h => (x_3_2 j).2 (by omega)⟩))⟩, by rw [ht]; exact hP9, va_K.moved hW.alike hK, hD9⟩, hS.F ht⟩) hS.2.2 dX0_putSpan_95
  · -- no
    have k_8 : v_7.toInt < ba.toInt := lc_nge c_8
    refine lv_iload hx hb dX0_putSpan_15 (lv_at hl 0 rfl) ?_
    refine lv_bipush (v := 12) hx hb dX0_putSpan_17 (by decide) ?_
    refine lv_icmp_ge (tgt := 95) hx hb dX0_putSpan_19 (by decide) (fun c_9 => ?_) (fun c_9 => ?_)
    · -- yes
      have k_9 : (12 : Int32).toInt ≤ v_4.toInt := ci_ge c_9
      have hP9 := hP.sub (ws' := [(fh, .inr (0, [.int f_isReached, f_least, f_greatest, f_sites, f_maybeNull, f_known, f_lanes, f_shortest, f_longest, .ref fa_leastAt, .ref fa_greatestAt])), (fa_leastAt, .inl (cI, 480, .inl f_5)), (fa_greatestAt, .inl (cI, 480, .inl f_6))]) [0, 1, 2] rfl
      have hD9 := hD.sub (ws' := [(fh, .inr (0, [.int f_isReached, f_least, f_greatest, f_sites, f_maybeNull, f_known, f_lanes, f_shortest, f_longest, .ref fa_leastAt, .ref fa_greatestAt])), (fa_leastAt, .inl (cI, 480, .inl f_5)), (fa_greatestAt, .inl (cI, 480, .inl f_6))]) [0, 1, 2] (by decide) rfl
      exact W.vret hx hb hr (fun t ht hW => ⟨⟨(f_5, f_6), rfl, ⟨(show ∀ j : Nat, (12 * ia.toInt ≤ j ∧ 12 * ia.toInt + fa.toInt ≤ j ∧ (j : Int) < 12 * ia.toInt + 12 ∧ (j : Int) < 12 * ia.toInt + ba.toInt → (sa.toInt = 0 → (f_5 j).toInt ≤ (fc_leastAt j).toInt ∧ (f_5 j).toInt ≤ loa.toInt ∧ ((f_5 j).toInt = (fc_leastAt j).toInt ∨ (f_5 j).toInt = loa.toInt)) ∧ (¬ sa.toInt = 0 → (f_5 j).toInt = loa.toInt)) ∧ (¬ (12 * ia.toInt ≤ j ∧ 12 * ia.toInt + fa.toInt ≤ j ∧ (j : Int) < 12 * ia.toInt + 12 ∧ (j : Int) < 12 * ia.toInt + ba.toInt) → (f_5 j).toInt = (fc_leastAt j).toInt) from (fun j => ⟨fun h => (x_3_1 j).1 (by omega), fun h => (x_3_1 j).2 (by omega)⟩)), (show ∀ j : Nat, (12 * ia.toInt ≤ j ∧ 12 * ia.toInt + fa.toInt ≤ j ∧ (j : Int) < 12 * ia.toInt + 12 ∧ (j : Int) < 12 * ia.toInt + ba.toInt → (sa.toInt = 0 → (fc_greatestAt j).toInt ≤ (f_6 j).toInt ∧ hia.toInt ≤ (f_6 j).toInt ∧ ((f_6 j).toInt = (fc_greatestAt j).toInt ∨ (f_6 j).toInt = hia.toInt)) ∧ (¬ sa.toInt = 0 → (f_6 j).toInt = hia.toInt)) ∧ (¬ (12 * ia.toInt ≤ j ∧ 12 * ia.toInt + fa.toInt ≤ j ∧ (j : Int) < 12 * ia.toInt + 12 ∧ (j : Int) < 12 * ia.toInt + ba.toInt) → (f_6 j).toInt = (fc_greatestAt j).toInt) from (fun j => ⟨fun h => (x_3_2 j).1 (by omega), fun h => (x_3_2 j).2 (by omega)⟩))⟩, by rw [ht]; exact hP9, va_K.moved hW.alike hK, hD9⟩, hS.F ht⟩) hS.2.2 dX0_putSpan_95
    · -- no
      have k_9 : v_4.toInt < (12 : Int32).toInt := ci_nge c_9
      refine lv_iload_n hx hb dX0_putSpan_22 rfl (lv_at hl 2 rfl) ?_
      refine lv_bipush (v := 12) hx hb dX0_putSpan_23 (by decide) ?_
      refine sf_imul (w := ia.toInt) (z := 12) hx hb dX0_putSpan_25 rfl (by decide) ⟨by omega, by omega⟩ (fun v_10 q_v_10 => ?_)
      refine lv_iload hx hb dX0_putSpan_26 (lv_at hl 0 rfl) ?_
      refine sf_iadd hx hb dX0_putSpan_28 ⟨by omega, by omega⟩ (fun v_11 q_v_11 => ?_)
      refine lv_istore (lv' := [(9, .int v_11), (8, .int v_4), (0, .ref fh), (1, .int ia), (2, .int fa), (3, .long ba), (5, .int loa), (6, .int hia), (7, .int sa)]) hx hb dX0_putSpan_29 hl (by decide) rfl (fun ls1 hl1 => ?_)
      replace hl := hl1; clear hl1
      refine lv_aload_n hx hb dX0_putSpan_31 rfl (lv_at hl 2 rfl) ?_
      refine va_get (D := (dC, dI)) (ci := 0) (v := .ref fa_leastAt) (C := RX0) (T := TX0) (N := 11) hx hb hts inv_X0_putSpan_X0 hown hK hP 0 rfl rfl 9 (by decide) (hts (.fieldLink RX0 42 "ArraySegments$Facts" "leastAt" "[I") (List.mem_of_getElem? (i := 5) rfl)) (fun _ h9 => h9) rfl dX0_putSpan_32 ?_
      refine lv_iload hx hb dX0_putSpan_35 (lv_at hl 0 rfl) ?_
      refine lv_iload hx hb dX0_putSpan_37 (lv_at hl 8 rfl) ?_
      refine lv_if_eq (tgt := 47) hx hb dX0_putSpan_39 (by decide) (fun c_12 => ?_) (fun c_12 => ?_)
      · -- yes
        have k_12 : sa.toInt = (0 : Int32).toInt := ci_eq c_12
        refine lv_aload_n hx hb dX0_putSpan_47 rfl (lv_at hl 2 rfl) ?_
        refine va_get (D := (dC, dI)) (ci := 0) (v := .ref fa_leastAt) (C := RX0) (T := TX0) (N := 11) hx hb hts inv_X0_putSpan_X0 hown hK hP 0 rfl rfl 9 (by decide) (hts (.fieldLink RX0 42 "ArraySegments$Facts" "leastAt" "[I") (List.mem_of_getElem? (i := 5) rfl)) (fun _ h9 => h9) rfl dX0_putSpan_48 ?_
        refine lv_iload hx hb dX0_putSpan_51 (lv_at hl 0 rfl) ?_
        refine sf_iald kT hx hb hK hP 1 0 rfl rfl (fun _ => trivial) (vp_in_iff.mpr ⟨by omega, by omega⟩) dX0_putSpan_53 (fun v_13 q_v_13 e_v_13 => ?_)
        have et_v_13 : v_13.toInt = (f_5 (v_11).toNatClampNeg).toInt := by rw [e_v_13]
        have ni_14 := nn_cl (z := v_11) (by omega)
        have ir_v_13 := i32r v_13
        refine lv_iload hx hb dX0_putSpan_54 (lv_at hl 6 rfl) ?_
        have ir_16 := i32r v_13
        have ir_17 := i32r loa
        refine sf_mmin hx hb (by rw [hml]; exact hl.1.symm) hown (hts (.methodLink RX0 62 Lib.Math.min.name) (List.mem_of_getElem? (i := 6) rfl)) (hts (.static Lib.Math.min.name) (List.mem_of_getElem? (i := 7) rfl)) (hts (.initialized "java/lang/Math") (List.mem_of_getElem? (i := 3) rfl)) (hts (.code Lib.Math.min.name Lib.Math.min.code 2 (some .int)) (List.mem_of_getElem? (i := 8) rfl)) (Nat.le_of_ble_eq_true rfl) (Nat.le_of_ble_eq_true rfl) (Nat.le_of_ble_eq_true rfl) (Nat.le_of_ble_eq_true rfl) dX0_putSpan_56 (fun v_15 q_v_15 => ?_)
        have ni_20 := nn_cl (z := v_11) (by omega)
        refine sf_iastU kT hx hb hK hP hD hS 1 0 rfl rfl (fun _ => trivial) trivial (vp_in_iff.mpr ⟨by omega, by omega⟩) dX0_putSpan_59 (fun f_18 h_f_18 u_f_18 H_19 locs_19 hP1 hD1 hS1 => ?_)
        replace hP : va_P (dC, dI) vwCl [(fh, .inr (0, [.int f_isReached, f_least, f_greatest, f_sites, f_maybeNull, f_known, f_lanes, f_shortest, f_longest, .ref fa_leastAt, .ref fa_greatestAt])), (fa_leastAt, .inl (cI, 480, .inl f_18)), (fa_greatestAt, .inl (cI, 480, .inl f_6))] H_19 := hP1
        replace hD : va_D A [(fh, .inr (0, [.int f_isReached, f_least, f_greatest, f_sites, f_maybeNull, f_known, f_lanes, f_shortest, f_longest, .ref fa_leastAt, .ref fa_greatestAt])), (fa_leastAt, .inl (cI, 480, .inl f_18)), (fa_greatestAt, .inl (cI, 480, .inl f_6))] := hD1
        replace hS := hS1
        clear hP1 hD1 hS1
        refine lv_aload_n hx hb dX0_putSpan_60 rfl (lv_at hl 2 rfl) ?_
        refine va_get (D := (dC, dI)) (ci := 0) (v := .ref fa_greatestAt) (C := RX0) (T := TX0) (N := 11) hx hb hts inv_X0_putSpan_X0 hown hK hP 0 rfl rfl 10 (by decide) (hts (.fieldLink RX0 45 "ArraySegments$Facts" "greatestAt" "[I") (List.mem_of_getElem? (i := 9) rfl)) (fun _ h9 => h9) rfl dX0_putSpan_61 ?_
        refine lv_iload hx hb dX0_putSpan_64 (lv_at hl 0 rfl) ?_
        refine lv_iload hx hb dX0_putSpan_66 (lv_at hl 8 rfl) ?_
        refine lv_if_eq (tgt := 76) hx hb dX0_putSpan_68 (by decide) (fun c_21 => ?_) (fun c_21 => ?_)
        · -- yes
          have k_21 : sa.toInt = (0 : Int32).toInt := ci_eq c_21
          refine lv_aload_n hx hb dX0_putSpan_76 rfl (lv_at hl 2 rfl) ?_
          refine va_get (D := (dC, dI)) (ci := 0) (v := .ref fa_greatestAt) (C := RX0) (T := TX0) (N := 11) hx hb hts inv_X0_putSpan_X0 hown hK hP 0 rfl rfl 10 (by decide) (hts (.fieldLink RX0 45 "ArraySegments$Facts" "greatestAt" "[I") (List.mem_of_getElem? (i := 9) rfl)) (fun _ h9 => h9) rfl dX0_putSpan_77 ?_
          refine lv_iload hx hb dX0_putSpan_80 (lv_at hl 0 rfl) ?_
          refine sf_iald kT hx hb hK hP 2 0 rfl rfl (fun _ => trivial) (vp_in_iff.mpr ⟨by omega, by omega⟩) dX0_putSpan_82 (fun v_22 q_v_22 e_v_22 => ?_)
          have et_v_22 : v_22.toInt = (f_6 (v_11).toNatClampNeg).toInt := by rw [e_v_22]
          have ni_23 := nn_cl (z := v_11) (by omega)
          have ir_v_22 := i32r v_22
          refine lv_iload hx hb dX0_putSpan_83 (lv_at hl 7 rfl) ?_
          have ir_25 := i32r v_22
          have ir_26 := i32r hia
          refine sf_mmax hx hb (by rw [hml]; exact hl.1.symm) hown (hts (.methodLink RX0 68 Lib.Math.max.name) (List.mem_of_getElem? (i := 1) rfl)) (hts (.static Lib.Math.max.name) (List.mem_of_getElem? (i := 2) rfl)) (hts (.initialized "java/lang/Math") (List.mem_of_getElem? (i := 3) rfl)) (hts (.code Lib.Math.max.name Lib.Math.max.code 2 (some .int)) (List.mem_of_getElem? (i := 4) rfl)) (Nat.le_of_ble_eq_true rfl) (Nat.le_of_ble_eq_true rfl) (Nat.le_of_ble_eq_true rfl) (Nat.le_of_ble_eq_true rfl) dX0_putSpan_85 (fun v_24 q_v_24 => ?_)
          have ni_29 := nn_cl (z := v_11) (by omega)
          refine sf_iastU kT hx hb hK hP hD hS 2 0 rfl rfl (fun _ => trivial) trivial (vp_in_iff.mpr ⟨by omega, by omega⟩) dX0_putSpan_88 (fun f_27 h_f_27 u_f_27 H_28 locs_28 hP1 hD1 hS1 => ?_)
          replace hP : va_P (dC, dI) vwCl [(fh, .inr (0, [.int f_isReached, f_least, f_greatest, f_sites, f_maybeNull, f_known, f_lanes, f_shortest, f_longest, .ref fa_leastAt, .ref fa_greatestAt])), (fa_leastAt, .inl (cI, 480, .inl f_18)), (fa_greatestAt, .inl (cI, 480, .inl f_27))] H_28 := hP1
          replace hD : va_D A [(fh, .inr (0, [.int f_isReached, f_least, f_greatest, f_sites, f_maybeNull, f_known, f_lanes, f_shortest, f_longest, .ref fa_leastAt, .ref fa_greatestAt])), (fa_leastAt, .inl (cI, 480, .inl f_18)), (fa_greatestAt, .inl (cI, 480, .inl f_27))] := hD1
          replace hS := hS1
          clear hP1 hD1 hS1
          refine sf_iinc hx hb dX0_putSpan_89 hl (k := 1) (x := v_4) (w := 1) rfl (by decide) (by decide) ⟨by omega, by omega⟩ (fun v_30 q_v_30 ls1 hl1 => ?_)
          replace hl : lv_has ls1 10 [(8, .int v_30), (9, .int v_11), (0, .ref fh), (1, .int ia), (2, .int fa), (3, .long ba), (5, .int loa), (6, .int hia), (7, .int sa)] := hl1
          clear hl1
          refine lv_goto (tgt := 7) hx hb dX0_putSpan_92 (by decide) ?_
          exact ih_3 (v_30, f_18, f_27) (show (0 ≤ v_30.toInt) ∧ ((0 ≤ v_30.toInt ∧ fa.toInt ≤ v_30.toInt) ∧ ((v_30.toInt = 0 ∨ v_30.toInt = fa.toInt) ∨ (v_30.toInt ≤ ba.toInt ∧ v_30.toInt ≤ 12))) ∧ (∀ j : Nat, (12 * ia.toInt ≤ j ∧ 12 * ia.toInt + fa.toInt ≤ j ∧ (j : Int) < 12 * ia.toInt + v_30.toInt → (sa.toInt = 0 → (f_18 j).toInt ≤ (fc_leastAt j).toInt ∧ (f_18 j).toInt ≤ loa.toInt ∧ ((f_18 j).toInt = (fc_leastAt j).toInt ∨ (f_18 j).toInt = loa.toInt)) ∧ (¬ sa.toInt = 0 → (f_18 j).toInt = loa.toInt)) ∧ (¬ (12 * ia.toInt ≤ j ∧ 12 * ia.toInt + fa.toInt ≤ j ∧ (j : Int) < 12 * ia.toInt + v_30.toInt) → (f_18 j).toInt = (fc_leastAt j).toInt)) ∧ (∀ j : Nat, (12 * ia.toInt ≤ j ∧ 12 * ia.toInt + fa.toInt ≤ j ∧ (j : Int) < 12 * ia.toInt + v_30.toInt → (sa.toInt = 0 → (fc_greatestAt j).toInt ≤ (f_27 j).toInt ∧ hia.toInt ≤ (f_27 j).toInt ∧ ((f_27 j).toInt = (fc_greatestAt j).toInt ∨ (f_27 j).toInt = hia.toInt)) ∧ (¬ sa.toInt = 0 → (f_27 j).toInt = hia.toInt)) ∧ (¬ (12 * ia.toInt ≤ j ∧ 12 * ia.toInt + fa.toInt ≤ j ∧ (j : Int) < 12 * ia.toInt + v_30.toInt) → (f_27 j).toInt = (fc_greatestAt j).toInt)) from ⟨(by omega), (by have b0 := x_3_0; omega), (fun j => by by_cases hq : j = (v_11).toNatClampNeg; (· subst hq; have e := (u_f_18 _).1 rfl; have c1 := (x_3_1 ((v_11).toNatClampNeg)).2 (by omega); exact ⟨fun _ => ⟨fun h0 => by omega, fun h1 => by omega⟩, fun h => absurd (by omega) h⟩); (· have e := (u_f_18 j).2 hq; exact ⟨fun h => by rw [e]; exact (x_3_1 j).1 (by omega), fun h => by rw [e]; exact (x_3_1 j).2 (by omega)⟩)), (fun j => by by_cases hq : j = (v_11).toNatClampNeg; (· subst hq; have e := (u_f_27 _).1 rfl; have c1 := (x_3_2 ((v_11).toNatClampNeg)).2 (by omega); exact ⟨fun _ => ⟨fun h0 => by omega, fun h1 => by omega⟩, fun h => absurd (by omega) h⟩); (· have e := (u_f_27 j).2 hq; exact ⟨fun h => by rw [e]; exact (x_3_2 j).1 (by omega), fun h => by rw [e]; exact (x_3_2 j).2 (by omega)⟩))⟩) (by show (12 - v_30.toInt).toNat < (12 - v_4.toInt).toNat; omega) _ _ _ (hP.sub [0, 1, 2] rfl) (hD.sub [0, 1, 2] (by decide) rfl) hS (lv_sub hl [0, 2, 3, 4, 5, 6, 7, 8] rfl)
        · -- no
          have k_21 : ¬ sa.toInt = (0 : Int32).toInt := ci_ne c_21
          exfalso; omega
      · -- no
        have k_12 : ¬ sa.toInt = (0 : Int32).toInt := ci_ne c_12
        refine lv_iload hx hb dX0_putSpan_42 (lv_at hl 6 rfl) ?_
        refine lv_goto (tgt := 59) hx hb dX0_putSpan_44 (by decide) ?_
        have ni_33 := nn_cl (z := v_11) (by omega)
        refine sf_iastU kT hx hb hK hP hD hS 1 0 rfl rfl (fun _ => trivial) trivial (vp_in_iff.mpr ⟨by omega, by omega⟩) dX0_putSpan_59 (fun f_31 h_f_31 u_f_31 H_32 locs_32 hP1 hD1 hS1 => ?_)
        replace hP : va_P (dC, dI) vwCl [(fh, .inr (0, [.int f_isReached, f_least, f_greatest, f_sites, f_maybeNull, f_known, f_lanes, f_shortest, f_longest, .ref fa_leastAt, .ref fa_greatestAt])), (fa_leastAt, .inl (cI, 480, .inl f_31)), (fa_greatestAt, .inl (cI, 480, .inl f_6))] H_32 := hP1
        replace hD : va_D A [(fh, .inr (0, [.int f_isReached, f_least, f_greatest, f_sites, f_maybeNull, f_known, f_lanes, f_shortest, f_longest, .ref fa_leastAt, .ref fa_greatestAt])), (fa_leastAt, .inl (cI, 480, .inl f_31)), (fa_greatestAt, .inl (cI, 480, .inl f_6))] := hD1
        replace hS := hS1
        clear hP1 hD1 hS1
        refine lv_aload_n hx hb dX0_putSpan_60 rfl (lv_at hl 2 rfl) ?_
        refine va_get (D := (dC, dI)) (ci := 0) (v := .ref fa_greatestAt) (C := RX0) (T := TX0) (N := 11) hx hb hts inv_X0_putSpan_X0 hown hK hP 0 rfl rfl 10 (by decide) (hts (.fieldLink RX0 45 "ArraySegments$Facts" "greatestAt" "[I") (List.mem_of_getElem? (i := 9) rfl)) (fun _ h9 => h9) rfl dX0_putSpan_61 ?_
        refine lv_iload hx hb dX0_putSpan_64 (lv_at hl 0 rfl) ?_
        refine lv_iload hx hb dX0_putSpan_66 (lv_at hl 8 rfl) ?_
        refine lv_if_eq (tgt := 76) hx hb dX0_putSpan_68 (by decide) (fun c_34 => ?_) (fun c_34 => ?_)
        · -- yes
          have k_34 : sa.toInt = (0 : Int32).toInt := ci_eq c_34
          refine lv_aload_n hx hb dX0_putSpan_76 rfl (lv_at hl 2 rfl) ?_
          refine va_get (D := (dC, dI)) (ci := 0) (v := .ref fa_greatestAt) (C := RX0) (T := TX0) (N := 11) hx hb hts inv_X0_putSpan_X0 hown hK hP 0 rfl rfl 10 (by decide) (hts (.fieldLink RX0 45 "ArraySegments$Facts" "greatestAt" "[I") (List.mem_of_getElem? (i := 9) rfl)) (fun _ h9 => h9) rfl dX0_putSpan_77 ?_
          refine lv_iload hx hb dX0_putSpan_80 (lv_at hl 0 rfl) ?_
          refine sf_iald kT hx hb hK hP 2 0 rfl rfl (fun _ => trivial) (vp_in_iff.mpr ⟨by omega, by omega⟩) dX0_putSpan_82 (fun v_35 q_v_35 e_v_35 => ?_)
          have et_v_35 : v_35.toInt = (f_6 (v_11).toNatClampNeg).toInt := by rw [e_v_35]
          have ni_36 := nn_cl (z := v_11) (by omega)
          have ir_v_35 := i32r v_35
          refine lv_iload hx hb dX0_putSpan_83 (lv_at hl 7 rfl) ?_
          have ir_38 := i32r v_35
          have ir_39 := i32r hia
          refine sf_mmax hx hb (by rw [hml]; exact hl.1.symm) hown (hts (.methodLink RX0 68 Lib.Math.max.name) (List.mem_of_getElem? (i := 1) rfl)) (hts (.static Lib.Math.max.name) (List.mem_of_getElem? (i := 2) rfl)) (hts (.initialized "java/lang/Math") (List.mem_of_getElem? (i := 3) rfl)) (hts (.code Lib.Math.max.name Lib.Math.max.code 2 (some .int)) (List.mem_of_getElem? (i := 4) rfl)) (Nat.le_of_ble_eq_true rfl) (Nat.le_of_ble_eq_true rfl) (Nat.le_of_ble_eq_true rfl) (Nat.le_of_ble_eq_true rfl) dX0_putSpan_85 (fun v_37 q_v_37 => ?_)
          have ni_42 := nn_cl (z := v_11) (by omega)
          refine sf_iastU kT hx hb hK hP hD hS 2 0 rfl rfl (fun _ => trivial) trivial (vp_in_iff.mpr ⟨by omega, by omega⟩) dX0_putSpan_88 (fun f_40 h_f_40 u_f_40 H_41 locs_41 hP1 hD1 hS1 => ?_)
          replace hP : va_P (dC, dI) vwCl [(fh, .inr (0, [.int f_isReached, f_least, f_greatest, f_sites, f_maybeNull, f_known, f_lanes, f_shortest, f_longest, .ref fa_leastAt, .ref fa_greatestAt])), (fa_leastAt, .inl (cI, 480, .inl f_31)), (fa_greatestAt, .inl (cI, 480, .inl f_40))] H_41 := hP1
          replace hD : va_D A [(fh, .inr (0, [.int f_isReached, f_least, f_greatest, f_sites, f_maybeNull, f_known, f_lanes, f_shortest, f_longest, .ref fa_leastAt, .ref fa_greatestAt])), (fa_leastAt, .inl (cI, 480, .inl f_31)), (fa_greatestAt, .inl (cI, 480, .inl f_40))] := hD1
          replace hS := hS1
          clear hP1 hD1 hS1
          refine sf_iinc hx hb dX0_putSpan_89 hl (k := 1) (x := v_4) (w := 1) rfl (by decide) (by decide) ⟨by omega, by omega⟩ (fun v_43 q_v_43 ls1 hl1 => ?_)
          replace hl : lv_has ls1 10 [(8, .int v_43), (9, .int v_11), (0, .ref fh), (1, .int ia), (2, .int fa), (3, .long ba), (5, .int loa), (6, .int hia), (7, .int sa)] := hl1
          clear hl1
          refine lv_goto (tgt := 7) hx hb dX0_putSpan_92 (by decide) ?_
          exact ih_3 (v_43, f_31, f_40) (show (0 ≤ v_43.toInt) ∧ ((0 ≤ v_43.toInt ∧ fa.toInt ≤ v_43.toInt) ∧ ((v_43.toInt = 0 ∨ v_43.toInt = fa.toInt) ∨ (v_43.toInt ≤ ba.toInt ∧ v_43.toInt ≤ 12))) ∧ (∀ j : Nat, (12 * ia.toInt ≤ j ∧ 12 * ia.toInt + fa.toInt ≤ j ∧ (j : Int) < 12 * ia.toInt + v_43.toInt → (sa.toInt = 0 → (f_31 j).toInt ≤ (fc_leastAt j).toInt ∧ (f_31 j).toInt ≤ loa.toInt ∧ ((f_31 j).toInt = (fc_leastAt j).toInt ∨ (f_31 j).toInt = loa.toInt)) ∧ (¬ sa.toInt = 0 → (f_31 j).toInt = loa.toInt)) ∧ (¬ (12 * ia.toInt ≤ j ∧ 12 * ia.toInt + fa.toInt ≤ j ∧ (j : Int) < 12 * ia.toInt + v_43.toInt) → (f_31 j).toInt = (fc_leastAt j).toInt)) ∧ (∀ j : Nat, (12 * ia.toInt ≤ j ∧ 12 * ia.toInt + fa.toInt ≤ j ∧ (j : Int) < 12 * ia.toInt + v_43.toInt → (sa.toInt = 0 → (fc_greatestAt j).toInt ≤ (f_40 j).toInt ∧ hia.toInt ≤ (f_40 j).toInt ∧ ((f_40 j).toInt = (fc_greatestAt j).toInt ∨ (f_40 j).toInt = hia.toInt)) ∧ (¬ sa.toInt = 0 → (f_40 j).toInt = hia.toInt)) ∧ (¬ (12 * ia.toInt ≤ j ∧ 12 * ia.toInt + fa.toInt ≤ j ∧ (j : Int) < 12 * ia.toInt + v_43.toInt) → (f_40 j).toInt = (fc_greatestAt j).toInt)) from ⟨(by omega), (by have b0 := x_3_0; omega), (fun j => by by_cases hq : j = (v_11).toNatClampNeg; (· subst hq; have e := (u_f_31 _).1 rfl; have c1 := (x_3_1 ((v_11).toNatClampNeg)).2 (by omega); exact ⟨fun _ => ⟨fun h0 => by omega, fun h1 => by omega⟩, fun h => absurd (by omega) h⟩); (· have e := (u_f_31 j).2 hq; exact ⟨fun h => by rw [e]; exact (x_3_1 j).1 (by omega), fun h => by rw [e]; exact (x_3_1 j).2 (by omega)⟩)), (fun j => by by_cases hq : j = (v_11).toNatClampNeg; (· subst hq; have e := (u_f_40 _).1 rfl; have c1 := (x_3_2 ((v_11).toNatClampNeg)).2 (by omega); exact ⟨fun _ => ⟨fun h0 => by omega, fun h1 => by omega⟩, fun h => absurd (by omega) h⟩); (· have e := (u_f_40 j).2 hq; exact ⟨fun h => by rw [e]; exact (x_3_2 j).1 (by omega), fun h => by rw [e]; exact (x_3_2 j).2 (by omega)⟩))⟩) (by show (12 - v_43.toInt).toNat < (12 - v_4.toInt).toNat; omega) _ _ _ (hP.sub [0, 1, 2] rfl) (hD.sub [0, 1, 2] (by decide) rfl) hS (lv_sub hl [0, 2, 3, 4, 5, 6, 7, 8] rfl)
        · -- no
          have k_34 : ¬ sa.toInt = (0 : Int32).toInt := ci_ne c_34
          refine lv_iload hx hb dX0_putSpan_71 (lv_at hl 7 rfl) ?_
          refine lv_goto (tgt := 88) hx hb dX0_putSpan_73 (by decide) ?_
          have ni_46 := nn_cl (z := v_11) (by omega)
          refine sf_iastU kT hx hb hK hP hD hS 2 0 rfl rfl (fun _ => trivial) trivial (vp_in_iff.mpr ⟨by omega, by omega⟩) dX0_putSpan_88 (fun f_44 h_f_44 u_f_44 H_45 locs_45 hP1 hD1 hS1 => ?_)
          replace hP : va_P (dC, dI) vwCl [(fh, .inr (0, [.int f_isReached, f_least, f_greatest, f_sites, f_maybeNull, f_known, f_lanes, f_shortest, f_longest, .ref fa_leastAt, .ref fa_greatestAt])), (fa_leastAt, .inl (cI, 480, .inl f_31)), (fa_greatestAt, .inl (cI, 480, .inl f_44))] H_45 := hP1
          replace hD : va_D A [(fh, .inr (0, [.int f_isReached, f_least, f_greatest, f_sites, f_maybeNull, f_known, f_lanes, f_shortest, f_longest, .ref fa_leastAt, .ref fa_greatestAt])), (fa_leastAt, .inl (cI, 480, .inl f_31)), (fa_greatestAt, .inl (cI, 480, .inl f_44))] := hD1
          replace hS := hS1
          clear hP1 hD1 hS1
          refine sf_iinc hx hb dX0_putSpan_89 hl (k := 1) (x := v_4) (w := 1) rfl (by decide) (by decide) ⟨by omega, by omega⟩ (fun v_47 q_v_47 ls1 hl1 => ?_)
          replace hl : lv_has ls1 10 [(8, .int v_47), (9, .int v_11), (0, .ref fh), (1, .int ia), (2, .int fa), (3, .long ba), (5, .int loa), (6, .int hia), (7, .int sa)] := hl1
          clear hl1
          refine lv_goto (tgt := 7) hx hb dX0_putSpan_92 (by decide) ?_
          exact ih_3 (v_47, f_31, f_44) (show (0 ≤ v_47.toInt) ∧ ((0 ≤ v_47.toInt ∧ fa.toInt ≤ v_47.toInt) ∧ ((v_47.toInt = 0 ∨ v_47.toInt = fa.toInt) ∨ (v_47.toInt ≤ ba.toInt ∧ v_47.toInt ≤ 12))) ∧ (∀ j : Nat, (12 * ia.toInt ≤ j ∧ 12 * ia.toInt + fa.toInt ≤ j ∧ (j : Int) < 12 * ia.toInt + v_47.toInt → (sa.toInt = 0 → (f_31 j).toInt ≤ (fc_leastAt j).toInt ∧ (f_31 j).toInt ≤ loa.toInt ∧ ((f_31 j).toInt = (fc_leastAt j).toInt ∨ (f_31 j).toInt = loa.toInt)) ∧ (¬ sa.toInt = 0 → (f_31 j).toInt = loa.toInt)) ∧ (¬ (12 * ia.toInt ≤ j ∧ 12 * ia.toInt + fa.toInt ≤ j ∧ (j : Int) < 12 * ia.toInt + v_47.toInt) → (f_31 j).toInt = (fc_leastAt j).toInt)) ∧ (∀ j : Nat, (12 * ia.toInt ≤ j ∧ 12 * ia.toInt + fa.toInt ≤ j ∧ (j : Int) < 12 * ia.toInt + v_47.toInt → (sa.toInt = 0 → (fc_greatestAt j).toInt ≤ (f_44 j).toInt ∧ hia.toInt ≤ (f_44 j).toInt ∧ ((f_44 j).toInt = (fc_greatestAt j).toInt ∨ (f_44 j).toInt = hia.toInt)) ∧ (¬ sa.toInt = 0 → (f_44 j).toInt = hia.toInt)) ∧ (¬ (12 * ia.toInt ≤ j ∧ 12 * ia.toInt + fa.toInt ≤ j ∧ (j : Int) < 12 * ia.toInt + v_47.toInt) → (f_44 j).toInt = (fc_greatestAt j).toInt)) from ⟨(by omega), (by have b0 := x_3_0; omega), (fun j => by by_cases hq : j = (v_11).toNatClampNeg; (· subst hq; have e := (u_f_31 _).1 rfl; have c1 := (x_3_1 ((v_11).toNatClampNeg)).2 (by omega); exact ⟨fun _ => ⟨fun h0 => by omega, fun h1 => by omega⟩, fun h => absurd (by omega) h⟩); (· have e := (u_f_31 j).2 hq; exact ⟨fun h => by rw [e]; exact (x_3_1 j).1 (by omega), fun h => by rw [e]; exact (x_3_1 j).2 (by omega)⟩)), (fun j => by by_cases hq : j = (v_11).toNatClampNeg; (· subst hq; have e := (u_f_44 _).1 rfl; have c1 := (x_3_2 ((v_11).toNatClampNeg)).2 (by omega); exact ⟨fun _ => ⟨fun h0 => by omega, fun h1 => by omega⟩, fun h => absurd (by omega) h⟩); (· have e := (u_f_44 j).2 hq; exact ⟨fun h => by rw [e]; exact (x_3_2 j).1 (by omega), fun h => by rw [e]; exact (x_3_2 j).2 (by omega)⟩))⟩) (by show (12 - v_47.toInt).toNat < (12 - v_4.toInt).toNat; omega) _ _ _ (hP.sub [0, 1, 2] rfl) (hD.sub [0, 1, 2] (by decide) rfl) hS (lv_sub hl [0, 2, 3, 4, 5, 6, 7, 8] rfl)
