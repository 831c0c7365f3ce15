def v_X0_castFits : List Cond := .code yX0_castFits cX0_castFits 3 (some .boolean) :: ([.fieldLink RX0 15 "ArraySegments$Facts" "least" "[I", .initialized RX4, .static yX4_leastOfLane, .fieldLink RX0 19 "ArraySegments$Facts" "greatest" "[I", .static yX4_greatestOfLane] ++ (wsX00 ++ (v_X4_leastOfLane ++ (v_X4_greatestOfLane))))
theorem inv_X0_castFits_X0 : ∀ w ∈ wsX00, w ∈ v_X0_castFits := fun _ h => List.mem_cons_of_mem _ (List.mem_append_right _ (List.mem_append_left _ h))
theorem im_X0_castFits_X4_leastOfLane : ∀ w ∈ v_X4_leastOfLane, w ∈ v_X0_castFits := fun _ h => List.mem_cons_of_mem _ (List.mem_append_right _ (List.mem_append_right _ (List.mem_append_left _ h)))
theorem im_X0_castFits_X4_greatestOfLane : ∀ w ∈ v_X4_greatestOfLane, w ∈ v_X0_castFits := fun _ h => List.mem_cons_of_mem _ (List.mem_append_right _ (List.mem_append_right _ (List.mem_append_right _ (h))))
set_option maxRecDepth 20000 in
theorem gd_X0_castFits : gdL v_X0_castFits := gdC (gdW (by decide +kernel)) (gdA (gdW (by decide +kernel)) (gdA gd_wsX00 (gdA gd_X4_leastOfLane gd_X4_greatestOfLane)))
theorem h_X0_castFits_X4_leastOfLane_91 : GoodIn v_X0_castFits (v_X4_leastOfLane) := fun w h => ⟨im_X0_castFits_X4_leastOfLane w h, gd_X4_leastOfLane w h⟩
theorem h_X0_castFits_X4_greatestOfLane_95 : GoodIn v_X0_castFits (v_X4_greatestOfLane) := fun w h => ⟨im_X0_castFits_X4_greatestOfLane w h, gd_X4_greatestOfLane w h⟩
abbrev sw_X0_castFits (cI cJ cZ : ClassId) (fh : Nat) (f_isReached : Int32) (fa_least : Nat) (fa_greatest : Nat) (f_sites : Value) (f_maybeNull : Value) (f_known : Value) (f_lanes : Value) (f_shortest : Value) (f_longest : Value) (f_leastAt : Value) (f_greatestAt : Value) (fc_least : Nat → Int32) (fc_greatest : Nat → Int32) (la : Int32) (ya : Int32) : va_W := [(fh, .inr (0, [.int f_isReached, .ref fa_least, .ref fa_greatest, f_sites, f_maybeNull, f_known, f_lanes, f_shortest, f_longest, f_leastAt, f_greatestAt])), (fa_least, .inl (cI, 6, .inl fc_least)), (fa_greatest, .inl (cI, 6, .inl fc_greatest))]
set_option maxHeartbeats 8000000 in
set_option maxRecDepth 100000 in
theorem s_X0_castFits (l : Launch) (dC : Nat → ClassId) (dI : Nat → Nat → Nat) (cI cJ cZ : ClassId) (fh : Nat) (f_isReached : Int32) (fa_least : Nat) (fa_greatest : Nat) (f_sites : Value) (f_maybeNull : Value) (f_known : Value) (f_lanes : Value) (f_shortest : Value) (f_longest : Value) (f_leastAt : Value) (f_greatestAt : Value) (fc_least : Nat → Int32) (fc_greatest : Nat → Int32) (la : Int32) (ya : Int32) (sz : Nat) (q_f_isReached : kZ f_isReached) (hy_ya : V6 ya) : Met l yX0_castFits v_X0_castFits ({ frames := 1, cells := 0, slots := 0, locals := 20 }) (va_Pc [.ref fh, .int la, .int ya] (cPre dC dI cI cJ cZ sz (sw_X0_castFits cI cJ cZ fh f_isReached fa_least fa_greatest f_sites f_maybeNull f_known f_lanes f_shortest f_longest f_leastAt f_greatestAt fc_least fc_greatest la ya))) (va_Qi (fun (r : Int32) (u : Unit) => (two r ((la.toInt = 0 → -128 ≤ (fc_least (ya).toNatClampNeg).toInt ∧ (fc_greatest (ya).toNatClampNeg).toInt ≤ 127) ∧ (la.toInt = 1 → 0 ≤ (fc_least (ya).toNatClampNeg).toInt ∧ (fc_greatest (ya).toNatClampNeg).toInt ≤ 65535)) 1 0)) (fun (u : Unit) => cPost dC dI cI cJ cZ (va_A (sw_X0_castFits cI cJ cZ fh f_isReached fa_least fa_greatest f_sites f_maybeNull f_known f_lanes f_shortest f_longest f_leastAt f_greatestAt fc_least fc_greatest la ya) sz) [(fh, .inr (0, [.int f_isReached, .ref fa_least, .ref fa_greatest, f_sites, f_maybeNull, f_known, f_lanes, f_shortest, f_longest, f_leastAt, f_greatestAt])), (fa_least, .inl (cI, 6, .inl fc_least)), (fa_greatest, .inl (cI, 6, .inl fc_greatest))]) (va_A (sw_X0_castFits cI cJ cZ fh f_isReached fa_least fa_greatest f_sites f_maybeNull f_known f_lanes f_shortest f_longest f_leastAt f_greatestAt fc_least fc_greatest la ya) sz)) 0 0 (va_A (sw_X0_castFits cI cJ cZ fh f_isReached fa_least fa_greatest f_sites f_maybeNull f_known f_lanes f_shortest f_longest f_leastAt f_greatestAt fc_least fc_greatest la ya) sz) := by
  refine Met.ofW (cc := cX0_castFits) (maxL := 3) (ret := (some .boolean)) (by decide) rfl ?_
  intro p e s m args below meth c s₁ B hml hv
  obtain ⟨rfl, hsz, hP, hK, hD0, hN⟩ := hv
  have hx := B.exec
  have hb := B.bytes
  have hr := B.returns
  have hts := atoms_spec (ws := v_X0_castFits) B.pre
  have hown : s.vm.findClass RX0 = some m.cls := findClass_of_methodNamed B.named
  have hlocks := B.notSynchronized
  subst hsz
  have hD := hD0.self (sz := s.heap.size)
  generalize hAe : va_A (sw_X0_castFits cI cJ cZ fh f_isReached fa_least fa_greatest f_sites f_maybeNull f_known f_lanes f_shortest f_longest f_leastAt f_greatestAt fc_least fc_greatest la ya) s.heap.size = A at hD ⊢
  have hA : ∀ q : Nat, s.heap.size ≤ q → A q := fun q h => by rw [← hAe]; exact Or.inr h
  clear hAe hD0
  have hS : va_S A s.heap s.heap [] := va_S.rf
  replace hP : va_P (dC, dI) vwCl [(fh, .inr (0, [.int f_isReached, .ref fa_least, .ref fa_greatest, f_sites, f_maybeNull, f_known, f_lanes, f_shortest, f_longest, f_leastAt, f_greatestAt])), (fa_least, .inl (cI, 6, .inl fc_least)), (fa_greatest, .inl (cI, 6, .inl fc_greatest))] s.heap := hP
  replace hD : va_D A [(fh, .inr (0, [.int f_isReached, .ref fa_least, .ref fa_greatest, f_sites, f_maybeNull, f_known, f_lanes, f_shortest, f_longest, f_leastAt, f_greatestAt])), (fa_least, .inl (cI, 6, .inl fc_least)), (fa_greatest, .inl (cI, 6, .inl fc_greatest))] := hD
  have hl := lv_entry ([.ref fh, .int la, .int ya]) (n := 3) (Nat.le_of_ble_eq_true rfl)
  rw [lg_entry_eq]
  generalize (lg_sl ([.ref fh, .int la, .int ya]) ++ List.replicate (3 - (lg_sl ([.ref fh, .int la, .int ya])).length) Slot.unset).toArray = ls at hl ⊢
  replace hl : lv_has ls 3 [(0, .ref fh), (1, .int la), (2, .int ya)] := hl
  have z_0 : (0 : Int32).toInt = 0 := by decide
  have z_1 : (1 : Int32).toInt = 1 := by decide
  refine lv_aload_n hx hb dX0_castFits_0 rfl (lv_at hl 0 rfl) ?_
  refine va_get (D := (dC, dI)) (ci := 0) (v := .ref fa_least) (C := RX0) (T := TX0) (N := 11) hx hb hts inv_X0_castFits_X0 hown hK hP 0 rfl rfl 1 (by decide) (hts (.fieldLink RX0 15 "ArraySegments$Facts" "least" "[I") (List.mem_of_getElem? (i := 1) rfl)) (fun _ h9 => h9) rfl dX0_castFits_1 ?_
  refine lv_iload_n hx hb dX0_castFits_4 rfl (lv_at hl 2 rfl) ?_
  refine sf_iald kT hx hb hK hP 1 0 rfl rfl (fun _ => trivial) (vp_in_iff.mpr ⟨by omega, by omega⟩) dX0_castFits_5 (fun v_1 q_v_1 e_v_1 => ?_)
  have et_v_1 : v_1.toInt = (fc_least (ya).toNatClampNeg).toInt := by rw [e_v_1]
  have ni_2 := nn_cl (z := ya) (by omega)
  have ir_v_1 := i32r v_1
  refine lv_iload_n hx hb dX0_castFits_6 rfl (lv_at hl 1 rfl) ?_
  refine vp_callSi (va_runSN (As := [.int la]) (rest := [.int v_1]) ⟨hx, hb, hml, hown, hts⟩ (s_X4_leastOfLane l la) (⟨va_cnB 1 hts h_X0_castFits_X4_leastOfLane_91 rfl rfl rfl (hN.2.2.2.2.2.2.2.2.2.1) (hts (.initialized RX4) (List.mem_of_getElem? (i := 2) rfl)) (by decide +kernel) ⟨Nat.le_of_ble_eq_true rfl, Nat.le_of_ble_eq_true rfl⟩, hts (.static yX4_leastOfLane) (List.mem_of_getElem? (i := 3) rfl), trivial⟩) ⟨fun _ _ _ _ q => q, fun _ _ _ => ⟨rfl, trivial⟩⟩ rfl rfl hl.1 rfl (lv_room (Nat.le_of_ble_eq_true rfl)) dX0_castFits_7 ⟨Nat.le_of_ble_eq_true rfl, Nat.le_of_ble_eq_true rfl⟩).run (fun r_3 hw_3 => ?_)
  replace hw_3 : ((la.toInt = 0 → r_3.toInt = -128) ∧ (la.toInt = 1 → r_3.toInt = 0) ∧ (¬ la.toInt = 0 → ¬ la.toInt = 1 → r_3.toInt = -2147483648)) := hw_3
  have q_r_3 := hw_3
  refine lv_icmp_lt (tgt := 30) hx hb dX0_castFits_10 (by decide) (fun c_4 => ?_) (fun c_4 => ?_)
  · -- yes
    have k_4 : v_1.toInt < r_3.toInt := ci_lt c_4
    refine lv_iconst (v := 0) hx hb dX0_castFits_30 (by decide) ?_
    have hP9 := hP.sub (ws' := [(fh, .inr (0, [.int f_isReached, .ref fa_least, .ref fa_greatest, f_sites, f_maybeNull, f_known, f_lanes, f_shortest, f_longest, f_leastAt, f_greatestAt])), (fa_least, .inl (cI, 6, .inl fc_least)), (fa_greatest, .inl (cI, 6, .inl fc_greatest))]) [0, 1, 2] rfl
    have hD9 := hD.sub (ws' := [(fh, .inr (0, [.int f_isReached, .ref fa_least, .ref fa_greatest, f_sites, f_maybeNull, f_known, f_lanes, f_shortest, f_longest, f_leastAt, f_greatestAt])), (fa_least, .inl (cI, 6, .inl fc_least)), (fa_greatest, .inl (cI, 6, .inl fc_greatest))]) [0, 1, 2] (by decide) rfl
    exact W.zret (v := 0) (ty := .boolean) hx hb hr rfl (fun t ht hW => ⟨⟨0, (), rfl, (show two (0 : Int32) ((la.toInt = 0 → -128 ≤ (fc_least (ya).toNatClampNeg).toInt ∧ (fc_greatest (ya).toNatClampNeg).toInt ≤ 127) ∧ (la.toInt = 1 → 0 ≤ (fc_least (ya).toNatClampNeg).toInt ∧ (fc_greatest (ya).toNatClampNeg).toInt ≤ 65535)) 1 0 from (by first | (refine Or.inl ⟨rfl, ?_⟩; omega) | (refine Or.inr ⟨rfl, ?_⟩; omega))), by rw [ht]; exact hP9, va_K.moved hW.alike hK, hD9⟩, hS.F ht⟩) hS.2.2 dX0_castFits_31
  · -- no
    have k_4 : r_3.toInt ≤ v_1.toInt := ci_nlt c_4
    refine lv_aload_n hx hb dX0_castFits_13 rfl (lv_at hl 0 rfl) ?_
    refine va_get (D := (dC, dI)) (ci := 0) (v := .ref fa_greatest) (C := RX0) (T := TX0) (N := 11) hx hb hts inv_X0_castFits_X0 hown hK hP 0 rfl rfl 2 (by decide) (hts (.fieldLink RX0 19 "ArraySegments$Facts" "greatest" "[I") (List.mem_of_getElem? (i := 4) rfl)) (fun _ h9 => h9) rfl dX0_castFits_14 ?_
    refine lv_iload_n hx hb dX0_castFits_17 rfl (lv_at hl 2 rfl) ?_
    refine sf_iald kT hx hb hK hP 2 0 rfl rfl (fun _ => trivial) (vp_in_iff.mpr ⟨by omega, by omega⟩) dX0_castFits_18 (fun v_5 q_v_5 e_v_5 => ?_)
    have et_v_5 : v_5.toInt = (fc_greatest (ya).toNatClampNeg).toInt := by rw [e_v_5]
    have ni_6 := nn_cl (z := ya) (by omega)
    have ir_v_5 := i32r v_5
    refine lv_iload_n hx hb dX0_castFits_19 rfl (lv_at hl 1 rfl) ?_
    refine vp_callSi (va_runSN (As := [.int la]) (rest := [.int v_5]) ⟨hx, hb, hml, hown, hts⟩ (s_X4_greatestOfLane l la) (⟨va_cnB 1 hts h_X0_castFits_X4_greatestOfLane_95 rfl rfl rfl (hN.2.2.2.2.2.2.2.2.2.2) (hts (.initialized RX4) (List.mem_of_getElem? (i := 2) rfl)) (by decide +kernel) ⟨Nat.le_of_ble_eq_true rfl, Nat.le_of_ble_eq_true rfl⟩, hts (.static yX4_greatestOfLane) (List.mem_of_getElem? (i := 5) rfl), trivial⟩) ⟨fun _ _ _ _ q => q, fun _ _ _ => ⟨rfl, trivial⟩⟩ rfl rfl hl.1 rfl (lv_room (Nat.le_of_ble_eq_true rfl)) dX0_castFits_20 ⟨Nat.le_of_ble_eq_true rfl, Nat.le_of_ble_eq_true rfl⟩).run (fun r_7 hw_7 => ?_)
    replace hw_7 : ((la.toInt = 0 → r_7.toInt = 127) ∧ (la.toInt = 1 → r_7.toInt = 65535) ∧ (¬ la.toInt = 0 → ¬ la.toInt = 1 → r_7.toInt = 2147483647)) := hw_7
    have q_r_7 := hw_7
    refine lv_icmp_gt (tgt := 30) hx hb dX0_castFits_23 (by decide) (fun c_8 => ?_) (fun c_8 => ?_)
    · -- yes
      have k_8 : r_7.toInt < v_5.toInt := ci_gt c_8
      refine lv_iconst (v := 0) hx hb dX0_castFits_30 (by decide) ?_
      have hP9 := hP.sub (ws' := [(fh, .inr (0, [.int f_isReached, .ref fa_least, .ref fa_greatest, f_sites, f_maybeNull, f_known, f_lanes, f_shortest, f_longest, f_leastAt, f_greatestAt])), (fa_least, .inl (cI, 6, .inl fc_least)), (fa_greatest, .inl (cI, 6, .inl fc_greatest))]) [0, 1, 2] rfl
      have hD9 := hD.sub (ws' := [(fh, .inr (0, [.int f_isReached, .ref fa_least, .ref fa_greatest, f_sites, f_maybeNull, f_known, f_lanes, f_shortest, f_longest, f_leastAt, f_greatestAt])), (fa_least, .inl (cI, 6, .inl fc_least)), (fa_greatest, .inl (cI, 6, .inl fc_greatest))]) [0, 1, 2] (by decide) rfl
      exact W.zret (v := 0) (ty := .boolean) hx hb hr rfl (fun t ht hW => ⟨⟨0, (), rfl, (show two (0 : Int32) ((la.toInt = 0 → -128 ≤ (fc_least (ya).toNatClampNeg).toInt ∧ (fc_greatest (ya).toNatClampNeg).toInt ≤ 127) ∧ (la.toInt = 1 → 0 ≤ (fc_least (ya).toNatClampNeg).toInt ∧ (fc_greatest (ya).toNatClampNeg).toInt ≤ 65535)) 1 0 from (by first | (refine Or.inl ⟨rfl, ?_⟩; omega) | (refine Or.inr ⟨rfl, ?_⟩; omega))), by rw [ht]; exact hP9, va_K.moved hW.alike hK, hD9⟩, hS.F ht⟩) hS.2.2 dX0_castFits_31
    · -- no
      have k_8 : v_5.toInt ≤ r_7.toInt := ci_ngt c_8
      refine lv_iconst (v := 1) hx hb dX0_castFits_26 (by decide) ?_
      refine lv_goto (tgt := 31) hx hb dX0_castFits_27 (by decide) ?_
      have hP9 := hP.sub (ws' := [(fh, .inr (0, [.int f_isReached, .ref fa_least, .ref fa_greatest, f_sites, f_maybeNull, f_known, f_lanes, f_shortest, f_longest, f_leastAt, f_greatestAt])), (fa_least, .inl (cI, 6, .inl fc_least)), (fa_greatest, .inl (cI, 6, .inl fc_greatest))]) [0, 1, 2] rfl
      have hD9 := hD.sub (ws' := [(fh, .inr (0, [.int f_isReached, .ref fa_least, .ref fa_greatest, f_sites, f_maybeNull, f_known, f_lanes, f_shortest, f_longest, f_leastAt, f_greatestAt])), (fa_least, .inl (cI, 6, .inl fc_least)), (fa_greatest, .inl (cI, 6, .inl fc_greatest))]) [0, 1, 2] (by decide) rfl
      exact W.zret (v := 1) (ty := .boolean) hx hb hr rfl (fun t ht hW => ⟨⟨1, (), rfl, (show two (1 : Int32) ((la.toInt = 0 → -128 ≤ (fc_least (ya).toNatClampNeg).toInt ∧ (fc_greatest (ya).toNatClampNeg).toInt ≤ 127) ∧ (la.toInt = 1 → 0 ≤ (fc_least (ya).toNatClampNeg).toInt ∧ (fc_greatest (ya).toNatClampNeg).toInt ≤ 65535)) 1 0 from (by first | (refine Or.inl ⟨rfl, ?_⟩; omega) | (refine Or.inr ⟨rfl, ?_⟩; omega))), by rw [ht]; exact hP9, va_K.moved hW.alike hK, hD9⟩, hS.F ht⟩) hS.2.2 dX0_castFits_31
