def v_X0_castGreatest : List Cond := .code yX0_castGreatest cX0_castGreatest 3 (some .int) :: ([.methodLink RX0 98 yX0_castFits, .instanceMethod yX0_castFits, .selects RX0 yX0_castFits yX0_castFits, .initialized RX0, .initialized RX4, .static yX4_greatestOfLane, .fieldLink RX0 19 "ArraySegments$Facts" "greatest" "[I"] ++ (wsX00 ++ (v_X0_castFits ++ (v_X4_greatestOfLane))))
theorem inv_X0_castGreatest_X0 : ∀ w ∈ wsX00, w ∈ v_X0_castGreatest := fun _ h => List.mem_cons_of_mem _ (List.mem_append_right _ (List.mem_append_left _ h))
theorem im_X0_castGreatest_X0_castFits : ∀ w ∈ v_X0_castFits, w ∈ v_X0_castGreatest := fun _ h => List.mem_cons_of_mem _ (List.mem_append_right _ (List.mem_append_right _ (List.mem_append_left _ h)))
theorem im_X0_castGreatest_X4_greatestOfLane : ∀ w ∈ v_X4_greatestOfLane, w ∈ v_X0_castGreatest := fun _ h => List.mem_cons_of_mem _ (List.mem_append_right _ (List.mem_append_right _ (List.mem_append_right _ (h))))
set_option maxRecDepth 20000 in
theorem gd_X0_castGreatest : gdL v_X0_castGreatest := gdC (gdW (by decide +kernel)) (gdA (gdW (by decide +kernel)) (gdA gd_wsX00 (gdA gd_X0_castFits gd_X4_greatestOfLane)))
set_option maxRecDepth 20000 in
theorem h_X0_castGreatest_X0_castFits_98 : GoodIn v_X0_castGreatest (wsV RX0 98 RX0 yX0_castFits v_X0_castFits) := gdI [1, 2, 3, 4] rfl (by decide +kernel) (im_X0_castGreatest_X0_castFits) gd_X0_castFits
theorem h_X0_castGreatest_X4_greatestOfLane_95 : GoodIn v_X0_castGreatest (v_X4_greatestOfLane) := fun w h => ⟨im_X0_castGreatest_X4_greatestOfLane w h, gd_X4_greatestOfLane w h⟩
abbrev sw_X0_castGreatest (cI cJ cZ : ClassId) (fh : Nat) (f_isReached : Int32) (fa_least : Nat) (fa_greatest : Nat) (f_sites : Value) (f_maybeNull : Value) (f_known : Value) (f_lanes : Value) (f_shortest : Value) (f_longest : Value) (f_leastAt : Value) (f_greatestAt : Value) (fc_least : Nat → Int32) (fc_greatest : Nat → Int32) (la : Int32) (ya : Int32) : va_W := [(fh, .inr (0, [.int f_isReached, .ref fa_least, .ref fa_greatest, f_sites, f_maybeNull, f_known, f_lanes, f_shortest, f_longest, f_leastAt, f_greatestAt])), (fa_least, .inl (cI, 6, .inl fc_least)), (fa_greatest, .inl (cI, 6, .inl fc_greatest))]
set_option maxHeartbeats 8000000 in
set_option maxRecDepth 100000 in
theorem s_X0_castGreatest (l : Launch) (dC : Nat → ClassId) (dI : Nat → Nat → Nat) (cI cJ cZ : ClassId) (fh : Nat) (f_isReached : Int32) (fa_least : Nat) (fa_greatest : Nat) (f_sites : Value) (f_maybeNull : Value) (f_known : Value) (f_lanes : Value) (f_shortest : Value) (f_longest : Value) (f_leastAt : Value) (f_greatestAt : Value) (fc_least : Nat → Int32) (fc_greatest : Nat → Int32) (la : Int32) (ya : Int32) (sz : Nat) (q_f_isReached : kZ f_isReached) (hy_ya : V6 ya) : Met l yX0_castGreatest v_X0_castGreatest ({ frames := 2, cells := 0, slots := 0, locals := 42 }) (va_Pc [.ref fh, .int la, .int ya] (cPre dC dI cI cJ cZ sz (sw_X0_castGreatest cI cJ cZ fh f_isReached fa_least fa_greatest f_sites f_maybeNull f_known f_lanes f_shortest f_longest f_leastAt f_greatestAt fc_least fc_greatest la ya))) (va_Qi (fun (r : Int32) (u : Unit) => (∀ n w : Int, (fc_least (ya).toNatClampNeg).toInt ≤ n → n ≤ (fc_greatest (ya).toNatClampNeg).toInt → castR la.toInt n w → w ≤ r.toInt)) (fun (u : Unit) => cPost dC dI cI cJ cZ (va_A (sw_X0_castGreatest cI cJ cZ fh f_isReached fa_least fa_greatest f_sites f_maybeNull f_known f_lanes f_shortest f_longest f_leastAt f_greatestAt fc_least fc_greatest la ya) sz) [(fh, .inr (0, [.int f_isReached, .ref fa_least, .ref fa_greatest, f_sites, f_maybeNull, f_known, f_lanes, f_shortest, f_longest, f_leastAt, f_greatestAt])), (fa_least, .inl (cI, 6, .inl fc_least)), (fa_greatest, .inl (cI, 6, .inl fc_greatest))]) (va_A (sw_X0_castGreatest cI cJ cZ fh f_isReached fa_least fa_greatest f_sites f_maybeNull f_known f_lanes f_shortest f_longest f_leastAt f_greatestAt fc_least fc_greatest la ya) sz)) 0 0 (va_A (sw_X0_castGreatest cI cJ cZ fh f_isReached fa_least fa_greatest f_sites f_maybeNull f_known f_lanes f_shortest f_longest f_leastAt f_greatestAt fc_least fc_greatest la ya) sz) := by
  refine Met.ofW (cc := cX0_castGreatest) (maxL := 3) (ret := (some .int)) (by decide) rfl ?_
  intro p e s m args below meth c s₁ B hml hv
  obtain ⟨rfl, hsz, hP, hK, hD0, hN⟩ := hv
  have hx := B.exec
  have hb := B.bytes
  have hr := B.returns
  have hts := atoms_spec (ws := v_X0_castGreatest) B.pre
  have hown : s.vm.findClass RX0 = some m.cls := findClass_of_methodNamed B.named
  have hlocks := B.notSynchronized
  subst hsz
  have hD := hD0.self (sz := s.heap.size)
  generalize hAe : va_A (sw_X0_castGreatest cI cJ cZ fh f_isReached fa_least fa_greatest f_sites f_maybeNull f_known f_lanes f_shortest f_longest f_leastAt f_greatestAt fc_least fc_greatest la ya) s.heap.size = A at hD ⊢
  have hA : ∀ q : Nat, s.heap.size ≤ q → A q := fun q h => by rw [← hAe]; exact Or.inr h
  clear hAe hD0
  have hS : va_S A s.heap s.heap [] := va_S.rf
  replace hP : va_P (dC, dI) vwCl [(fh, .inr (0, [.int f_isReached, .ref fa_least, .ref fa_greatest, f_sites, f_maybeNull, f_known, f_lanes, f_shortest, f_longest, f_leastAt, f_greatestAt])), (fa_least, .inl (cI, 6, .inl fc_least)), (fa_greatest, .inl (cI, 6, .inl fc_greatest))] s.heap := hP
  replace hD : va_D A [(fh, .inr (0, [.int f_isReached, .ref fa_least, .ref fa_greatest, f_sites, f_maybeNull, f_known, f_lanes, f_shortest, f_longest, f_leastAt, f_greatestAt])), (fa_least, .inl (cI, 6, .inl fc_least)), (fa_greatest, .inl (cI, 6, .inl fc_greatest))] := hD
  have hl := lv_entry ([.ref fh, .int la, .int ya]) (n := 3) (Nat.le_of_ble_eq_true rfl)
  rw [lg_entry_eq]
  generalize (lg_sl ([.ref fh, .int la, .int ya]) ++ List.replicate (3 - (lg_sl ([.ref fh, .int la, .int ya])).length) Slot.unset).toArray = ls at hl ⊢
  replace hl : lv_has ls 3 [(0, .ref fh), (1, .int la), (2, .int ya)] := hl
  have z_0 : (0 : Int32).toInt = 0 := by decide
  have z_1 : (1 : Int32).toInt = 1 := by decide
  have ir_l := i32r (fc_least (ya).toNatClampNeg)
  have ir_g := i32r (fc_greatest (ya).toNatClampNeg)
  refine lv_aload_n hx hb dX0_castGreatest_0 rfl (lv_at hl 0 rfl) ?_
  refine lv_iload_n hx hb dX0_castGreatest_1 rfl (lv_at hl 1 rfl) ?_
  refine lv_iload_n hx hb dX0_castGreatest_2 rfl (lv_at hl 2 rfl) ?_
  have hPc := hP.sub (ws' := [(fh, .inr (0, [.int f_isReached, .ref fa_least, .ref fa_greatest, f_sites, f_maybeNull, f_known, f_lanes, f_shortest, f_longest, f_leastAt, f_greatestAt])), (fa_least, .inl (cI, 6, .inl fc_least)), (fa_greatest, .inl (cI, 6, .inl fc_greatest))]) [0, 1, 2] rfl
  have hDc := hD.sub (ws' := [(fh, .inr (0, [.int f_isReached, .ref fa_least, .ref fa_greatest, f_sites, f_maybeNull, f_known, f_lanes, f_shortest, f_longest, f_leastAt, f_greatestAt])), (fa_least, .inl (cI, 6, .inl fc_least)), (fa_greatest, .inl (cI, 6, .inl fc_greatest))]) [0, 1, 2] (by decide) rfl
  have hFc := va_free (wc := [(fh, .inr (0, [.int f_isReached, .ref fa_least, .ref fa_greatest, f_sites, f_maybeNull, f_known, f_lanes, f_shortest, f_longest, f_leastAt, f_greatestAt])), (fa_least, .inl (cI, 6, .inl fc_least)), (fa_greatest, .inl (cI, 6, .inl fc_greatest))]) hD hS hA [0, 1, 2] rfl
  refine va_calli (va_runV (As := [.int la, .int ya]) (rest := []) ⟨hx, hb, hml, hown, hts⟩ (s_X0_castFits l dC dI cI cJ cZ fh f_isReached fa_least fa_greatest f_sites f_maybeNull f_known f_lanes f_shortest f_longest f_leastAt f_greatestAt fc_least fc_greatest la ya s.heap.size q_f_isReached (by first | assumption | omega)) (cwV 2 hts h_X0_castGreatest_X0_castFits_98 rfl rfl rfl (by decide +kernel) ⟨Nat.le_of_ble_eq_true rfl, Nat.le_of_ble_eq_true rfl⟩) ⟨cPre_blind, va_recv hK hPc (ci := 0) (q0 := 0) rfl rfl, cPre_of hK hN hPc hDc⟩ rfl rfl hl.1 rfl (lv_room (Nat.le_of_ble_eq_true rfl)) dX0_castGreatest_3 ⟨Nat.le_of_ble_eq_true rfl, Nat.le_of_ble_eq_true rfl⟩) hS (fun q _ h => hFc q h) hFc (fun r_1 u_1 t_1 H_1 locs_1 ht hvm hw_1 hB hz1 hk1 hS1 => ?_)
  obtain ⟨hP1, hK1, hD1⟩ := hB
  rw [ht] at hP1
  obtain ⟨hP2, hD2⟩ := va_join (wr := []) (w1 := [(fh, .inr (0, [.int f_isReached, .ref fa_least, .ref fa_greatest, f_sites, f_maybeNull, f_known, f_lanes, f_shortest, f_longest, f_leastAt, f_greatestAt])), (fa_least, .inl (cI, 6, .inl fc_least)), (fa_greatest, .inl (cI, 6, .inl fc_greatest))]) hP hD [0, 1, 2] [] rfl rfl (by decide) (by decide) hk1 hFc hP1 hD1
  clear hPc hDc hFc hP1 hD1 hK1 hk1 hz1 hvm ht
  replace hP : va_P (dC, dI) vwCl [(fh, .inr (0, [.int f_isReached, .ref fa_least, .ref fa_greatest, f_sites, f_maybeNull, f_known, f_lanes, f_shortest, f_longest, f_leastAt, f_greatestAt])), (fa_least, .inl (cI, 6, .inl fc_least)), (fa_greatest, .inl (cI, 6, .inl fc_greatest))] H_1 := hP2
  replace hD : va_D A [(fh, .inr (0, [.int f_isReached, .ref fa_least, .ref fa_greatest, f_sites, f_maybeNull, f_known, f_lanes, f_shortest, f_longest, f_leastAt, f_greatestAt])), (fa_least, .inl (cI, 6, .inl fc_least)), (fa_greatest, .inl (cI, 6, .inl fc_greatest))] := hD2
  replace hS := hS1
  clear hP2 hD2 hS1
  replace hw_1 : (two r_1 ((la.toInt = 0 → -128 ≤ (fc_least (ya).toNatClampNeg).toInt ∧ (fc_greatest (ya).toNatClampNeg).toInt ≤ 127) ∧ (la.toInt = 1 → 0 ≤ (fc_least (ya).toNatClampNeg).toInt ∧ (fc_greatest (ya).toNatClampNeg).toInt ≤ 65535)) 1 0) := hw_1
  have q_r_1 := hw_1
  refine lv_if_eq (tgt := 18) hx hb dX0_castGreatest_6 (by decide) (fun c_2 => ?_) (fun c_2 => ?_)
  · -- yes
    have k_2 : r_1.toInt = (0 : Int32).toInt := ci_eq c_2
    have kt_2 : ¬ ((la.toInt = 0 → -128 ≤ (fc_least (ya).toNatClampNeg).toInt ∧ (fc_greatest (ya).toNatClampNeg).toInt ≤ 127) ∧ (la.toInt = 1 → 0 ≤ (fc_least (ya).toNatClampNeg).toInt ∧ (fc_greatest (ya).toNatClampNeg).toInt ≤ 65535)) := two_z q_r_1 c_2
    refine lv_iload_n hx hb dX0_castGreatest_18 rfl (lv_at hl 1 rfl) ?_
    refine vp_callSi (va_runSN (As := [.int la]) (rest := []) ⟨hx, hb, hml, hown, hts⟩ (s_X4_greatestOfLane l la) (⟨va_cnB 1 hts h_X0_castGreatest_X4_greatestOfLane_95 rfl rfl rfl (hN.2.2.2.2.2.2.2.2.2.2) (hts (.initialized RX4) (List.mem_of_getElem? (i := 5) rfl)) (by decide +kernel) ⟨Nat.le_of_ble_eq_true rfl, Nat.le_of_ble_eq_true rfl⟩, hts (.static yX4_greatestOfLane) (List.mem_of_getElem? (i := 6) rfl), trivial⟩) ⟨fun _ _ _ _ q => q, fun _ _ _ => ⟨rfl, trivial⟩⟩ rfl rfl hl.1 rfl (lv_room (Nat.le_of_ble_eq_true rfl)) dX0_castGreatest_19 ⟨Nat.le_of_ble_eq_true rfl, Nat.le_of_ble_eq_true rfl⟩).run (fun r_3 hw_3 => ?_)
    replace hw_3 : ((la.toInt = 0 → r_3.toInt = 127) ∧ (la.toInt = 1 → r_3.toInt = 65535) ∧ (¬ la.toInt = 0 → ¬ la.toInt = 1 → r_3.toInt = 2147483647)) := hw_3
    have q_r_3 := hw_3
    have hP9 := hP.sub (ws' := [(fh, .inr (0, [.int f_isReached, .ref fa_least, .ref fa_greatest, f_sites, f_maybeNull, f_known, f_lanes, f_shortest, f_longest, f_leastAt, f_greatestAt])), (fa_least, .inl (cI, 6, .inl fc_least)), (fa_greatest, .inl (cI, 6, .inl fc_greatest))]) [0, 1, 2] rfl
    have hD9 := hD.sub (ws' := [(fh, .inr (0, [.int f_isReached, .ref fa_least, .ref fa_greatest, f_sites, f_maybeNull, f_known, f_lanes, f_shortest, f_longest, f_leastAt, f_greatestAt])), (fa_least, .inl (cI, 6, .inl fc_least)), (fa_greatest, .inl (cI, 6, .inl fc_greatest))]) [0, 1, 2] (by decide) rfl
    exact W.iret (v := r_3) hx hb hr (fun t ht hW => ⟨⟨r_3, (), rfl, (show ∀ n w : Int, (fc_least (ya).toNatClampNeg).toInt ≤ n → n ≤ (fc_greatest (ya).toNatClampNeg).toInt → castR la.toInt n w → w ≤ r_3.toInt from (fun n w h1 h2 h3 => by omega)), by rw [ht]; exact hP9, va_K.moved hW.alike hK, hD9⟩, hS.F ht⟩) hS.2.2 dX0_castGreatest_22
  · -- no
    have k_2 : ¬ r_1.toInt = (0 : Int32).toInt := ci_ne c_2
    have kt_2 : (la.toInt = 0 → -128 ≤ (fc_least (ya).toNatClampNeg).toInt ∧ (fc_greatest (ya).toNatClampNeg).toInt ≤ 127) ∧ (la.toInt = 1 → 0 ≤ (fc_least (ya).toNatClampNeg).toInt ∧ (fc_greatest (ya).toNatClampNeg).toInt ≤ 65535) := two_nz q_r_1 c_2
    refine lv_aload_n hx hb dX0_castGreatest_9 rfl (lv_at hl 0 rfl) ?_
    refine va_get (D := (dC, dI)) (ci := 0) (v := .ref fa_greatest) (C := RX0) (T := TX0) (N := 11) hx hb hts inv_X0_castGreatest_X0 hown hK hP 0 rfl rfl 2 (by decide) (hts (.fieldLink RX0 19 "ArraySegments$Facts" "greatest" "[I") (List.mem_of_getElem? (i := 7) rfl)) (fun _ h9 => h9) rfl dX0_castGreatest_10 ?_
    refine lv_iload_n hx hb dX0_castGreatest_13 rfl (lv_at hl 2 rfl) ?_
    refine sf_iald kT hx hb hK hP 2 0 rfl rfl (fun _ => trivial) (vp_in_iff.mpr ⟨by omega, by omega⟩) dX0_castGreatest_14 (fun v_4 q_v_4 e_v_4 => ?_)
    have et_v_4 : v_4.toInt = (fc_greatest (ya).toNatClampNeg).toInt := by rw [e_v_4]
    have ni_5 := nn_cl (z := ya) (by omega)
    have ir_v_4 := i32r v_4
    refine lv_goto (tgt := 22) hx hb dX0_castGreatest_15 (by decide) ?_
    have hP9 := hP.sub (ws' := [(fh, .inr (0, [.int f_isReached, .ref fa_least, .ref fa_greatest, f_sites, f_maybeNull, f_known, f_lanes, f_shortest, f_longest, f_leastAt, f_greatestAt])), (fa_least, .inl (cI, 6, .inl fc_least)), (fa_greatest, .inl (cI, 6, .inl fc_greatest))]) [0, 1, 2] rfl
    have hD9 := hD.sub (ws' := [(fh, .inr (0, [.int f_isReached, .ref fa_least, .ref fa_greatest, f_sites, f_maybeNull, f_known, f_lanes, f_shortest, f_longest, f_leastAt, f_greatestAt])), (fa_least, .inl (cI, 6, .inl fc_least)), (fa_greatest, .inl (cI, 6, .inl fc_greatest))]) [0, 1, 2] (by decide) rfl
    exact W.iret (v := v_4) hx hb hr (fun t ht hW => ⟨⟨v_4, (), rfl, (show ∀ n w : Int, (fc_least (ya).toNatClampNeg).toInt ≤ n → n ≤ (fc_greatest (ya).toNatClampNeg).toInt → castR la.toInt n w → w ≤ v_4.toInt from (fun n w h1 h2 h3 => by omega)), by rw [ht]; exact hP9, va_K.moved hW.alike hK, hD9⟩, hS.F ht⟩) hS.2.2 dX0_castGreatest_22
