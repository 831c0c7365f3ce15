def v_X0_withLane : List Cond := .code yX0_withLane cX0_withLane 7 (some .long) :: ([.initialized RX4, .static yX4_isIn, .fieldLink RX0 33 "ArraySegments$Facts" "lanes" "[I"] ++ (wsX00 ++ (v_X4_isIn)))
theorem inv_X0_withLane_X0 : ∀ w ∈ wsX00, w ∈ v_X0_withLane := fun _ h => List.mem_cons_of_mem _ (List.mem_append_right _ (List.mem_append_left _ h))
theorem im_X0_withLane_X4_isIn : ∀ w ∈ v_X4_isIn, w ∈ v_X0_withLane := fun _ h => List.mem_cons_of_mem _ (List.mem_append_right _ (List.mem_append_right _ (h)))
set_option maxRecDepth 20000 in
theorem gd_X0_withLane : gdL v_X0_withLane := gdC (gdW (by decide +kernel)) (gdA (gdW (by decide +kernel)) (gdA gd_wsX00 gd_X4_isIn))
theorem h_X0_withLane_X4_isIn_102 : GoodIn v_X0_withLane (v_X4_isIn) := fun w h => ⟨im_X0_withLane_X4_isIn w h, gd_X4_isIn w h⟩
abbrev sw_X0_withLane (cI cJ cZ : ClassId) (fh : Nat) (f_isReached : Int32) (f_least : Value) (f_greatest : Value) (f_sites : Value) (f_maybeNull : Value) (f_known : Value) (fa_lanes : Nat) (f_shortest : Value) (f_longest : Value) (f_leastAt : Value) (f_greatestAt : Value) (fc_lanes : Nat → Int32) (ala : Int64) (la : Int32) : va_W := [(fh, .inr (0, [.int f_isReached, f_least, f_greatest, f_sites, f_maybeNull, f_known, .ref fa_lanes, f_shortest, f_longest, f_leastAt, f_greatestAt])), (fa_lanes, .inl (cI, 40, .inl fc_lanes))]
set_option maxHeartbeats 8000000 in
set_option maxRecDepth 100000 in
theorem s_X0_withLane (l : Launch) (dC : Nat → ClassId) (dI : Nat → Nat → Nat) (cI cJ cZ : ClassId) (fh : Nat) (f_isReached : Int32) (f_least : Value) (f_greatest : Value) (f_sites : Value) (f_maybeNull : Value) (f_known : Value) (fa_lanes : Nat) (f_shortest : Value) (f_longest : Value) (f_leastAt : Value) (f_greatestAt : Value) (fc_lanes : Nat → Int32) (ala : Int64) (la : Int32) (sz : Nat) (q_f_isReached : kZ f_isReached) (h_fc_lanes : ∀ j : Nat, kL7 (fc_lanes j)) (hy_la : V3 la) : Met l yX0_withLane v_X0_withLane ({ frames := 1, cells := 0, slots := 0, locals := 22 }) (va_Pc [.ref fh, .long ala, .int la] (cPre dC dI cI cJ cZ sz (sw_X0_withLane cI cJ cZ fh f_isReached f_least f_greatest f_sites f_maybeNull f_known fa_lanes f_shortest f_longest f_leastAt f_greatestAt fc_lanes ala la))) (va_Ql (fun (r : Int64) (u : Unit) => (∀ j : Nat, j < 64 → (sbit r j ↔ (j < 40 ∧ sbit ala j ∧ lbit (fc_lanes j) (la).toNatClampNeg)))) (fun (u : Unit) => cPost dC dI cI cJ cZ (va_A (sw_X0_withLane cI cJ cZ fh f_isReached f_least f_greatest f_sites f_maybeNull f_known fa_lanes f_shortest f_longest f_leastAt f_greatestAt fc_lanes ala la) sz) [(fh, .inr (0, [.int f_isReached, f_least, f_greatest, f_sites, f_maybeNull, f_known, .ref fa_lanes, f_shortest, f_longest, f_leastAt, f_greatestAt])), (fa_lanes, .inl (cI, 40, .inl fc_lanes))]) (va_A (sw_X0_withLane cI cJ cZ fh f_isReached f_least f_greatest f_sites f_maybeNull f_known fa_lanes f_shortest f_longest f_leastAt f_greatestAt fc_lanes ala la) sz)) 0 0 (va_A (sw_X0_withLane cI cJ cZ fh f_isReached f_least f_greatest f_sites f_maybeNull f_known fa_lanes f_shortest f_longest f_leastAt f_greatestAt fc_lanes ala la) sz) := by
  refine Met.ofW (cc := cX0_withLane) (maxL := 7) (ret := (some .long)) (by decide) rfl ?_
  intro p e s m args below meth c s₁ B hml hv
  obtain ⟨rfl, hsz, hP, hK, hD0, hN⟩ := hv
  have hx := B.exec
  have hb := B.bytes
  have hr := B.returns
  have hts := atoms_spec (ws := v_X0_withLane) B.pre
  have hown : s.vm.findClass RX0 = some m.cls := findClass_of_methodNamed B.named
  have hlocks := B.notSynchronized
  subst hsz
  have hD := hD0.self (sz := s.heap.size)
  generalize hAe : va_A (sw_X0_withLane cI cJ cZ fh f_isReached f_least f_greatest f_sites f_maybeNull f_known fa_lanes f_shortest f_longest f_leastAt f_greatestAt fc_lanes ala la) s.heap.size = A at hD ⊢
  have hA : ∀ q : Nat, s.heap.size ≤ q → A q := fun q h => by rw [← hAe]; exact Or.inr h
  clear hAe hD0
  have hS : va_S A s.heap s.heap [] := va_S.rf
  replace hP : va_P (dC, dI) vwCl [(fh, .inr (0, [.int f_isReached, f_least, f_greatest, f_sites, f_maybeNull, f_known, .ref fa_lanes, f_shortest, f_longest, f_leastAt, f_greatestAt])), (fa_lanes, .inl (cI, 40, .inl fc_lanes))] s.heap := hP
  replace hD : va_D A [(fh, .inr (0, [.int f_isReached, f_least, f_greatest, f_sites, f_maybeNull, f_known, .ref fa_lanes, f_shortest, f_longest, f_leastAt, f_greatestAt])), (fa_lanes, .inl (cI, 40, .inl fc_lanes))] := hD
  have hl := lv_entry ([.ref fh, .long ala, .int la]) (n := 7) (Nat.le_of_ble_eq_true rfl)
  rw [lg_entry_eq]
  generalize (lg_sl ([.ref fh, .long ala, .int la]) ++ List.replicate (7 - (lg_sl ([.ref fh, .long ala, .int la])).length) Slot.unset).toArray = ls at hl ⊢
  replace hl : lv_has ls 7 [(0, .ref fh), (1, .long ala), (3, .int la)] := hl
  have z_0 : (0 : Int32).toInt = 0 := by decide
  have z_1 : (1 : Int32).toInt = 1 := by decide
  have z_40 : (40 : Int32).toInt = 40 := by decide
  have zl_0 : (0 : Int64).toInt = 0 := by decide
  refine lv_lconst (v := 0) hx hb dX0_withLane_0 (by decide) ?_
  refine lv_lstore (lv' := [(4, .long 0), (0, .ref fh), (1, .long ala), (3, .int la)]) hx hb dX0_withLane_1 hl (by decide) rfl (fun ls1 hl1 => ?_)
  replace hl := hl1; clear hl1
  refine lv_iconst (v := 0) hx hb dX0_withLane_3 (by decide) ?_
  refine lv_istore (lv' := [(6, .int 0), (4, .long 0), (0, .ref fh), (1, .long ala), (3, .int la)]) hx hb dX0_withLane_4 hl (by decide) rfl (fun ls1 hl1 => ?_)
  replace hl := hl1; clear hl1
  refine my_wloop (S := Int32 × Int64) (fun u => (0 ≤ (u.1).toInt ∧ (u.1).toInt ≤ 40) ∧ (∀ j : Nat, j < 64 → (sbit (u.2) j ↔ ((j : Int) < (u.1).toInt ∧ sbit ala j ∧ lbit (fc_lanes j) (la).toNatClampNeg)))) (fun u => (40 - (u.1).toInt).toNat) (fun u => [(fh, .inr (0, [.int f_isReached, f_least, f_greatest, f_sites, f_maybeNull, f_known, .ref fa_lanes, f_shortest, f_longest, f_leastAt, f_greatestAt])), (fa_lanes, .inl (cI, 40, .inl fc_lanes))]) (fun u => [(6, .int (u.1)), (4, .long (u.2)), (0, .ref fh), (1, .long ala), (3, .int la)]) (H0 := s.heap) (A := A) (D := (dC, dI)) (cl := vwCl) ((0 : Int32), (0 : Int64)) (show (0 ≤ (0 : Int32).toInt ∧ (0 : Int32).toInt ≤ 40) ∧ (∀ j : Nat, j < 64 → (sbit (0 : Int64) j ↔ ((j : Int) < (0 : Int32).toInt ∧ sbit ala j ∧ lbit (fc_lanes j) (la).toNatClampNeg))) from ⟨⟨by omega, by omega⟩, (wl_0 rfl (by decide))⟩) (by exact hP) (by exact hD) hS (by exact hl) (fun u_1 hu_1 ih_1 H_1 locs_1 ls1 hP1 hD1 hS1 hl1 => ?_)
  obtain ⟨v_2, v_3⟩ := u_1
  replace hu_1 : (0 ≤ v_2.toInt ∧ v_2.toInt ≤ 40) ∧ (∀ j : Nat, j < 64 → (sbit v_3 j ↔ ((j : Int) < v_2.toInt ∧ sbit ala j ∧ lbit (fc_lanes j) (la).toNatClampNeg))) := hu_1
  obtain ⟨q_v_2, x_1_0⟩ := hu_1
  replace hP : va_P (dC, dI) vwCl [(fh, .inr (0, [.int f_isReached, f_least, f_greatest, f_sites, f_maybeNull, f_known, .ref fa_lanes, f_shortest, f_longest, f_leastAt, f_greatestAt])), (fa_lanes, .inl (cI, 40, .inl fc_lanes))] H_1 := hP1
  replace hD : va_D A [(fh, .inr (0, [.int f_isReached, f_least, f_greatest, f_sites, f_maybeNull, f_known, .ref fa_lanes, f_shortest, f_longest, f_leastAt, f_greatestAt])), (fa_lanes, .inl (cI, 40, .inl fc_lanes))] := hD1
  replace hS := hS1
  clear hP1 hD1 hS1
  replace hl : lv_has ls1 7 [(6, .int v_2), (4, .long v_3), (0, .ref fh), (1, .long ala), (3, .int la)] := hl1
  clear hl1
  refine lv_iload hx hb dX0_withLane_6 (lv_at hl 0 rfl) ?_
  refine lv_bipush (v := 40) hx hb dX0_withLane_8 (by decide) ?_
  refine lv_icmp_ge (tgt := 52) hx hb dX0_withLane_10 (by decide) (fun c_4 => ?_) (fun c_4 => ?_)
  · -- yes
    have k_4 : (40 : Int32).toInt ≤ v_2.toInt := ci_ge c_4
    refine lv_lload hx hb dX0_withLane_52 (lv_at hl 1 rfl) ?_
    have hP9 := hP.sub (ws' := [(fh, .inr (0, [.int f_isReached, f_least, f_greatest, f_sites, f_maybeNull, f_known, .ref fa_lanes, f_shortest, f_longest, f_leastAt, f_greatestAt])), (fa_lanes, .inl (cI, 40, .inl fc_lanes))]) [0, 1] rfl
    have hD9 := hD.sub (ws' := [(fh, .inr (0, [.int f_isReached, f_least, f_greatest, f_sites, f_maybeNull, f_known, .ref fa_lanes, f_shortest, f_longest, f_leastAt, f_greatestAt])), (fa_lanes, .inl (cI, 40, .inl fc_lanes))]) [0, 1] (by decide) rfl
    exact W.lret (v := v_3) hx hb hr (fun t ht hW => ⟨⟨v_3, (), rfl, (show ∀ j : Nat, j < 64 → (sbit v_3 j ↔ (j < 40 ∧ sbit ala j ∧ lbit (fc_lanes j) (la).toNatClampNeg)) from (fun j hj => by rw [x_1_0 j hj]; constructor; (· rintro ⟨h1, h2⟩; exact ⟨by omega, h2⟩); (· rintro ⟨h1, h2⟩; exact ⟨by omega, h2⟩))), by rw [ht]; exact hP9, va_K.moved hW.alike hK, hD9⟩, hS.F ht⟩) hS.2.2 dX0_withLane_54
  · -- no
    have k_4 : v_2.toInt < (40 : Int32).toInt := ci_nge c_4
    refine lv_lload_n hx hb dX0_withLane_13 rfl (lv_at hl 3 rfl) ?_
    refine lv_iload hx hb dX0_withLane_14 (lv_at hl 0 rfl) ?_
    refine vp_callSi (va_runSN (As := [.long ala, .int v_2]) (rest := []) ⟨hx, hb, hml, hown, hts⟩ (s_X4_isIn l ala v_2 (by first | assumption | omega)) (⟨va_cnB 2 hts h_X0_withLane_X4_isIn_102 rfl rfl rfl (hN.2.2.2.2.2.2.2.2.1) (hts (.initialized RX4) (List.mem_of_getElem? (i := 1) rfl)) (by decide +kernel) ⟨Nat.le_of_ble_eq_true rfl, Nat.le_of_ble_eq_true rfl⟩, hts (.static yX4_isIn) (List.mem_of_getElem? (i := 2) rfl), trivial⟩) ⟨fun _ _ _ _ q => q, fun _ _ _ => ⟨rfl, trivial⟩⟩ rfl rfl hl.1 rfl (lv_room (Nat.le_of_ble_eq_true rfl)) dX0_withLane_16 ⟨Nat.le_of_ble_eq_true rfl, Nat.le_of_ble_eq_true rfl⟩).run (fun r_5 hw_5 => ?_)
    replace hw_5 : (two r_5 (sbit ala (v_2).toNatClampNeg) 1 0) := hw_5
    have q_r_5 := hw_5
    refine lv_if_eq (tgt := 46) hx hb dX0_withLane_19 (by decide) (fun c_6 => ?_) (fun c_6 => ?_)
    · -- yes
      have k_6 : r_5.toInt = (0 : Int32).toInt := ci_eq c_6
      have kt_6 : ¬ (sbit ala (v_2).toNatClampNeg) := two_z q_r_5 c_6
      refine sf_iinc hx hb dX0_withLane_46 hl (k := 0) (x := v_2) (w := 1) rfl (by decide) (by decide) ⟨by omega, by omega⟩ (fun v_7 q_v_7 ls1 hl1 => ?_)
      replace hl : lv_has ls1 7 [(6, .int v_7), (4, .long v_3), (0, .ref fh), (1, .long ala), (3, .int la)] := hl1
      clear hl1
      refine lv_goto (tgt := 6) hx hb dX0_withLane_49 (by decide) ?_
      exact ih_1 (v_7, v_3) (show (0 ≤ v_7.toInt ∧ v_7.toInt ≤ 40) ∧ (∀ j : Nat, j < 64 → (sbit v_3 j ↔ ((j : Int) < v_7.toInt ∧ sbit ala j ∧ lbit (fc_lanes j) (la).toNatClampNeg))) from ⟨⟨by omega, by omega⟩, (wl_skip (P := fun j => sbit ala j ∧ lbit (fc_lanes j) (la).toNatClampNeg) x_1_0 (by omega) (show v_7.toInt = v_2.toInt + 1 from by omega) (fun h => kt_6 h.1))⟩) (by show (40 - v_7.toInt).toNat < (40 - v_2.toInt).toNat; omega) _ _ _ (hP.sub [0, 1] rfl) (hD.sub [0, 1] (by decide) rfl) hS (lv_sub hl [0, 1, 2, 3, 4] rfl)
    · -- no
      have k_6 : ¬ r_5.toInt = (0 : Int32).toInt := ci_ne c_6
      have kt_6 : sbit ala (v_2).toNatClampNeg := two_nz q_r_5 c_6
      refine lv_aload_n hx hb dX0_withLane_22 rfl (lv_at hl 2 rfl) ?_
      refine va_get (D := (dC, dI)) (ci := 0) (v := .ref fa_lanes) (C := RX0) (T := TX0) (N := 11) hx hb hts inv_X0_withLane_X0 hown hK hP 0 rfl rfl 6 (by decide) (hts (.fieldLink RX0 33 "ArraySegments$Facts" "lanes" "[I") (List.mem_of_getElem? (i := 3) rfl)) (fun _ h9 => h9) rfl dX0_withLane_23 ?_
      refine lv_iload hx hb dX0_withLane_26 (lv_at hl 0 rfl) ?_
      refine sf_iald kL7 hx hb hK hP 1 0 rfl rfl h_fc_lanes (vp_in_iff.mpr ⟨by omega, by omega⟩) dX0_withLane_28 (fun v_8 q_v_8 e_v_8 => ?_)
      have et_v_8 : v_8.toInt = (fc_lanes (v_2).toNatClampNeg).toInt := by rw [e_v_8]
      have ni_9 := nn_cl (z := v_2) (by omega)
      refine lv_iload_n hx hb dX0_withLane_29 rfl (lv_at hl 4 rfl) ?_
      refine lv_iushr (v := _) hx hb dX0_withLane_30 rfl ?_
      refine lv_topi (fun v_10 e_v_10 => ?_)
      refine lv_iconst (v := 1) hx hb dX0_withLane_31 (by decide) ?_
      refine lv_iand hx hb dX0_withLane_32 ?_
      refine lv_topi (fun v_11 e_v_11 => ?_)
      refine lv_iconst (v := 1) hx hb dX0_withLane_33 (by decide) ?_
      refine lv_icmp_ne (tgt := 46) hx hb dX0_withLane_34 (by decide) (fun c_12 => ?_) (fun c_12 => ?_)
      · -- yes
        have k_12 : ¬ v_11.toInt = (1 : Int32).toInt := ci_ne c_12
        refine sf_iinc hx hb dX0_withLane_46 hl (k := 0) (x := v_2) (w := 1) rfl (by decide) (by decide) ⟨by omega, by omega⟩ (fun v_13 q_v_13 ls1 hl1 => ?_)
        replace hl : lv_has ls1 7 [(6, .int v_13), (4, .long v_3), (0, .ref fh), (1, .long ala), (3, .int la)] := hl1
        clear hl1
        refine lv_goto (tgt := 6) hx hb dX0_withLane_49 (by decide) ?_
        exact ih_1 (v_13, v_3) (show (0 ≤ v_13.toInt ∧ v_13.toInt ≤ 40) ∧ (∀ j : Nat, j < 64 → (sbit v_3 j ↔ ((j : Int) < v_13.toInt ∧ sbit ala j ∧ lbit (fc_lanes j) (la).toNatClampNeg))) from ⟨⟨by omega, by omega⟩, (wl_skip (P := fun j => sbit ala j ∧ lbit (fc_lanes j) (la).toNatClampNeg) x_1_0 (by omega) (show v_13.toInt = v_2.toInt + 1 from by omega) (fun h => by have b0 := lb_ushr (l := la) ⟨by omega, by omega⟩ e_v_10 e_v_11; rw [e_v_8] at b0; exact absurd h.2 ((b0.resolve_left (fun h9 => by omega)).2)))⟩) (by show (40 - v_13.toInt).toNat < (40 - v_2.toInt).toNat; omega) _ _ _ (hP.sub [0, 1] rfl) (hD.sub [0, 1] (by decide) rfl) hS (lv_sub hl [0, 1, 2, 3, 4] rfl)
      · -- no
        have k_12 : v_11.toInt = (1 : Int32).toInt := ci_eq c_12
        refine lv_lload hx hb dX0_withLane_37 (lv_at hl 1 rfl) ?_
        refine lv_lconst (v := 1) hx hb dX0_withLane_39 (by decide) ?_
        refine lv_iload hx hb dX0_withLane_40 (lv_at hl 0 rfl) ?_
        refine lv_lshl (v := _) hx hb dX0_withLane_42 rfl ?_
        refine lv_topl (fun v_14 e_v_14 => ?_)
        refine lv_lor hx hb dX0_withLane_43 ?_
        refine lv_topl (fun v_15 e_v_15 => ?_)
        refine lv_lstore (lv' := [(4, .long v_15), (6, .int v_2), (0, .ref fh), (1, .long ala), (3, .int la)]) hx hb dX0_withLane_44 hl (by decide) rfl (fun ls1 hl1 => ?_)
        replace hl := hl1; clear hl1
        refine sf_iinc hx hb dX0_withLane_46 hl (k := 1) (x := v_2) (w := 1) rfl (by decide) (by decide) ⟨by omega, by omega⟩ (fun v_16 q_v_16 ls1 hl1 => ?_)
        replace hl : lv_has ls1 7 [(6, .int v_16), (4, .long v_15), (0, .ref fh), (1, .long ala), (3, .int la)] := hl1
        clear hl1
        refine lv_goto (tgt := 6) hx hb dX0_withLane_49 (by decide) ?_
        exact ih_1 (v_16, v_15) (show (0 ≤ v_16.toInt ∧ v_16.toInt ≤ 40) ∧ (∀ j : Nat, j < 64 → (sbit v_15 j ↔ ((j : Int) < v_16.toInt ∧ sbit ala j ∧ lbit (fc_lanes j) (la).toNatClampNeg))) from ⟨⟨by omega, by omega⟩, (wl_add (P := fun j => sbit ala j ∧ lbit (fc_lanes j) (la).toNatClampNeg) x_1_0 ⟨by omega, by omega⟩ (show v_16.toInt = v_2.toInt + 1 from by omega) e_v_14 e_v_15 ⟨kt_6, by have b0 := lb_ushr (l := la) ⟨by omega, by omega⟩ e_v_10 e_v_11; rw [e_v_8] at b0; exact (b0.resolve_right (fun h9 => by omega)).2⟩)⟩) (by show (40 - v_16.toInt).toNat < (40 - v_2.toInt).toNat; omega) _ _ _ (hP.sub [0, 1] rfl) (hD.sub [0, 1] (by decide) rfl) hS (lv_sub hl [0, 1, 2, 3, 4] rfl)
