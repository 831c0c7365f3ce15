def v_X0_someMayHaveFewer : List Cond := .code yX0_someMayHaveFewer cX0_someMayHaveFewer 6 (some .boolean) :: ([.initialized RX4, .static yX4_isIn, .fieldLink RX0 36 "ArraySegments$Facts" "shortest" "[I"] ++ (wsX00 ++ (v_X4_isIn)))
theorem inv_X0_someMayHaveFewer_X0 : ∀ w ∈ wsX00, w ∈ v_X0_someMayHaveFewer := fun _ h => List.mem_cons_of_mem _ (List.mem_append_right _ (List.mem_append_left _ h))
theorem im_X0_someMayHaveFewer_X4_isIn : ∀ w ∈ v_X4_isIn, w ∈ v_X0_someMayHaveFewer := fun _ h => List.mem_cons_of_mem _ (List.mem_append_right _ (List.mem_append_right _ (h)))
set_option maxRecDepth 20000 in
theorem gd_X0_someMayHaveFewer : gdL v_X0_someMayHaveFewer := gdC (gdW (by decide +kernel)) (gdA (gdW (by decide +kernel)) (gdA gd_wsX00 gd_X4_isIn))
theorem h_X0_someMayHaveFewer_X4_isIn_102 : GoodIn v_X0_someMayHaveFewer (v_X4_isIn) := fun w h => ⟨im_X0_someMayHaveFewer_X4_isIn w h, gd_X4_isIn w h⟩
abbrev sw_X0_someMayHaveFewer (cI cJ cZ : ClassId) (fh : Nat) (f_isReached : Int32) (f_least : Value) (f_greatest : Value) (f_sites : Value) (f_maybeNull : Value) (f_known : Value) (f_lanes : Value) (fa_shortest : Nat) (f_longest : Value) (f_leastAt : Value) (f_greatestAt : Value) (fc_shortest : Nat → Int32) (ala : Int64) (wa : Int64) : va_W := [(fh, .inr (0, [.int f_isReached, f_least, f_greatest, f_sites, f_maybeNull, f_known, f_lanes, .ref fa_shortest, f_longest, f_leastAt, f_greatestAt])), (fa_shortest, .inl (cI, 40, .inl fc_shortest))]
set_option maxHeartbeats 8000000 in
set_option maxRecDepth 100000 in
theorem s_X0_someMayHaveFewer (l : Launch) (dC : Nat → ClassId) (dI : Nat → Nat → Nat) (cI cJ cZ : ClassId) (fh : Nat) (f_isReached : Int32) (f_least : Value) (f_greatest : Value) (f_sites : Value) (f_maybeNull : Value) (f_known : Value) (f_lanes : Value) (fa_shortest : Nat) (f_longest : Value) (f_leastAt : Value) (f_greatestAt : Value) (fc_shortest : Nat → Int32) (ala : Int64) (wa : Int64) (sz : Nat) (q_f_isReached : kZ f_isReached) : Met l yX0_someMayHaveFewer v_X0_someMayHaveFewer ({ frames := 1, cells := 0, slots := 0, locals := 22 }) (va_Pc [.ref fh, .long ala, .long wa] (cPre dC dI cI cJ cZ sz (sw_X0_someMayHaveFewer cI cJ cZ fh f_isReached f_least f_greatest f_sites f_maybeNull f_known f_lanes fa_shortest f_longest f_leastAt f_greatestAt fc_shortest ala wa))) (va_Qi (fun (r : Int32) (u : Unit) => (kZ r) ∧ (¬ r.toInt = 0 ∨ (∀ j : Nat, j < 40 → sbit ala j → wa.toInt ≤ (fc_shortest j).toInt))) (fun (u : Unit) => cPost dC dI cI cJ cZ (va_A (sw_X0_someMayHaveFewer cI cJ cZ fh f_isReached f_least f_greatest f_sites f_maybeNull f_known f_lanes fa_shortest f_longest f_leastAt f_greatestAt fc_shortest ala wa) sz) [(fh, .inr (0, [.int f_isReached, f_least, f_greatest, f_sites, f_maybeNull, f_known, f_lanes, .ref fa_shortest, f_longest, f_leastAt, f_greatestAt])), (fa_shortest, .inl (cI, 40, .inl fc_shortest))]) (va_A (sw_X0_someMayHaveFewer cI cJ cZ fh f_isReached f_least f_greatest f_sites f_maybeNull f_known f_lanes fa_shortest f_longest f_leastAt f_greatestAt fc_shortest ala wa) sz)) 0 0 (va_A (sw_X0_someMayHaveFewer cI cJ cZ fh f_isReached f_least f_greatest f_sites f_maybeNull f_known f_lanes fa_shortest f_longest f_leastAt f_greatestAt fc_shortest ala wa) sz) := by
  refine Met.ofW (cc := cX0_someMayHaveFewer) (maxL := 6) (ret := (some .boolean)) (by decide) rfl ?_
  intro p e s m args below meth c s₁ B hml hv
  obtain ⟨rfl, hsz, hP, hK, hD0, hN⟩ := hv
  have hx := B.exec
  have hb := B.bytes
  have hr := B.returns
  have hts := atoms_spec (ws := v_X0_someMayHaveFewer) B.pre
  have hown : s.vm.findClass RX0 = some m.cls := findClass_of_methodNamed B.named
  have hlocks := B.notSynchronized
  subst hsz
  have hD := hD0.self (sz := s.heap.size)
  generalize hAe : va_A (sw_X0_someMayHaveFewer cI cJ cZ fh f_isReached f_least f_greatest f_sites f_maybeNull f_known f_lanes fa_shortest f_longest f_leastAt f_greatestAt fc_shortest ala wa) s.heap.size = A at hD ⊢
  have hA : ∀ q : Nat, s.heap.size ≤ q → A q := fun q h => by rw [← hAe]; exact Or.inr h
  clear hAe hD0
  have hS : va_S A s.heap s.heap [] := va_S.rf
  replace hP : va_P (dC, dI) vwCl [(fh, .inr (0, [.int f_isReached, f_least, f_greatest, f_sites, f_maybeNull, f_known, f_lanes, .ref fa_shortest, f_longest, f_leastAt, f_greatestAt])), (fa_shortest, .inl (cI, 40, .inl fc_shortest))] s.heap := hP
  replace hD : va_D A [(fh, .inr (0, [.int f_isReached, f_least, f_greatest, f_sites, f_maybeNull, f_known, f_lanes, .ref fa_shortest, f_longest, f_leastAt, f_greatestAt])), (fa_shortest, .inl (cI, 40, .inl fc_shortest))] := hD
  have hl := lv_entry ([.ref fh, .long ala, .long wa]) (n := 6) (Nat.le_of_ble_eq_true rfl)
  rw [lg_entry_eq]
  generalize (lg_sl ([.ref fh, .long ala, .long wa]) ++ List.replicate (6 - (lg_sl ([.ref fh, .long ala, .long wa])).length) Slot.unset).toArray = ls at hl ⊢
  replace hl : lv_has ls 6 [(0, .ref fh), (1, .long ala), (3, .long wa)] := hl
  have z_0 : (0 : Int32).toInt = 0 := by decide
  have z_1 : (1 : Int32).toInt = 1 := by decide
  have z_40 : (40 : Int32).toInt = 40 := by decide
  refine lv_iconst (v := 0) hx hb dX0_someMayHaveFewer_0 (by decide) ?_
  refine lv_istore (lv' := [(5, .int 0), (0, .ref fh), (1, .long ala), (3, .long wa)]) hx hb dX0_someMayHaveFewer_1 hl (by decide) rfl (fun ls1 hl1 => ?_)
  replace hl := hl1; clear hl1
  refine my_wloop (S := Int32) (fun u => (0 ≤ (u).toInt ∧ (u).toInt ≤ 40) ∧ (∀ j : Nat, (j : Int) < (u).toInt → sbit ala j → wa.toInt ≤ (fc_shortest j).toInt)) (fun u => (40 - (u).toInt).toNat) (fun u => [(fh, .inr (0, [.int f_isReached, f_least, f_greatest, f_sites, f_maybeNull, f_known, f_lanes, .ref fa_shortest, f_longest, f_leastAt, f_greatestAt])), (fa_shortest, .inl (cI, 40, .inl fc_shortest))]) (fun u => [(5, .int (u)), (0, .ref fh), (1, .long ala), (3, .long wa)]) (H0 := s.heap) (A := A) (D := (dC, dI)) (cl := vwCl) (0 : Int32) (show (0 ≤ (0 : Int32).toInt ∧ (0 : Int32).toInt ≤ 40) ∧ (∀ j : Nat, (j : Int) < (0 : Int32).toInt → sbit ala j → wa.toInt ≤ (fc_shortest j).toInt) from ⟨⟨by omega, by omega⟩, (fun j hj => by omega)⟩) (by exact hP) (by exact hD) hS (by exact hl) (fun u_1 hu_1 ih_1 H_1 locs_1 ls1 hP1 hD1 hS1 hl1 => ?_)
  obtain ⟨v_2, rfl⟩ : ∃ z, z = u_1 := ⟨_, rfl⟩
  replace hu_1 : (0 ≤ v_2.toInt ∧ v_2.toInt ≤ 40) ∧ (∀ j : Nat, (j : Int) < v_2.toInt → sbit ala j → wa.toInt ≤ (fc_shortest j).toInt) := hu_1
  obtain ⟨q_v_2, x_1_0⟩ := hu_1
  replace hP : va_P (dC, dI) vwCl [(fh, .inr (0, [.int f_isReached, f_least, f_greatest, f_sites, f_maybeNull, f_known, f_lanes, .ref fa_shortest, f_longest, f_leastAt, f_greatestAt])), (fa_shortest, .inl (cI, 40, .inl fc_shortest))] H_1 := hP1
  replace hD : va_D A [(fh, .inr (0, [.int f_isReached, f_least, f_greatest, f_sites, f_maybeNull, f_known, f_lanes, .ref fa_shortest, f_longest, f_leastAt, f_greatestAt])), (fa_shortest, .inl (cI, 40, .inl fc_shortest))] := hD1
  replace hS := hS1
  clear hP1 hD1 hS1
  replace hl : lv_has ls1 6 [(5, .int v_2), (0, .ref fh), (1, .long ala), (3, .long wa)] := hl1
  clear hl1
  refine lv_iload hx hb dX0_someMayHaveFewer_3 (lv_at hl 0 rfl) ?_
  refine lv_bipush (v := 40) hx hb dX0_someMayHaveFewer_5 (by decide) ?_
  refine lv_icmp_ge (tgt := 40) hx hb dX0_someMayHaveFewer_7 (by decide) (fun c_3 => ?_) (fun c_3 => ?_)
  · -- yes
    have k_3 : (40 : Int32).toInt ≤ v_2.toInt := ci_ge c_3
    refine lv_iconst (v := 0) hx hb dX0_someMayHaveFewer_40 (by decide) ?_
    have hP9 := hP.sub (ws' := [(fh, .inr (0, [.int f_isReached, f_least, f_greatest, f_sites, f_maybeNull, f_known, f_lanes, .ref fa_shortest, f_longest, f_leastAt, f_greatestAt])), (fa_shortest, .inl (cI, 40, .inl fc_shortest))]) [0, 1] rfl
    have hD9 := hD.sub (ws' := [(fh, .inr (0, [.int f_isReached, f_least, f_greatest, f_sites, f_maybeNull, f_known, f_lanes, .ref fa_shortest, f_longest, f_leastAt, f_greatestAt])), (fa_shortest, .inl (cI, 40, .inl fc_shortest))]) [0, 1] (by decide) rfl
    exact W.zret (v := 0) (ty := .boolean) hx hb hr rfl (fun t ht hW => ⟨⟨0, (), rfl, ⟨(show kZ (0 : Int32) from (by decide)), (show ¬ (0 : Int32).toInt = 0 ∨ (∀ j : Nat, j < 40 → sbit ala j → wa.toInt ≤ (fc_shortest j).toInt) from (Or.inr (fun j hj => x_1_0 j (by omega))))⟩, by rw [ht]; exact hP9, va_K.moved hW.alike hK, hD9⟩, hS.F ht⟩) hS.2.2 dX0_someMayHaveFewer_41
  · -- no
    have k_3 : v_2.toInt < (40 : Int32).toInt := ci_nge c_3
    refine lv_lload_n hx hb dX0_someMayHaveFewer_10 rfl (lv_at hl 2 rfl) ?_
    refine lv_iload hx hb dX0_someMayHaveFewer_11 (lv_at hl 0 rfl) ?_
    refine vp_callSi (va_runSN (As := [.long ala, .int v_2]) (rest := []) ⟨hx, hb, hml, hown, hts⟩ (s_X4_isIn l ala v_2 (by first | assumption | omega)) (⟨va_cnB 2 hts h_X0_someMayHaveFewer_X4_isIn_102 rfl rfl rfl (hN.2.2.2.2.2.2.2.2.1) (hts (.initialized RX4) (List.mem_of_getElem? (i := 1) rfl)) (by decide +kernel) ⟨Nat.le_of_ble_eq_true rfl, Nat.le_of_ble_eq_true rfl⟩, hts (.static yX4_isIn) (List.mem_of_getElem? (i := 2) rfl), trivial⟩) ⟨fun _ _ _ _ q => q, fun _ _ _ => ⟨rfl, trivial⟩⟩ rfl rfl hl.1 rfl (lv_room (Nat.le_of_ble_eq_true rfl)) dX0_someMayHaveFewer_13 ⟨Nat.le_of_ble_eq_true rfl, Nat.le_of_ble_eq_true rfl⟩).run (fun r_4 hw_4 => ?_)
    replace hw_4 : (two r_4 (sbit ala (v_2).toNatClampNeg) 1 0) := hw_4
    have q_r_4 := hw_4
    refine lv_if_eq (tgt := 34) hx hb dX0_someMayHaveFewer_16 (by decide) (fun c_5 => ?_) (fun c_5 => ?_)
    · -- yes
      have k_5 : r_4.toInt = (0 : Int32).toInt := ci_eq c_5
      have kt_5 : ¬ (sbit ala (v_2).toNatClampNeg) := two_z q_r_4 c_5
      refine sf_iinc hx hb dX0_someMayHaveFewer_34 hl (k := 0) (x := v_2) (w := 1) rfl (by decide) (by decide) ⟨by omega, by omega⟩ (fun v_6 q_v_6 ls1 hl1 => ?_)
      replace hl : lv_has ls1 6 [(5, .int v_6), (0, .ref fh), (1, .long ala), (3, .long wa)] := hl1
      clear hl1
      refine lv_goto (tgt := 3) hx hb dX0_someMayHaveFewer_37 (by decide) ?_
      exact ih_1 v_6 (show (0 ≤ v_6.toInt ∧ v_6.toInt ≤ 40) ∧ (∀ j : Nat, (j : Int) < v_6.toInt → sbit ala j → wa.toInt ≤ (fc_shortest j).toInt) from ⟨⟨by omega, by omega⟩, (fun j hj hs => by have b7 := nn_cl2 v_2; by_cases hq : j = v_2.toNatClampNeg; (· subst hq; exact absurd hs kt_5); (· have b8 := x_1_0 j (by omega) hs; omega))⟩) (by show (40 - v_6.toInt).toNat < (40 - v_2.toInt).toNat; omega) _ _ _ (hP.sub [0, 1] rfl) (hD.sub [0, 1] (by decide) rfl) hS (lv_sub hl [0, 1, 2, 3] rfl)
    · -- no
      have k_5 : ¬ r_4.toInt = (0 : Int32).toInt := ci_ne c_5
      have kt_5 : sbit ala (v_2).toNatClampNeg := two_nz q_r_4 c_5
      refine lv_aload_n hx hb dX0_someMayHaveFewer_19 rfl (lv_at hl 1 rfl) ?_
      refine va_get (D := (dC, dI)) (ci := 0) (v := .ref fa_shortest) (C := RX0) (T := TX0) (N := 11) hx hb hts inv_X0_someMayHaveFewer_X0 hown hK hP 0 rfl rfl 7 (by decide) (hts (.fieldLink RX0 36 "ArraySegments$Facts" "shortest" "[I") (List.mem_of_getElem? (i := 3) rfl)) (fun _ h9 => h9) rfl dX0_someMayHaveFewer_20 ?_
      refine lv_iload hx hb dX0_someMayHaveFewer_23 (lv_at hl 0 rfl) ?_
      refine sf_iald kT hx hb hK hP 1 0 rfl rfl (fun _ => trivial) (vp_in_iff.mpr ⟨by omega, by omega⟩) dX0_someMayHaveFewer_25 (fun v_7 q_v_7 e_v_7 => ?_)
      have et_v_7 : v_7.toInt = (fc_shortest (v_2).toNatClampNeg).toInt := by rw [e_v_7]
      have ni_8 := nn_cl (z := v_2) (by omega)
      have ir_v_7 := i32r v_7
      refine sf_i2l hx hb dX0_someMayHaveFewer_26 (fun v_9 q_v_9 => ?_)
      refine lv_lload_n hx hb dX0_someMayHaveFewer_27 rfl (lv_at hl 3 rfl) ?_
      refine W.lcmp hx hb dX0_someMayHaveFewer_28 ?_
      refine lv_if_ge (tgt := 34) hx hb dX0_someMayHaveFewer_29 (by decide) (fun c_10 => ?_) (fun c_10 => ?_)
      · -- yes
        have k_10 : wa.toInt ≤ v_9.toInt := lc_ge c_10
        refine sf_iinc hx hb dX0_someMayHaveFewer_34 hl (k := 0) (x := v_2) (w := 1) rfl (by decide) (by decide) ⟨by omega, by omega⟩ (fun v_11 q_v_11 ls1 hl1 => ?_)
        replace hl : lv_has ls1 6 [(5, .int v_11), (0, .ref fh), (1, .long ala), (3, .long wa)] := hl1
        clear hl1
        refine lv_goto (tgt := 3) hx hb dX0_someMayHaveFewer_37 (by decide) ?_
        exact ih_1 v_11 (show (0 ≤ v_11.toInt ∧ v_11.toInt ≤ 40) ∧ (∀ j : Nat, (j : Int) < v_11.toInt → sbit ala j → wa.toInt ≤ (fc_shortest j).toInt) from ⟨⟨by omega, by omega⟩, (fun j hj hs => by have b7 := nn_cl2 v_2; by_cases hq : j = v_2.toNatClampNeg; (· subst hq; omega); (· have b8 := x_1_0 j (by omega) hs; omega))⟩) (by show (40 - v_11.toInt).toNat < (40 - v_2.toInt).toNat; omega) _ _ _ (hP.sub [0, 1] rfl) (hD.sub [0, 1] (by decide) rfl) hS (lv_sub hl [0, 1, 2, 3] rfl)
      · -- no
        have k_10 : v_9.toInt < wa.toInt := lc_nge c_10
        refine lv_iconst (v := 1) hx hb dX0_someMayHaveFewer_32 (by decide) ?_
        have hP9 := hP.sub (ws' := [(fh, .inr (0, [.int f_isReached, f_least, f_greatest, f_sites, f_maybeNull, f_known, f_lanes, .ref fa_shortest, f_longest, f_leastAt, f_greatestAt])), (fa_shortest, .inl (cI, 40, .inl fc_shortest))]) [0, 1] rfl
        have hD9 := hD.sub (ws' := [(fh, .inr (0, [.int f_isReached, f_least, f_greatest, f_sites, f_maybeNull, f_known, f_lanes, .ref fa_shortest, f_longest, f_leastAt, f_greatestAt])), (fa_shortest, .inl (cI, 40, .inl fc_shortest))]) [0, 1] (by decide) rfl
        exact W.zret (v := 1) (ty := .boolean) hx hb hr rfl (fun t ht hW => ⟨⟨1, (), rfl, ⟨(show kZ (1 : Int32) from (by decide)), (show ¬ (1 : Int32).toInt = 0 ∨ (∀ j : Nat, j < 40 → sbit ala j → wa.toInt ≤ (fc_shortest j).toInt) from (Or.inl (by decide)))⟩, by rw [ht]; exact hP9, va_K.moved hW.alike hK, hD9⟩, hS.F ht⟩) hS.2.2 dX0_someMayHaveFewer_33
