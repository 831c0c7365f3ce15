def v_X0_longestOf : List Cond := .code yX0_longestOf cX0_longestOf 5 (some .int) :: ([.initialized RX4, .static yX4_isIn, .fieldLink RX0 39 "ArraySegments$Facts" "longest" "[I", .methodLink RX0 68 Lib.Math.max.name, .static Lib.Math.max.name, .initialized "java/lang/Math", .code Lib.Math.max.name Lib.Math.max.code 2 (some .int)] ++ (wsX00 ++ (v_X4_isIn)))
theorem inv_X0_longestOf_X0 : ∀ w ∈ wsX00, w ∈ v_X0_longestOf := fun _ h => List.mem_cons_of_mem _ (List.mem_append_right _ (List.mem_append_left _ h))
theorem im_X0_longestOf_X4_isIn : ∀ w ∈ v_X4_isIn, w ∈ v_X0_longestOf := fun _ h => List.mem_cons_of_mem _ (List.mem_append_right _ (List.mem_append_right _ (h)))
set_option maxRecDepth 20000 in
theorem gd_X0_longestOf : gdL v_X0_longestOf := gdC (gdW (by decide +kernel)) (gdA (gdW (by decide +kernel)) (gdA gd_wsX00 gd_X4_isIn))
theorem h_X0_longestOf_X4_isIn_102 : GoodIn v_X0_longestOf (v_X4_isIn) := fun w h => ⟨im_X0_longestOf_X4_isIn w h, gd_X4_isIn w h⟩
abbrev sw_X0_longestOf (cI cJ cZ : ClassId) (fh : Nat) (f_isReached : Int32) (f_least : Value) (f_greatest : Value) (f_sites : Value) (f_maybeNull : Value) (f_known : Value) (f_lanes : Value) (f_shortest : Value) (fa_longest : Nat) (f_leastAt : Value) (f_greatestAt : Value) (fc_longest : Nat → Int32) (ala : Int64) : va_W := [(fh, .inr (0, [.int f_isReached, f_least, f_greatest, f_sites, f_maybeNull, f_known, f_lanes, f_shortest, .ref fa_longest, f_leastAt, f_greatestAt])), (fa_longest, .inl (cI, 40, .inl fc_longest))]
set_option maxHeartbeats 8000000 in
set_option maxRecDepth 100000 in
theorem s_X0_longestOf (l : Launch) (dC : Nat → ClassId) (dI : Nat → Nat → Nat) (cI cJ cZ : ClassId) (fh : Nat) (f_isReached : Int32) (f_least : Value) (f_greatest : Value) (f_sites : Value) (f_maybeNull : Value) (f_known : Value) (f_lanes : Value) (f_shortest : Value) (fa_longest : Nat) (f_leastAt : Value) (f_greatestAt : Value) (fc_longest : Nat → Int32) (ala : Int64) (sz : Nat) (q_f_isReached : kZ f_isReached) (h_fc_longest : ∀ j : Nat, kLE12 (fc_longest j)) : Met l yX0_longestOf v_X0_longestOf ({ frames := 1, cells := 0, slots := 0, locals := 22 }) (va_Pc [.ref fh, .long ala] (cPre dC dI cI cJ cZ sz (sw_X0_longestOf cI cJ cZ fh f_isReached f_least f_greatest f_sites f_maybeNull f_known f_lanes f_shortest fa_longest f_leastAt f_greatestAt fc_longest ala))) (va_Qi (fun (r : Int32) (u : Unit) => ((0 ≤ r.toInt ∧ r.toInt ≤ 12) ∧ (∀ j : Nat, j < 40 → sbit ala j → (fc_longest j).toInt ≤ r.toInt))) (fun (u : Unit) => cPost dC dI cI cJ cZ (va_A (sw_X0_longestOf cI cJ cZ fh f_isReached f_least f_greatest f_sites f_maybeNull f_known f_lanes f_shortest fa_longest f_leastAt f_greatestAt fc_longest ala) sz) [(fh, .inr (0, [.int f_isReached, f_least, f_greatest, f_sites, f_maybeNull, f_known, f_lanes, f_shortest, .ref fa_longest, f_leastAt, f_greatestAt])), (fa_longest, .inl (cI, 40, .inl fc_longest))]) (va_A (sw_X0_longestOf cI cJ cZ fh f_isReached f_least f_greatest f_sites f_maybeNull f_known f_lanes f_shortest fa_longest f_leastAt f_greatestAt fc_longest ala) sz)) 0 0 (va_A (sw_X0_longestOf cI cJ cZ fh f_isReached f_least f_greatest f_sites f_maybeNull f_known f_lanes f_shortest fa_longest f_leastAt f_greatestAt fc_longest ala) sz) := by
  refine Met.ofW (cc := cX0_longestOf) (maxL := 5) (ret := (some .int)) (by decide) rfl ?_
  intro p e s m args below meth c s₁ B hml hv
  obtain ⟨rfl, hsz, hP, hK, hD0, hN⟩ := hv
  have hx := B.exec
  have hb := B.bytes
  have hr := B.returns
  have hts := atoms_spec (ws := v_X0_longestOf) B.pre
  have hown : s.vm.findClass RX0 = some m.cls := findClass_of_methodNamed B.named
  have hlocks := B.notSynchronized
  subst hsz
  have hD := hD0.self (sz := s.heap.size)
  generalize hAe : va_A (sw_X0_longestOf cI cJ cZ fh f_isReached f_least f_greatest f_sites f_maybeNull f_known f_lanes f_shortest fa_longest f_leastAt f_greatestAt fc_longest ala) s.heap.size = A at hD ⊢
  have hA : ∀ q : Nat, s.heap.size ≤ q → A q := fun q h => by rw [← hAe]; exact Or.inr h
  clear hAe hD0
  have hS : va_S A s.heap s.heap [] := va_S.rf
  replace hP : va_P (dC, dI) vwCl [(fh, .inr (0, [.int f_isReached, f_least, f_greatest, f_sites, f_maybeNull, f_known, f_lanes, f_shortest, .ref fa_longest, f_leastAt, f_greatestAt])), (fa_longest, .inl (cI, 40, .inl fc_longest))] s.heap := hP
  replace hD : va_D A [(fh, .inr (0, [.int f_isReached, f_least, f_greatest, f_sites, f_maybeNull, f_known, f_lanes, f_shortest, .ref fa_longest, f_leastAt, f_greatestAt])), (fa_longest, .inl (cI, 40, .inl fc_longest))] := hD
  have hl := lv_entry ([.ref fh, .long ala]) (n := 5) (Nat.le_of_ble_eq_true rfl)
  rw [lg_entry_eq]
  generalize (lg_sl ([.ref fh, .long ala]) ++ List.replicate (5 - (lg_sl ([.ref fh, .long ala])).length) Slot.unset).toArray = ls at hl ⊢
  replace hl : lv_has ls 5 [(0, .ref fh), (1, .long ala)] := hl
  have z_0 : (0 : Int32).toInt = 0 := by decide
  have z_1 : (1 : Int32).toInt = 1 := by decide
  have z_40 : (40 : Int32).toInt = 40 := by decide
  refine lv_iconst (v := 0) hx hb dX0_longestOf_0 (by decide) ?_
  refine lv_istore_n (lv' := [(3, .int 0), (0, .ref fh), (1, .long ala)]) hx hb dX0_longestOf_1 rfl hl (by decide) rfl (fun ls1 hl1 => ?_)
  replace hl := hl1; clear hl1
  refine lv_iconst (v := 0) hx hb dX0_longestOf_2 (by decide) ?_
  refine lv_istore (lv' := [(4, .int 0), (3, .int 0), (0, .ref fh), (1, .long ala)]) hx hb dX0_longestOf_3 hl (by decide) rfl (fun ls1 hl1 => ?_)
  replace hl := hl1; clear hl1
  refine my_wloop (S := Int32 × Int32) (fun u => (0 ≤ (u.1).toInt ∧ (u.1).toInt ≤ 40) ∧ (0 ≤ (u.2).toInt ∧ (u.2).toInt ≤ 12) ∧ (∀ j : Nat, (j : Int) < (u.1).toInt → sbit ala j → (fc_longest j).toInt ≤ (u.2).toInt)) (fun u => (40 - (u.1).toInt).toNat) (fun u => [(fh, .inr (0, [.int f_isReached, f_least, f_greatest, f_sites, f_maybeNull, f_known, f_lanes, f_shortest, .ref fa_longest, f_leastAt, f_greatestAt])), (fa_longest, .inl (cI, 40, .inl fc_longest))]) (fun u => [(4, .int (u.1)), (3, .int (u.2)), (0, .ref fh), (1, .long ala)]) (H0 := s.heap) (A := A) (D := (dC, dI)) (cl := vwCl) ((0 : Int32), (0 : Int32)) (show (0 ≤ (0 : Int32).toInt ∧ (0 : Int32).toInt ≤ 40) ∧ (0 ≤ (0 : Int32).toInt ∧ (0 : Int32).toInt ≤ 12) ∧ (∀ j : Nat, (j : Int) < (0 : Int32).toInt → sbit ala j → (fc_longest j).toInt ≤ (0 : Int32).toInt) from ⟨⟨by omega, by omega⟩, ⟨by omega, by omega⟩, (fun j hj => by omega)⟩) (by exact hP) (by exact hD) hS (by exact hl) (fun u_1 hu_1 ih_1 H_1 locs_1 ls1 hP1 hD1 hS1 hl1 => ?_)
  obtain ⟨v_2, v_3⟩ := u_1
  replace hu_1 : (0 ≤ v_2.toInt ∧ v_2.toInt ≤ 40) ∧ (0 ≤ v_3.toInt ∧ v_3.toInt ≤ 12) ∧ (∀ j : Nat, (j : Int) < v_2.toInt → sbit ala j → (fc_longest j).toInt ≤ v_3.toInt) := hu_1
  obtain ⟨q_v_2, q_v_3, x_1_0⟩ := hu_1
  replace hP : va_P (dC, dI) vwCl [(fh, .inr (0, [.int f_isReached, f_least, f_greatest, f_sites, f_maybeNull, f_known, f_lanes, f_shortest, .ref fa_longest, f_leastAt, f_greatestAt])), (fa_longest, .inl (cI, 40, .inl fc_longest))] H_1 := hP1
  replace hD : va_D A [(fh, .inr (0, [.int f_isReached, f_least, f_greatest, f_sites, f_maybeNull, f_known, f_lanes, f_shortest, .ref fa_longest, f_leastAt, f_greatestAt])), (fa_longest, .inl (cI, 40, .inl fc_longest))] := hD1
  replace hS := hS1
  clear hP1 hD1 hS1
  replace hl : lv_has ls1 5 [(4, .int v_2), (3, .int v_3), (0, .ref fh), (1, .long ala)] := hl1
  clear hl1
  refine lv_iload hx hb dX0_longestOf_5 (lv_at hl 0 rfl) ?_
  refine lv_bipush (v := 40) hx hb dX0_longestOf_7 (by decide) ?_
  refine lv_icmp_ge (tgt := 39) hx hb dX0_longestOf_9 (by decide) (fun c_4 => ?_) (fun c_4 => ?_)
  · -- yes
    have k_4 : (40 : Int32).toInt ≤ v_2.toInt := ci_ge c_4
    refine lv_iload_n hx hb dX0_longestOf_39 rfl (lv_at hl 1 rfl) ?_
    have hP9 := hP.sub (ws' := [(fh, .inr (0, [.int f_isReached, f_least, f_greatest, f_sites, f_maybeNull, f_known, f_lanes, f_shortest, .ref fa_longest, f_leastAt, f_greatestAt])), (fa_longest, .inl (cI, 40, .inl fc_longest))]) [0, 1] rfl
    have hD9 := hD.sub (ws' := [(fh, .inr (0, [.int f_isReached, f_least, f_greatest, f_sites, f_maybeNull, f_known, f_lanes, f_shortest, .ref fa_longest, f_leastAt, f_greatestAt])), (fa_longest, .inl (cI, 40, .inl fc_longest))]) [0, 1] (by decide) rfl
    exact W.iret (v := v_3) hx hb hr (fun t ht hW => ⟨⟨v_3, (), rfl, (show (0 ≤ v_3.toInt ∧ v_3.toInt ≤ 12) ∧ (∀ j : Nat, j < 40 → sbit ala j → (fc_longest j).toInt ≤ v_3.toInt) from ⟨by omega, fun j hj => x_1_0 j (by omega)⟩), by rw [ht]; exact hP9, va_K.moved hW.alike hK, hD9⟩, hS.F ht⟩) hS.2.2 dX0_longestOf_40
  · -- no
    have k_4 : v_2.toInt < (40 : Int32).toInt := ci_nge c_4
    refine lv_lload_n hx hb dX0_longestOf_12 rfl (lv_at hl 3 rfl) ?_
    refine lv_iload hx hb dX0_longestOf_13 (lv_at hl 0 rfl) ?_
    refine vp_callSi (va_runSN (As := [.long ala, .int v_2]) (rest := []) ⟨hx, hb, hml, hown, hts⟩ (s_X4_isIn l ala v_2 (by first | assumption | omega)) (⟨va_cnB 2 hts h_X0_longestOf_X4_isIn_102 rfl rfl rfl (hN.2.2.2.2.2.2.2.2.1) (hts (.initialized RX4) (List.mem_of_getElem? (i := 1) rfl)) (by decide +kernel) ⟨Nat.le_of_ble_eq_true rfl, Nat.le_of_ble_eq_true rfl⟩, hts (.static yX4_isIn) (List.mem_of_getElem? (i := 2) rfl), trivial⟩) ⟨fun _ _ _ _ q => q, fun _ _ _ => ⟨rfl, trivial⟩⟩ rfl rfl hl.1 rfl (lv_room (Nat.le_of_ble_eq_true rfl)) dX0_longestOf_15 ⟨Nat.le_of_ble_eq_true rfl, Nat.le_of_ble_eq_true rfl⟩).run (fun r_5 hw_5 => ?_)
    replace hw_5 : (two r_5 (sbit ala (v_2).toNatClampNeg) 1 0) := hw_5
    have q_r_5 := hw_5
    refine lv_if_eq (tgt := 33) hx hb dX0_longestOf_18 (by decide) (fun c_6 => ?_) (fun c_6 => ?_)
    · -- yes
      have k_6 : r_5.toInt = (0 : Int32).toInt := ci_eq c_6
      have kt_6 : ¬ (sbit ala (v_2).toNatClampNeg) := two_z q_r_5 c_6
      refine sf_iinc hx hb dX0_longestOf_33 hl (k := 0) (x := v_2) (w := 1) rfl (by decide) (by decide) ⟨by omega, by omega⟩ (fun v_7 q_v_7 ls1 hl1 => ?_)
      replace hl : lv_has ls1 5 [(4, .int v_7), (3, .int v_3), (0, .ref fh), (1, .long ala)] := hl1
      clear hl1
      refine lv_goto (tgt := 5) hx hb dX0_longestOf_36 (by decide) ?_
      exact ih_1 (v_7, v_3) (show (0 ≤ v_7.toInt ∧ v_7.toInt ≤ 40) ∧ (0 ≤ v_3.toInt ∧ v_3.toInt ≤ 12) ∧ (∀ j : Nat, (j : Int) < v_7.toInt → sbit ala j → (fc_longest j).toInt ≤ v_3.toInt) from ⟨⟨by omega, by omega⟩, ⟨by omega, by omega⟩, (fun j hj hs => by have b7 := nn_cl2 v_2; by_cases hq : j = v_2.toNatClampNeg; (· subst hq; exact absurd hs kt_6); (· have b8 := x_1_0 j (by omega) hs; omega))⟩) (by show (40 - v_7.toInt).toNat < (40 - v_2.toInt).toNat; omega) _ _ _ (hP.sub [0, 1] rfl) (hD.sub [0, 1] (by decide) rfl) hS (lv_sub hl [0, 1, 2, 3] rfl)
    · -- no
      have k_6 : ¬ r_5.toInt = (0 : Int32).toInt := ci_ne c_6
      have kt_6 : sbit ala (v_2).toNatClampNeg := two_nz q_r_5 c_6
      refine lv_iload_n hx hb dX0_longestOf_21 rfl (lv_at hl 1 rfl) ?_
      refine lv_aload_n hx hb dX0_longestOf_22 rfl (lv_at hl 2 rfl) ?_
      refine va_get (D := (dC, dI)) (ci := 0) (v := .ref fa_longest) (C := RX0) (T := TX0) (N := 11) hx hb hts inv_X0_longestOf_X0 hown hK hP 0 rfl rfl 8 (by decide) (hts (.fieldLink RX0 39 "ArraySegments$Facts" "longest" "[I") (List.mem_of_getElem? (i := 3) rfl)) (fun _ h9 => h9) rfl dX0_longestOf_23 ?_
      refine lv_iload hx hb dX0_longestOf_26 (lv_at hl 0 rfl) ?_
      refine sf_iald kLE12 hx hb hK hP 1 0 rfl rfl h_fc_longest (vp_in_iff.mpr ⟨by omega, by omega⟩) dX0_longestOf_28 (fun v_8 q_v_8 e_v_8 => ?_)
      have et_v_8 : v_8.toInt = (fc_longest (v_2).toNatClampNeg).toInt := by rw [e_v_8]
      have ni_9 := nn_cl (z := v_2) (by omega)
      have ir_v_8 := i32r v_8
      have ir_11 := i32r v_8
      refine sf_mmax hx hb (by rw [hml]; exact hl.1.symm) hown (hts (.methodLink RX0 68 Lib.Math.max.name) (List.mem_of_getElem? (i := 4) rfl)) (hts (.static Lib.Math.max.name) (List.mem_of_getElem? (i := 5) rfl)) (hts (.initialized "java/lang/Math") (List.mem_of_getElem? (i := 6) rfl)) (hts (.code Lib.Math.max.name Lib.Math.max.code 2 (some .int)) (List.mem_of_getElem? (i := 7) rfl)) (Nat.le_of_ble_eq_true rfl) (Nat.le_of_ble_eq_true rfl) (Nat.le_of_ble_eq_true rfl) (Nat.le_of_ble_eq_true rfl) dX0_longestOf_29 (fun v_10 q_v_10 => ?_)
      have qi_v_10 : 0 ≤ v_10.toInt ∧ v_10.toInt ≤ 12 := by omega
      refine lv_istore_n (lv' := [(3, .int v_10), (4, .int v_2), (0, .ref fh), (1, .long ala)]) hx hb dX0_longestOf_32 rfl hl (by decide) rfl (fun ls1 hl1 => ?_)
      replace hl := hl1; clear hl1
      refine sf_iinc hx hb dX0_longestOf_33 hl (k := 1) (x := v_2) (w := 1) rfl (by decide) (by decide) ⟨by omega, by omega⟩ (fun v_12 q_v_12 ls1 hl1 => ?_)
      replace hl : lv_has ls1 5 [(4, .int v_12), (3, .int v_10), (0, .ref fh), (1, .long ala)] := hl1
      clear hl1
      refine lv_goto (tgt := 5) hx hb dX0_longestOf_36 (by decide) ?_
      exact ih_1 (v_12, v_10) (show (0 ≤ v_12.toInt ∧ v_12.toInt ≤ 40) ∧ (0 ≤ v_10.toInt ∧ v_10.toInt ≤ 12) ∧ (∀ j : Nat, (j : Int) < v_12.toInt → sbit ala j → (fc_longest j).toInt ≤ v_10.toInt) from ⟨⟨by omega, by omega⟩, ⟨by omega, by omega⟩, (fun j hj hs => by have b7 := nn_cl2 v_2; by_cases hq : j = v_2.toNatClampNeg; (· subst hq; omega); (· have b8 := x_1_0 j (by omega) hs; omega))⟩) (by show (40 - v_12.toInt).toNat < (40 - v_2.toInt).toNat; omega) _ _ _ (hP.sub [0, 1] rfl) (hD.sub [0, 1] (by decide) rfl) hS (lv_sub hl [0, 1, 2, 3] rfl)
