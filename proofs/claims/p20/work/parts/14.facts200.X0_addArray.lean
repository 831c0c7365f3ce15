def v_X0_addArray : List Cond := .code yX0_addArray cX0_addArray 8 none :: ([.fieldLink RX0 30 "ArraySegments$Facts" "known" "[Z", .fieldLink RX0 33 "ArraySegments$Facts" "lanes" "[I", .fieldLink RX0 36 "ArraySegments$Facts" "shortest" "[I", .fieldLink RX0 39 "ArraySegments$Facts" "longest" "[I", .fieldLink RX0 42 "ArraySegments$Facts" "leastAt" "[I", .fieldLink RX0 45 "ArraySegments$Facts" "greatestAt" "[I", .methodLink RX0 62 Lib.Math.min.name, .static Lib.Math.min.name, .initialized "java/lang/Math", .code Lib.Math.min.name Lib.Math.min.code 2 (some .int), .methodLink RX0 68 Lib.Math.max.name, .static Lib.Math.max.name, .code Lib.Math.max.name Lib.Math.max.code 2 (some .int)] ++ (wsX00))
theorem inv_X0_addArray_X0 : ∀ w ∈ wsX00, w ∈ v_X0_addArray := fun _ h => List.mem_cons_of_mem _ (List.mem_append_right _ (h))
set_option maxRecDepth 20000 in
theorem gd_X0_addArray : gdL v_X0_addArray := gdC (gdW (by decide +kernel)) (gdA (gdW (by decide +kernel)) gd_wsX00)
abbrev sw_X0_addArray (cI cJ cZ : ClassId) (fh : Nat) (f_isReached : Int32) (f_least : Value) (f_greatest : Value) (f_sites : Value) (f_maybeNull : Value) (fa_known : Nat) (fa_lanes : Nat) (fa_shortest : Nat) (fa_longest : Nat) (fa_leastAt : Nat) (fa_greatestAt : Nat) (fc_known : Nat → Int32) (fc_lanes : Nat → Int32) (fc_shortest : Nat → Int32) (fc_longest : Nat → Int32) (fc_leastAt : Nat → Int32) (fc_greatestAt : Nat → Int32) (ia : Int32) (ja : Int32) : va_W := [(fh, .inr (0, [.int f_isReached, f_least, f_greatest, f_sites, f_maybeNull, .ref fa_known, .ref fa_lanes, .ref fa_shortest, .ref fa_longest, .ref fa_leastAt, .ref fa_greatestAt])), (fa_known, .inl (cZ, 40, .inl fc_known)), (fa_lanes, .inl (cI, 40, .inl fc_lanes)), (fa_shortest, .inl (cI, 40, .inl fc_shortest)), (fa_longest, .inl (cI, 40, .inl fc_longest)), (fa_leastAt, .inl (cI, 480, .inl fc_leastAt)), (fa_greatestAt, .inl (cI, 480, .inl fc_greatestAt))]
set_option maxHeartbeats 8000000 in
set_option maxRecDepth 100000 in
theorem s_X0_addArray (l : Launch) (dC : Nat → ClassId) (dI : Nat → Nat → Nat) (cI cJ cZ : ClassId) (fh : Nat) (f_isReached : Int32) (f_least : Value) (f_greatest : Value) (f_sites : Value) (f_maybeNull : Value) (fa_known : Nat) (fa_lanes : Nat) (fa_shortest : Nat) (fa_longest : Nat) (fa_leastAt : Nat) (fa_greatestAt : Nat) (fc_known : Nat → Int32) (fc_lanes : Nat → Int32) (fc_shortest : Nat → Int32) (fc_longest : Nat → Int32) (fc_leastAt : Nat → Int32) (fc_greatestAt : Nat → Int32) (ia : Int32) (ja : Int32) (sz : Nat) (q_f_isReached : kZ f_isReached) (h_fc_known : ∀ j : Nat, kZ (fc_known j)) (h_fc_lanes : ∀ j : Nat, kL7 (fc_lanes j)) (h_fc_longest : ∀ j : Nat, kLE12 (fc_longest j)) (hy_ia : 0 ≤ ia.toInt ∧ ia.toInt ≤ 39) (hy_ja : 0 ≤ ja.toInt ∧ ja.toInt ≤ 39) : Met l yX0_addArray v_X0_addArray ({ frames := 1, cells := 0, slots := 0, locals := 19 }) (va_Pc [.ref fh, .int ia, .ref fh, .int ja] (cPre dC dI cI cJ cZ sz (sw_X0_addArray cI cJ cZ fh f_isReached f_least f_greatest f_sites f_maybeNull fa_known fa_lanes fa_shortest fa_longest fa_leastAt fa_greatestAt fc_known fc_lanes fc_shortest fc_longest fc_leastAt fc_greatestAt ia ja))) (va_Qv (fun (u : (Nat → Int32) × (Nat → Int32) × (Nat → Int32) × (Nat → Int32) × (Nat → Int32) × (Nat → Int32)) => (∀ j : Nat, kZ ((u.1) j)) ∧ (∀ j : Nat, kL7 ((u.2.1) j)) ∧ (∀ j : Nat, kLE12 ((u.2.2.2.1) j)) ∧ (aS fc_lanes (fun j => (fc_shortest j).toInt) (fun j => (fc_longest j).toInt) (fun j => (fc_leastAt j).toInt) (fun j => (fc_greatestAt j).toInt) (ja).toNatClampNeg (u.1) (u.2.1) (fun j => ((u.2.2.1) j).toInt) (fun j => ((u.2.2.2.1) j).toInt) (fun j => ((u.2.2.2.2.1) j).toInt) (fun j => ((u.2.2.2.2.2) j).toInt) (ia).toNatClampNeg) ∧ (¬ (fc_known (ia).toNatClampNeg).toInt = 0 → aS fc_lanes (fun j => (fc_shortest j).toInt) (fun j => (fc_longest j).toInt) (fun j => (fc_leastAt j).toInt) (fun j => (fc_greatestAt j).toInt) (ia).toNatClampNeg (u.1) (u.2.1) (fun j => ((u.2.2.1) j).toInt) (fun j => ((u.2.2.2.1) j).toInt) (fun j => ((u.2.2.2.2.1) j).toInt) (fun j => ((u.2.2.2.2.2) j).toInt) (ia).toNatClampNeg) ∧ (∀ j : Nat, ¬ j = (ia).toNatClampNeg → eqS fc_known fc_lanes (fun j => (fc_shortest j).toInt) (fun j => (fc_longest j).toInt) (fun j => (fc_leastAt j).toInt) (fun j => (fc_greatestAt j).toInt) (u.1) (u.2.1) (fun j => ((u.2.2.1) j).toInt) (fun j => ((u.2.2.2.1) j).toInt) (fun j => ((u.2.2.2.2.1) j).toInt) (fun j => ((u.2.2.2.2.2) j).toInt) j)) (fun (u : (Nat → Int32) × (Nat → Int32) × (Nat → Int32) × (Nat → Int32) × (Nat → Int32) × (Nat → Int32)) => cPost dC dI cI cJ cZ (va_A (sw_X0_addArray cI cJ cZ fh f_isReached f_least f_greatest f_sites f_maybeNull fa_known fa_lanes fa_shortest fa_longest fa_leastAt fa_greatestAt fc_known fc_lanes fc_shortest fc_longest fc_leastAt fc_greatestAt ia ja) sz) [(fh, .inr (0, [.int f_isReached, f_least, f_greatest, f_sites, f_maybeNull, .ref fa_known, .ref fa_lanes, .ref fa_shortest, .ref fa_longest, .ref fa_leastAt, .ref fa_greatestAt])), (fa_known, .inl (cZ, 40, .inl (u.1))), (fa_lanes, .inl (cI, 40, .inl (u.2.1))), (fa_shortest, .inl (cI, 40, .inl (u.2.2.1))), (fa_longest, .inl (cI, 40, .inl (u.2.2.2.1))), (fa_leastAt, .inl (cI, 480, .inl (u.2.2.2.2.1))), (fa_greatestAt, .inl (cI, 480, .inl (u.2.2.2.2.2)))]) (va_A (sw_X0_addArray cI cJ cZ fh f_isReached f_least f_greatest f_sites f_maybeNull fa_known fa_lanes fa_shortest fa_longest fa_leastAt fa_greatestAt fc_known fc_lanes fc_shortest fc_longest fc_leastAt fc_greatestAt ia ja) sz)) 0 0 (va_A (sw_X0_addArray cI cJ cZ fh f_isReached f_least f_greatest f_sites f_maybeNull fa_known fa_lanes fa_shortest fa_longest fa_leastAt fa_greatestAt fc_known fc_lanes fc_shortest fc_longest fc_leastAt fc_greatestAt ia ja) sz) := by
  refine Met.ofW (cc := cX0_addArray) (maxL := 8) (ret := none) (by decide) rfl ?_
  intro p e s m args below meth c s₁ B hml hv
  obtain ⟨rfl, hsz, hP, hK, hD0, hN⟩ := hv
  have hx := B.exec
  have hb := B.bytes
  have hr := B.returns
  have hts := atoms_spec (ws := v_X0_addArray) B.pre
  have hown : s.vm.findClass RX0 = some m.cls := findClass_of_methodNamed B.named
  have hlocks := B.notSynchronized
  subst hsz
  have hD := hD0.self (sz := s.heap.size)
  generalize hAe : va_A (sw_X0_addArray cI cJ cZ fh f_isReached f_least f_greatest f_sites f_maybeNull fa_known fa_lanes fa_shortest fa_longest fa_leastAt fa_greatestAt fc_known fc_lanes fc_shortest fc_longest fc_leastAt fc_greatestAt ia ja) s.heap.size = A at hD ⊢
  have hA : ∀ q : Nat, s.heap.size ≤ q → A q := fun q h => by rw [← hAe]; exact Or.inr h
  clear hAe hD0
  have hS : va_S A s.heap s.heap [] := va_S.rf
  replace hP : va_P (dC, dI) vwCl [(fh, .inr (0, [.int f_isReached, f_least, f_greatest, f_sites, f_maybeNull, .ref fa_known, .ref fa_lanes, .ref fa_shortest, .ref fa_longest, .ref fa_leastAt, .ref fa_greatestAt])), (fa_known, .inl (cZ, 40, .inl fc_known)), (fa_lanes, .inl (cI, 40, .inl fc_lanes)), (fa_shortest, .inl (cI, 40, .inl fc_shortest)), (fa_longest, .inl (cI, 40, .inl fc_longest)), (fa_leastAt, .inl (cI, 480, .inl fc_leastAt)), (fa_greatestAt, .inl (cI, 480, .inl fc_greatestAt))] s.heap := hP
  replace hD : va_D A [(fh, .inr (0, [.int f_isReached, f_least, f_greatest, f_sites, f_maybeNull, .ref fa_known, .ref fa_lanes, .ref fa_shortest, .ref fa_longest, .ref fa_leastAt, .ref fa_greatestAt])), (fa_known, .inl (cZ, 40, .inl fc_known)), (fa_lanes, .inl (cI, 40, .inl fc_lanes)), (fa_shortest, .inl (cI, 40, .inl fc_shortest)), (fa_longest, .inl (cI, 40, .inl fc_longest)), (fa_leastAt, .inl (cI, 480, .inl fc_leastAt)), (fa_greatestAt, .inl (cI, 480, .inl fc_greatestAt))] := hD
  have hl := lv_entry ([.ref fh, .int ia, .ref fh, .int ja]) (n := 8) (Nat.le_of_ble_eq_true rfl)
  rw [lg_entry_eq]
  generalize (lg_sl ([.ref fh, .int ia, .ref fh, .int ja]) ++ List.replicate (8 - (lg_sl ([.ref fh, .int ia, .ref fh, .int ja])).length) Slot.unset).toArray = ls at hl ⊢
  replace hl : lv_has ls 8 [(0, .ref fh), (1, .int ia), (2, .ref fh), (3, .int ja)] := hl
  have z_0 : (0 : Int32).toInt = 0 := by decide
  have z_1 : (1 : Int32).toInt = 1 := by decide
  have z_12 : (12 : Int32).toInt = 12 := by decide
  have nc_ia := nn_cl2 ia
  have nc_ja := nn_cl2 ja
  refine lv_aload_n hx hb dX0_addArray_0 rfl (lv_at hl 0 rfl) ?_
  refine va_get (D := (dC, dI)) (ci := 0) (v := .ref fa_known) (C := RX0) (T := TX0) (N := 11) hx hb hts inv_X0_addArray_X0 hown hK hP 0 rfl rfl 5 (by decide) (hts (.fieldLink RX0 30 "ArraySegments$Facts" "known" "[Z") (List.mem_of_getElem? (i := 1) rfl)) (fun _ h9 => h9) rfl dX0_addArray_1 ?_
  refine lv_iload_n hx hb dX0_addArray_4 rfl (lv_at hl 1 rfl) ?_
  refine sf_zald kZ hx hb hK hP 1 2 rfl rfl h_fc_known (vp_in_iff.mpr ⟨by omega, by omega⟩) dX0_addArray_5 (fun v_1 q_v_1 e_v_1 => ?_)
  have et_v_1 : v_1.toInt = (fc_known (ia).toNatClampNeg).toInt := by rw [e_v_1]
  have ni_2 := nn_cl (z := ia) (by omega)
  have qi_v_1 := kz_to q_v_1
  refine lv_istore (lv' := [(4, .int v_1), (0, .ref fh), (1, .int ia), (2, .ref fh), (3, .int ja)]) hx hb dX0_addArray_6 hl (by decide) rfl (fun ls1 hl1 => ?_)
  replace hl := hl1; clear hl1
  refine lv_aload_n hx hb dX0_addArray_8 rfl (lv_at hl 1 rfl) ?_
  refine va_get (D := (dC, dI)) (ci := 0) (v := .ref fa_known) (C := RX0) (T := TX0) (N := 11) hx hb hts inv_X0_addArray_X0 hown hK hP 0 rfl rfl 5 (by decide) (hts (.fieldLink RX0 30 "ArraySegments$Facts" "known" "[Z") (List.mem_of_getElem? (i := 1) rfl)) (fun _ h9 => h9) rfl dX0_addArray_9 ?_
  refine lv_iload_n hx hb dX0_addArray_12 rfl (lv_at hl 2 rfl) ?_
  refine lv_iconst (v := 1) hx hb dX0_addArray_13 (by decide) ?_
  have ni_5 := nn_cl (z := ia) (by omega)
  refine sf_zastU hx hb hK hP hD hS 1 2 rfl rfl h_fc_known (by decide) (vp_in_iff.mpr ⟨by omega, by omega⟩) dX0_addArray_14 (fun f_3 h_f_3 u_f_3 H_4 locs_4 hP1 hD1 hS1 => ?_)
  replace hP : va_P (dC, dI) vwCl [(fh, .inr (0, [.int f_isReached, f_least, f_greatest, f_sites, f_maybeNull, .ref fa_known, .ref fa_lanes, .ref fa_shortest, .ref fa_longest, .ref fa_leastAt, .ref fa_greatestAt])), (fa_known, .inl (cZ, 40, .inl f_3)), (fa_lanes, .inl (cI, 40, .inl fc_lanes)), (fa_shortest, .inl (cI, 40, .inl fc_shortest)), (fa_longest, .inl (cI, 40, .inl fc_longest)), (fa_leastAt, .inl (cI, 480, .inl fc_leastAt)), (fa_greatestAt, .inl (cI, 480, .inl fc_greatestAt))] H_4 := hP1
  replace hD : va_D A [(fh, .inr (0, [.int f_isReached, f_least, f_greatest, f_sites, f_maybeNull, .ref fa_known, .ref fa_lanes, .ref fa_shortest, .ref fa_longest, .ref fa_leastAt, .ref fa_greatestAt])), (fa_known, .inl (cZ, 40, .inl f_3)), (fa_lanes, .inl (cI, 40, .inl fc_lanes)), (fa_shortest, .inl (cI, 40, .inl fc_shortest)), (fa_longest, .inl (cI, 40, .inl fc_longest)), (fa_leastAt, .inl (cI, 480, .inl fc_leastAt)), (fa_greatestAt, .inl (cI, 480, .inl fc_greatestAt))] := hD1
  replace hS := hS1
  clear hP1 hD1 hS1
  refine lv_aload_n hx hb dX0_addArray_15 rfl (lv_at hl 1 rfl) ?_
  refine va_get (D := (dC, dI)) (ci := 0) (v := .ref fa_lanes) (C := RX0) (T := TX0) (N := 11) hx hb hts inv_X0_addArray_X0 hown hK hP 0 rfl rfl 6 (by decide) (hts (.fieldLink RX0 33 "ArraySegments$Facts" "lanes" "[I") (List.mem_of_getElem? (i := 2) rfl)) (fun _ h9 => h9) rfl dX0_addArray_16 ?_
  refine lv_iload_n hx hb dX0_addArray_19 rfl (lv_at hl 2 rfl) ?_
  refine lv_iload hx hb dX0_addArray_20 (lv_at hl 0 rfl) ?_
  refine lv_if_eq (tgt := 41) hx hb dX0_addArray_22 (by decide) (fun c_6 => ?_) (fun c_6 => ?_)
  · -- yes
    have k_6 : v_1.toInt = (0 : Int32).toInt := ci_eq c_6
    refine lv_aload_n hx hb dX0_addArray_41 rfl (lv_at hl 3 rfl) ?_
    refine va_get (D := (dC, dI)) (ci := 0) (v := .ref fa_lanes) (C := RX0) (T := TX0) (N := 11) hx hb hts inv_X0_addArray_X0 hown hK hP 0 rfl rfl 6 (by decide) (hts (.fieldLink RX0 33 "ArraySegments$Facts" "lanes" "[I") (List.mem_of_getElem? (i := 2) rfl)) (fun _ h9 => h9) rfl dX0_addArray_42 ?_
    refine lv_iload_n hx hb dX0_addArray_45 rfl (lv_at hl 4 rfl) ?_
    refine sf_iald kL7 hx hb hK hP 2 0 rfl rfl h_fc_lanes (vp_in_iff.mpr ⟨by omega, by omega⟩) dX0_addArray_46 (fun v_7 q_v_7 e_v_7 => ?_)
    have et_v_7 : v_7.toInt = (fc_lanes (ja).toNatClampNeg).toInt := by rw [e_v_7]
    have ni_8 := nn_cl (z := ja) (by omega)
    have ni_11 := nn_cl (z := ia) (by omega)
    refine sf_iastU kL7 hx hb hK hP hD hS 2 0 rfl rfl h_fc_lanes (show kL7 v_7 from by omega) (vp_in_iff.mpr ⟨by omega, by omega⟩) dX0_addArray_47 (fun f_9 h_f_9 u_f_9 H_10 locs_10 hP1 hD1 hS1 => ?_)
    replace hP : va_P (dC, dI) vwCl [(fh, .inr (0, [.int f_isReached, f_least, f_greatest, f_sites, f_maybeNull, .ref fa_known, .ref fa_lanes, .ref fa_shortest, .ref fa_longest, .ref fa_leastAt, .ref fa_greatestAt])), (fa_known, .inl (cZ, 40, .inl f_3)), (fa_lanes, .inl (cI, 40, .inl f_9)), (fa_shortest, .inl (cI, 40, .inl fc_shortest)), (fa_longest, .inl (cI, 40, .inl fc_longest)), (fa_leastAt, .inl (cI, 480, .inl fc_leastAt)), (fa_greatestAt, .inl (cI, 480, .inl fc_greatestAt))] H_10 := hP1
    replace hD : va_D A [(fh, .inr (0, [.int f_isReached, f_least, f_greatest, f_sites, f_maybeNull, .ref fa_known, .ref fa_lanes, .ref fa_shortest, .ref fa_longest, .ref fa_leastAt, .ref fa_greatestAt])), (fa_known, .inl (cZ, 40, .inl f_3)), (fa_lanes, .inl (cI, 40, .inl f_9)), (fa_shortest, .inl (cI, 40, .inl fc_shortest)), (fa_longest, .inl (cI, 40, .inl fc_longest)), (fa_leastAt, .inl (cI, 480, .inl fc_leastAt)), (fa_greatestAt, .inl (cI, 480, .inl fc_greatestAt))] := hD1
    replace hS := hS1
    clear hP1 hD1 hS1
    refine lv_aload_n hx hb dX0_addArray_48 rfl (lv_at hl 1 rfl) ?_
    refine va_get (D := (dC, dI)) (ci := 0) (v := .ref fa_shortest) (C := RX0) (T := TX0) (N := 11) hx hb hts inv_X0_addArray_X0 hown hK hP 0 rfl rfl 7 (by decide) (hts (.fieldLink RX0 36 "ArraySegments$Facts" "shortest" "[I") (List.mem_of_getElem? (i := 3) rfl)) (fun _ h9 => h9) rfl dX0_addArray_49 ?_
    refine lv_iload_n hx hb dX0_addArray_52 rfl (lv_at hl 2 rfl) ?_
    refine lv_iload hx hb dX0_addArray_53 (lv_at hl 0 rfl) ?_
    refine lv_if_eq (tgt := 76) hx hb dX0_addArray_55 (by decide) (fun c_12 => ?_) (fun c_12 => ?_)
    · -- yes
      have k_12 : v_1.toInt = (0 : Int32).toInt := ci_eq c_12
      refine lv_aload_n hx hb dX0_addArray_76 rfl (lv_at hl 3 rfl) ?_
      refine va_get (D := (dC, dI)) (ci := 0) (v := .ref fa_shortest) (C := RX0) (T := TX0) (N := 11) hx hb hts inv_X0_addArray_X0 hown hK hP 0 rfl rfl 7 (by decide) (hts (.fieldLink RX0 36 "ArraySegments$Facts" "shortest" "[I") (List.mem_of_getElem? (i := 3) rfl)) (fun _ h9 => h9) rfl dX0_addArray_77 ?_
      refine lv_iload_n hx hb dX0_addArray_80 rfl (lv_at hl 4 rfl) ?_
      refine sf_iald kT hx hb hK hP 3 0 rfl rfl (fun _ => trivial) (vp_in_iff.mpr ⟨by omega, by omega⟩) dX0_addArray_81 (fun v_13 q_v_13 e_v_13 => ?_)
      have et_v_13 : v_13.toInt = (fc_shortest (ja).toNatClampNeg).toInt := by rw [e_v_13]
      have ni_14 := nn_cl (z := ja) (by omega)
      have ir_v_13 := i32r v_13
      have ni_17 := nn_cl (z := ia) (by omega)
      refine sf_iastU kT hx hb hK hP hD hS 3 0 rfl rfl (fun _ => trivial) trivial (vp_in_iff.mpr ⟨by omega, by omega⟩) dX0_addArray_82 (fun f_15 h_f_15 u_f_15 H_16 locs_16 hP1 hD1 hS1 => ?_)
      replace hP : va_P (dC, dI) vwCl [(fh, .inr (0, [.int f_isReached, f_least, f_greatest, f_sites, f_maybeNull, .ref fa_known, .ref fa_lanes, .ref fa_shortest, .ref fa_longest, .ref fa_leastAt, .ref fa_greatestAt])), (fa_known, .inl (cZ, 40, .inl f_3)), (fa_lanes, .inl (cI, 40, .inl f_9)), (fa_shortest, .inl (cI, 40, .inl f_15)), (fa_longest, .inl (cI, 40, .inl fc_longest)), (fa_leastAt, .inl (cI, 480, .inl fc_leastAt)), (fa_greatestAt, .inl (cI, 480, .inl fc_greatestAt))] H_16 := hP1
      replace hD : va_D A [(fh, .inr (0, [.int f_isReached, f_least, f_greatest, f_sites, f_maybeNull, .ref fa_known, .ref fa_lanes, .ref fa_shortest, .ref fa_longest, .ref fa_leastAt, .ref fa_greatestAt])), (fa_known, .inl (cZ, 40, .inl f_3)), (fa_lanes, .inl (cI, 40, .inl f_9)), (fa_shortest, .inl (cI, 40, .inl f_15)), (fa_longest, .inl (cI, 40, .inl fc_longest)), (fa_leastAt, .inl (cI, 480, .inl fc_leastAt)), (fa_greatestAt, .inl (cI, 480, .inl fc_greatestAt))] := hD1
      replace hS := hS1
      clear hP1 hD1 hS1
      refine lv_aload_n hx hb dX0_addArray_83 rfl (lv_at hl 1 rfl) ?_
      refine va_get (D := (dC, dI)) (ci := 0) (v := .ref fa_longest) (C := RX0) (T := TX0) (N := 11) hx hb hts inv_X0_addArray_X0 hown hK hP 0 rfl rfl 8 (by decide) (hts (.fieldLink RX0 39 "ArraySegments$Facts" "longest" "[I") (List.mem_of_getElem? (i := 4) rfl)) (fun _ h9 => h9) rfl dX0_addArray_84 ?_
      refine lv_iload_n hx hb dX0_addArray_87 rfl (lv_at hl 2 rfl) ?_
      refine lv_iload hx hb dX0_addArray_88 (lv_at hl 0 rfl) ?_
      refine lv_if_eq (tgt := 111) hx hb dX0_addArray_90 (by decide) (fun c_18 => ?_) (fun c_18 => ?_)
      · -- yes
        have k_18 : v_1.toInt = (0 : Int32).toInt := ci_eq c_18
        refine lv_aload_n hx hb dX0_addArray_111 rfl (lv_at hl 3 rfl) ?_
        refine va_get (D := (dC, dI)) (ci := 0) (v := .ref fa_longest) (C := RX0) (T := TX0) (N := 11) hx hb hts inv_X0_addArray_X0 hown hK hP 0 rfl rfl 8 (by decide) (hts (.fieldLink RX0 39 "ArraySegments$Facts" "longest" "[I") (List.mem_of_getElem? (i := 4) rfl)) (fun _ h9 => h9) rfl dX0_addArray_112 ?_
        refine lv_iload_n hx hb dX0_addArray_115 rfl (lv_at hl 4 rfl) ?_
        refine sf_iald kLE12 hx hb hK hP 4 0 rfl rfl h_fc_longest (vp_in_iff.mpr ⟨by omega, by omega⟩) dX0_addArray_116 (fun v_19 q_v_19 e_v_19 => ?_)
        have et_v_19 : v_19.toInt = (fc_longest (ja).toNatClampNeg).toInt := by rw [e_v_19]
        have ni_20 := nn_cl (z := ja) (by omega)
        have ir_v_19 := i32r v_19
        have ni_23 := nn_cl (z := ia) (by omega)
        refine sf_iastU kLE12 hx hb hK hP hD hS 4 0 rfl rfl h_fc_longest (show kLE12 v_19 from by omega) (vp_in_iff.mpr ⟨by omega, by omega⟩) dX0_addArray_117 (fun f_21 h_f_21 u_f_21 H_22 locs_22 hP1 hD1 hS1 => ?_)
        replace hP : va_P (dC, dI) vwCl [(fh, .inr (0, [.int f_isReached, f_least, f_greatest, f_sites, f_maybeNull, .ref fa_known, .ref fa_lanes, .ref fa_shortest, .ref fa_longest, .ref fa_leastAt, .ref fa_greatestAt])), (fa_known, .inl (cZ, 40, .inl f_3)), (fa_lanes, .inl (cI, 40, .inl f_9)), (fa_shortest, .inl (cI, 40, .inl f_15)), (fa_longest, .inl (cI, 40, .inl f_21)), (fa_leastAt, .inl (cI, 480, .inl fc_leastAt)), (fa_greatestAt, .inl (cI, 480, .inl fc_greatestAt))] H_22 := hP1
        replace hD : va_D A [(fh, .inr (0, [.int f_isReached, f_least, f_greatest, f_sites, f_maybeNull, .ref fa_known, .ref fa_lanes, .ref fa_shortest, .ref fa_longest, .ref fa_leastAt, .ref fa_greatestAt])), (fa_known, .inl (cZ, 40, .inl f_3)), (fa_lanes, .inl (cI, 40, .inl f_9)), (fa_shortest, .inl (cI, 40, .inl f_15)), (fa_longest, .inl (cI, 40, .inl f_21)), (fa_leastAt, .inl (cI, 480, .inl fc_leastAt)), (fa_greatestAt, .inl (cI, 480, .inl fc_greatestAt))] := hD1
        replace hS := hS1
        clear hP1 hD1 hS1
        refine lv_iconst (v := 0) hx hb dX0_addArray_118 (by decide) ?_
        refine lv_istore (lv' := [(5, .int 0), (4, .int v_1), (0, .ref fh), (1, .int ia), (2, .ref fh), (3, .int ja)]) hx hb dX0_addArray_119 hl (by decide) rfl (fun ls1 hl1 => ?_)
        replace hl := hl1; clear hl1
        refine my_wloop (S := Int32 × (Nat → Int32) × (Nat → Int32)) (fun u => (0 ≤ (u.1).toInt ∧ (u.1).toInt ≤ 12) ∧ (∀ j : Nat, (12 * ia.toInt ≤ j ∧ (j : Int) < 12 * ia.toInt + (u.1).toInt → ((u.2.1) j).toInt ≤ (fc_leastAt (12 * (ja).toNatClampNeg + (j - 12 * (ia).toNatClampNeg))).toInt ∧ (¬ v_1.toInt = 0 → ((u.2.1) j).toInt ≤ (fc_leastAt j).toInt)) ∧ (¬ (12 * ia.toInt ≤ j ∧ (j : Int) < 12 * ia.toInt + (u.1).toInt) → ((u.2.1) j).toInt = (fc_leastAt j).toInt)) ∧ (∀ j : Nat, (12 * ia.toInt ≤ j ∧ (j : Int) < 12 * ia.toInt + (u.1).toInt → (fc_greatestAt (12 * (ja).toNatClampNeg + (j - 12 * (ia).toNatClampNeg))).toInt ≤ ((u.2.2) j).toInt ∧ (¬ v_1.toInt = 0 → (fc_greatestAt j).toInt ≤ ((u.2.2) j).toInt)) ∧ (¬ (12 * ia.toInt ≤ j ∧ (j : Int) < 12 * ia.toInt + (u.1).toInt) → ((u.2.2) j).toInt = (fc_greatestAt j).toInt))) (fun u => (12 - (u.1).toInt).toNat) (fun u => [(fh, .inr (0, [.int f_isReached, f_least, f_greatest, f_sites, f_maybeNull, .ref fa_known, .ref fa_lanes, .ref fa_shortest, .ref fa_longest, .ref fa_leastAt, .ref fa_greatestAt])), (fa_known, .inl (cZ, 40, .inl f_3)), (fa_lanes, .inl (cI, 40, .inl f_9)), (fa_shortest, .inl (cI, 40, .inl f_15)), (fa_longest, .inl (cI, 40, .inl f_21)), (fa_leastAt, .inl (cI, 480, .inl (u.2.1))), (fa_greatestAt, .inl (cI, 480, .inl (u.2.2)))]) (fun u => [(5, .int (u.1)), (4, .int v_1), (0, .ref fh), (1, .int ia), (2, .ref fh), (3, .int ja)]) (H0 := s.heap) (A := A) (D := (dC, dI)) (cl := vwCl) ((0 : Int32), fc_leastAt, fc_greatestAt) (show (0 ≤ (0 : Int32).toInt ∧ (0 : Int32).toInt ≤ 12) ∧ (∀ j : Nat, (12 * ia.toInt ≤ j ∧ (j : Int) < 12 * ia.toInt + (0 : Int32).toInt → (fc_leastAt j).toInt ≤ (fc_leastAt (12 * (ja).toNatClampNeg + (j - 12 * (ia).toNatClampNeg))).toInt ∧ (¬ v_1.toInt = 0 → (fc_leastAt j).toInt ≤ (fc_leastAt j).toInt)) ∧ (¬ (12 * ia.toInt ≤ j ∧ (j : Int) < 12 * ia.toInt + (0 : Int32).toInt) → (fc_leastAt j).toInt = (fc_leastAt j).toInt)) ∧ (∀ j : Nat, (12 * ia.toInt ≤ j ∧ (j : Int) < 12 * ia.toInt + (0 : Int32).toInt → (fc_greatestAt (12 * (ja).toNatClampNeg + (j - 12 * (ia).toNatClampNeg))).toInt ≤ (fc_greatestAt j).toInt ∧ (¬ v_1.toInt = 0 → (fc_greatestAt j).toInt ≤ (fc_greatestAt j).toInt)) ∧ (¬ (12 * ia.toInt ≤ j ∧ (j : Int) < 12 * ia.toInt + (0 : Int32).toInt) → (fc_greatestAt j).toInt = (fc_greatestAt j).toInt)) from ⟨⟨by omega, by omega⟩, (fun j => ⟨fun h => by omega, fun _ => rfl⟩), (fun j => ⟨fun h => by omega, fun _ => rfl⟩)⟩) (by exact hP) (by exact hD) hS (by exact hl) (fun u_24 hu_24 ih_24 H_24 locs_24 ls1 hP1 hD1 hS1 hl1 => ?_)
        obtain ⟨v_25, f_26, f_27⟩ := u_24
        replace hu_24 : (0 ≤ v_25.toInt ∧ v_25.toInt ≤ 12) ∧ (∀ j : Nat, (12 * ia.toInt ≤ j ∧ (j : Int) < 12 * ia.toInt + v_25.toInt → (f_26 j).toInt ≤ (fc_leastAt (12 * (ja).toNatClampNeg + (j - 12 * (ia).toNatClampNeg))).toInt ∧ (¬ v_1.toInt = 0 → (f_26 j).toInt ≤ (fc_leastAt j).toInt)) ∧ (¬ (12 * ia.toInt ≤ j ∧ (j : Int) < 12 * ia.toInt + v_25.toInt) → (f_26 j).toInt = (fc_leastAt j).toInt)) ∧ (∀ j : Nat, (12 * ia.toInt ≤ j ∧ (j : Int) < 12 * ia.toInt + v_25.toInt → (fc_greatestAt (12 * (ja).toNatClampNeg + (j - 12 * (ia).toNatClampNeg))).toInt ≤ (f_27 j).toInt ∧ (¬ v_1.toInt = 0 → (fc_greatestAt j).toInt ≤ (f_27 j).toInt)) ∧ (¬ (12 * ia.toInt ≤ j ∧ (j : Int) < 12 * ia.toInt + v_25.toInt) → (f_27 j).toInt = (fc_greatestAt j).toInt)) := hu_24
        obtain ⟨q_v_25, x_24_0, x_24_1⟩ := hu_24
        replace hP : va_P (dC, dI) vwCl [(fh, .inr (0, [.int f_isReached, f_least, f_greatest, f_sites, f_maybeNull, .ref fa_known, .ref fa_lanes, .ref fa_shortest, .ref fa_longest, .ref fa_leastAt, .ref fa_greatestAt])), (fa_known, .inl (cZ, 40, .inl f_3)), (fa_lanes, .inl (cI, 40, .inl f_9)), (fa_shortest, .inl (cI, 40, .inl f_15)), (fa_longest, .inl (cI, 40, .inl f_21)), (fa_leastAt, .inl (cI, 480, .inl f_26)), (fa_greatestAt, .inl (cI, 480, .inl f_27))] H_24 := hP1
        replace hD : va_D A [(fh, .inr (0, [.int f_isReached, f_least, f_greatest, f_sites, f_maybeNull, .ref fa_known, .ref fa_lanes, .ref fa_shortest, .ref fa_longest, .ref fa_leastAt, .ref fa_greatestAt])), (fa_known, .inl (cZ, 40, .inl f_3)), (fa_lanes, .inl (cI, 40, .inl f_9)), (fa_shortest, .inl (cI, 40, .inl f_15)), (fa_longest, .inl (cI, 40, .inl f_21)), (fa_leastAt, .inl (cI, 480, .inl f_26)), (fa_greatestAt, .inl (cI, 480, .inl f_27))] := hD1
        replace hS := hS1
        clear hP1 hD1 hS1
        replace hl : lv_has ls1 8 [(5, .int v_25), (4, .int v_1), (0, .ref fh), (1, .int ia), (2, .ref fh), (3, .int ja)] := hl1
        clear hl1
        refine lv_iload hx hb dX0_addArray_121 (lv_at hl 0 rfl) ?_
        refine lv_bipush (v := 12) hx hb dX0_addArray_123 (by decide) ?_
        refine lv_icmp_ge (tgt := 230) hx hb dX0_addArray_125 (by decide) (fun c_28 => ?_) (fun c_28 => ?_)
        · -- yes
          have k_28 : (12 : Int32).toInt ≤ v_25.toInt := ci_ge c_28
          have hP9 := hP.sub (ws' := [(fh, .inr (0, [.int f_isReached, f_least, f_greatest, f_sites, f_maybeNull, .ref fa_known, .ref fa_lanes, .ref fa_shortest, .ref fa_longest, .ref fa_leastAt, .ref fa_greatestAt])), (fa_known, .inl (cZ, 40, .inl f_3)), (fa_lanes, .inl (cI, 40, .inl f_9)), (fa_shortest, .inl (cI, 40, .inl f_15)), (fa_longest, .inl (cI, 40, .inl f_21)), (fa_leastAt, .inl (cI, 480, .inl f_26)), (fa_greatestAt, .inl (cI, 480, .inl f_27))]) [0, 1, 2, 3, 4, 5, 6] rfl
          have hD9 := hD.sub (ws' := [(fh, .inr (0, [.int f_isReached, f_least, f_greatest, f_sites, f_maybeNull, .ref fa_known, .ref fa_lanes, .ref fa_shortest, .ref fa_longest, .ref fa_leastAt, .ref fa_greatestAt])), (fa_known, .inl (cZ, 40, .inl f_3)), (fa_lanes, .inl (cI, 40, .inl f_9)), (fa_shortest, .inl (cI, 40, .inl f_15)), (fa_longest, .inl (cI, 40, .inl f_21)), (fa_leastAt, .inl (cI, 480, .inl f_26)), (fa_greatestAt, .inl (cI, 480, .inl f_27))]) [0, 1, 2, 3, 4, 5, 6] (by decide) rfl
          exact W.vret hx hb hr (fun t ht hW => ⟨⟨(f_3, f_9, f_15, f_21, f_26, f_27), rfl, ⟨(show ∀ j : Nat, kZ (f_3 j) from h_f_3), (show ∀ j : Nat, kL7 (f_9 j) from h_f_9), (show ∀ j : Nat, kLE12 (f_21 j) from h_f_21), (show aS fc_lanes (fun j => (fc_shortest j).toInt) (fun j => (fc_longest j).toInt) (fun j => (fc_leastAt j).toInt) (fun j => (fc_greatestAt j).toInt) (ja).toNatClampNeg f_3 f_9 (fun j => (f_15 j).toInt) (fun j => (f_21 j).toInt) (fun j => (f_26 j).toInt) (fun j => (f_27 j).toInt) (ia).toNatClampNeg from ⟨(by have b0 := u_f_3 (ia).toNatClampNeg; omega), (fun q hq => lb_eq ((u_f_9 _).1 rfl).symm (by rw [e_v_7]; exact hq)), by dsimp only; have b0 := u_f_15 (ia).toNatClampNeg; omega, by dsimp only; have b0 := u_f_21 (ia).toNatClampNeg; omega, (fun p hp => by dsimp only; have b0 := x_24_0 (12 * (ia).toNatClampNeg + p); have b1 := x_24_1 (12 * (ia).toNatClampNeg + p); rw [show 12 * (ia).toNatClampNeg + p - 12 * (ia).toNatClampNeg = p from by omega] at b0 b1; omega)⟩), (show ¬ (fc_known (ia).toNatClampNeg).toInt = 0 → aS fc_lanes (fun j => (fc_shortest j).toInt) (fun j => (fc_longest j).toInt) (fun j => (fc_leastAt j).toInt) (fun j => (fc_greatestAt j).toInt) (ia).toNatClampNeg f_3 f_9 (fun j => (f_15 j).toInt) (fun j => (f_21 j).toInt) (fun j => (f_26 j).toInt) (fun j => (f_27 j).toInt) (ia).toNatClampNeg from (fun h => absurd h (by omega))), (show ∀ j : Nat, ¬ j = (ia).toNatClampNeg → eqS fc_known fc_lanes (fun j => (fc_shortest j).toInt) (fun j => (fc_longest j).toInt) (fun j => (fc_leastAt j).toInt) (fun j => (fc_greatestAt j).toInt) f_3 f_9 (fun j => (f_15 j).toInt) (fun j => (f_21 j).toInt) (fun j => (f_26 j).toInt) (fun j => (f_27 j).toInt) j from (fun j hj => ⟨(u_f_3 j).2 hj, (u_f_9 j).2 hj, (u_f_15 j).2 hj, (u_f_21 j).2 hj, fun p hp => by dsimp only; have b0 := x_24_0 (12 * j + p); have b1 := x_24_1 (12 * j + p); omega⟩))⟩, by rw [ht]; exact hP9, va_K.moved hW.alike hK, hD9⟩, hS.F ht⟩) hS.2.2 dX0_addArray_230
        · -- no
          have k_28 : v_25.toInt < (12 : Int32).toInt := ci_nge c_28
          refine lv_iload_n hx hb dX0_addArray_128 rfl (lv_at hl 3 rfl) ?_
          refine lv_bipush (v := 12) hx hb dX0_addArray_129 (by decide) ?_
          refine sf_imul (w := ia.toInt) (z := 12) hx hb dX0_addArray_131 rfl (by decide) ⟨by omega, by omega⟩ (fun v_29 q_v_29 => ?_)
          refine lv_iload hx hb dX0_addArray_132 (lv_at hl 0 rfl) ?_
          refine sf_iadd hx hb dX0_addArray_134 ⟨by omega, by omega⟩ (fun v_30 q_v_30 => ?_)
          refine lv_istore (lv' := [(6, .int v_30), (5, .int v_25), (4, .int v_1), (0, .ref fh), (1, .int ia), (2, .ref fh), (3, .int ja)]) hx hb dX0_addArray_135 hl (by decide) rfl (fun ls1 hl1 => ?_)
          replace hl := hl1; clear hl1
          refine lv_iload_n hx hb dX0_addArray_137 rfl (lv_at hl 6 rfl) ?_
          refine lv_bipush (v := 12) hx hb dX0_addArray_138 (by decide) ?_
          refine sf_imul (w := ja.toInt) (z := 12) hx hb dX0_addArray_140 rfl (by decide) ⟨by omega, by omega⟩ (fun v_31 q_v_31 => ?_)
          refine lv_iload hx hb dX0_addArray_141 (lv_at hl 1 rfl) ?_
          refine sf_iadd hx hb dX0_addArray_143 ⟨by omega, by omega⟩ (fun v_32 q_v_32 => ?_)
          refine lv_istore (lv' := [(7, .int v_32), (6, .int v_30), (5, .int v_25), (4, .int v_1), (0, .ref fh), (1, .int ia), (2, .ref fh), (3, .int ja)]) hx hb dX0_addArray_144 hl (by decide) rfl (fun ls1 hl1 => ?_)
          replace hl := hl1; clear hl1
          have ni_33 := nn_cl (z := v_30) (by omega)
          have ni_34 := nn_cl (z := v_32) (by omega)
          refine lv_aload_n hx hb dX0_addArray_146 rfl (lv_at hl 4 rfl) ?_
          refine va_get (D := (dC, dI)) (ci := 0) (v := .ref fa_leastAt) (C := RX0) (T := TX0) (N := 11) hx hb hts inv_X0_addArray_X0 hown hK hP 0 rfl rfl 9 (by decide) (hts (.fieldLink RX0 42 "ArraySegments$Facts" "leastAt" "[I") (List.mem_of_getElem? (i := 5) rfl)) (fun _ h9 => h9) rfl dX0_addArray_147 ?_
          refine lv_iload hx hb dX0_addArray_150 (lv_at hl 1 rfl) ?_
          refine lv_iload hx hb dX0_addArray_152 (lv_at hl 3 rfl) ?_
          refine lv_if_eq (tgt := 177) hx hb dX0_addArray_154 (by decide) (fun c_35 => ?_) (fun c_35 => ?_)
          · -- yes
            have k_35 : v_1.toInt = (0 : Int32).toInt := ci_eq c_35
            refine lv_aload_n hx hb dX0_addArray_177 rfl (lv_at hl 6 rfl) ?_
            refine va_get (D := (dC, dI)) (ci := 0) (v := .ref fa_leastAt) (C := RX0) (T := TX0) (N := 11) hx hb hts inv_X0_addArray_X0 hown hK hP 0 rfl rfl 9 (by decide) (hts (.fieldLink RX0 42 "ArraySegments$Facts" "leastAt" "[I") (List.mem_of_getElem? (i := 5) rfl)) (fun _ h9 => h9) rfl dX0_addArray_178 ?_
            refine lv_iload hx hb dX0_addArray_181 (lv_at hl 0 rfl) ?_
            refine sf_iald kT hx hb hK hP 5 0 rfl rfl (fun _ => trivial) (vp_in_iff.mpr ⟨by omega, by omega⟩) dX0_addArray_183 (fun v_36 q_v_36 e_v_36 => ?_)
            have et_v_36 : v_36.toInt = (f_26 (v_32).toNatClampNeg).toInt := by rw [e_v_36]
            have ni_37 := nn_cl (z := v_32) (by omega)
            have ir_v_36 := i32r v_36
            have ef_v_36 : (v_32).toNatClampNeg = 12 * (ja).toNatClampNeg + ((v_30).toNatClampNeg - 12 * (ia).toNatClampNeg) := by omega
            have eg_v_36 : (fc_leastAt (v_32).toNatClampNeg).toInt = (fc_leastAt (12 * (ja).toNatClampNeg + ((v_30).toNatClampNeg - 12 * (ia).toNatClampNeg))).toInt := by rw [ef_v_36]
            have ni_40 := nn_cl (z := v_30) (by omega)
            refine sf_iastU kT hx hb hK hP hD hS 5 0 rfl rfl (fun _ => trivial) trivial (vp_in_iff.mpr ⟨by omega, by omega⟩) dX0_addArray_184 (fun f_38 h_f_38 u_f_38 H_39 locs_39 hP1 hD1 hS1 => ?_)
            replace hP : va_P (dC, dI) vwCl [(fh, .inr (0, [.int f_isReached, f_least, f_greatest, f_sites, f_maybeNull, .ref fa_known, .ref fa_lanes, .ref fa_shortest, .ref fa_longest, .ref fa_leastAt, .ref fa_greatestAt])), (fa_known, .inl (cZ, 40, .inl f_3)), (fa_lanes, .inl (cI, 40, .inl f_9)), (fa_shortest, .inl (cI, 40, .inl f_15)), (fa_longest, .inl (cI, 40, .inl f_21)), (fa_leastAt, .inl (cI, 480, .inl f_38)), (fa_greatestAt, .inl (cI, 480, .inl f_27))] H_39 := hP1
            replace hD : va_D A [(fh, .inr (0, [.int f_isReached, f_least, f_greatest, f_sites, f_maybeNull, .ref fa_known, .ref fa_lanes, .ref fa_shortest, .ref fa_longest, .ref fa_leastAt, .ref fa_greatestAt])), (fa_known, .inl (cZ, 40, .inl f_3)), (fa_lanes, .inl (cI, 40, .inl f_9)), (fa_shortest, .inl (cI, 40, .inl f_15)), (fa_longest, .inl (cI, 40, .inl f_21)), (fa_leastAt, .inl (cI, 480, .inl f_38)), (fa_greatestAt, .inl (cI, 480, .inl f_27))] := hD1
            replace hS := hS1
            clear hP1 hD1 hS1
            refine lv_aload_n hx hb dX0_addArray_185 rfl (lv_at hl 4 rfl) ?_
            refine va_get (D := (dC, dI)) (ci := 0) (v := .ref fa_greatestAt) (C := RX0) (T := TX0) (N := 11) hx hb hts inv_X0_addArray_X0 hown hK hP 0 rfl rfl 10 (by decide) (hts (.fieldLink RX0 45 "ArraySegments$Facts" "greatestAt" "[I") (List.mem_of_getElem? (i := 6) rfl)) (fun _ h9 => h9) rfl dX0_addArray_186 ?_
            refine lv_iload hx hb dX0_addArray_189 (lv_at hl 1 rfl) ?_
            refine lv_iload hx hb dX0_addArray_191 (lv_at hl 3 rfl) ?_
            refine lv_if_eq (tgt := 216) hx hb dX0_addArray_193 (by decide) (fun c_41 => ?_) (fun c_41 => ?_)
            · -- yes
              have k_41 : v_1.toInt = (0 : Int32).toInt := ci_eq c_41
              refine lv_aload_n hx hb dX0_addArray_216 rfl (lv_at hl 6 rfl) ?_
              refine va_get (D := (dC, dI)) (ci := 0) (v := .ref fa_greatestAt) (C := RX0) (T := TX0) (N := 11) hx hb hts inv_X0_addArray_X0 hown hK hP 0 rfl rfl 10 (by decide) (hts (.fieldLink RX0 45 "ArraySegments$Facts" "greatestAt" "[I") (List.mem_of_getElem? (i := 6) rfl)) (fun _ h9 => h9) rfl dX0_addArray_217 ?_
              refine lv_iload hx hb dX0_addArray_220 (lv_at hl 0 rfl) ?_
              refine sf_iald kT hx hb hK hP 6 0 rfl rfl (fun _ => trivial) (vp_in_iff.mpr ⟨by omega, by omega⟩) dX0_addArray_222 (fun v_42 q_v_42 e_v_42 => ?_)
              have et_v_42 : v_42.toInt = (f_27 (v_32).toNatClampNeg).toInt := by rw [e_v_42]
              have ni_43 := nn_cl (z := v_32) (by omega)
              have ir_v_42 := i32r v_42
              have ef_v_42 : (v_32).toNatClampNeg = 12 * (ja).toNatClampNeg + ((v_30).toNatClampNeg - 12 * (ia).toNatClampNeg) := by omega
              have eg_v_42 : (fc_greatestAt (v_32).toNatClampNeg).toInt = (fc_greatestAt (12 * (ja).toNatClampNeg + ((v_30).toNatClampNeg - 12 * (ia).toNatClampNeg))).toInt := by rw [ef_v_42]
              have ni_46 := nn_cl (z := v_30) (by omega)
              refine sf_iastU kT hx hb hK hP hD hS 6 0 rfl rfl (fun _ => trivial) trivial (vp_in_iff.mpr ⟨by omega, by omega⟩) dX0_addArray_223 (fun f_44 h_f_44 u_f_44 H_45 locs_45 hP1 hD1 hS1 => ?_)
              replace hP : va_P (dC, dI) vwCl [(fh, .inr (0, [.int f_isReached, f_least, f_greatest, f_sites, f_maybeNull, .ref fa_known, .ref fa_lanes, .ref fa_shortest, .ref fa_longest, .ref fa_leastAt, .ref fa_greatestAt])), (fa_known, .inl (cZ, 40, .inl f_3)), (fa_lanes, .inl (cI, 40, .inl f_9)), (fa_shortest, .inl (cI, 40, .inl f_15)), (fa_longest, .inl (cI, 40, .inl f_21)), (fa_leastAt, .inl (cI, 480, .inl f_38)), (fa_greatestAt, .inl (cI, 480, .inl f_44))] H_45 := hP1
              replace hD : va_D A [(fh, .inr (0, [.int f_isReached, f_least, f_greatest, f_sites, f_maybeNull, .ref fa_known, .ref fa_lanes, .ref fa_shortest, .ref fa_longest, .ref fa_leastAt, .ref fa_greatestAt])), (fa_known, .inl (cZ, 40, .inl f_3)), (fa_lanes, .inl (cI, 40, .inl f_9)), (fa_shortest, .inl (cI, 40, .inl f_15)), (fa_longest, .inl (cI, 40, .inl f_21)), (fa_leastAt, .inl (cI, 480, .inl f_38)), (fa_greatestAt, .inl (cI, 480, .inl f_44))] := hD1
              replace hS := hS1
              clear hP1 hD1 hS1
              refine sf_iinc hx hb dX0_addArray_224 hl (k := 2) (x := v_25) (w := 1) rfl (by decide) (by decide) ⟨by omega, by omega⟩ (fun v_47 q_v_47 ls1 hl1 => ?_)
              replace hl : lv_has ls1 8 [(5, .int v_47), (7, .int v_32), (6, .int v_30), (4, .int v_1), (0, .ref fh), (1, .int ia), (2, .ref fh), (3, .int ja)] := hl1
              clear hl1
              refine lv_goto (tgt := 121) hx hb dX0_addArray_227 (by decide) ?_
              exact ih_24 (v_47, f_38, f_44) (show (0 ≤ v_47.toInt ∧ v_47.toInt ≤ 12) ∧ (∀ j : Nat, (12 * ia.toInt ≤ j ∧ (j : Int) < 12 * ia.toInt + v_47.toInt → (f_38 j).toInt ≤ (fc_leastAt (12 * (ja).toNatClampNeg + (j - 12 * (ia).toNatClampNeg))).toInt ∧ (¬ v_1.toInt = 0 → (f_38 j).toInt ≤ (fc_leastAt j).toInt)) ∧ (¬ (12 * ia.toInt ≤ j ∧ (j : Int) < 12 * ia.toInt + v_47.toInt) → (f_38 j).toInt = (fc_leastAt j).toInt)) ∧ (∀ j : Nat, (12 * ia.toInt ≤ j ∧ (j : Int) < 12 * ia.toInt + v_47.toInt → (fc_greatestAt (12 * (ja).toNatClampNeg + (j - 12 * (ia).toNatClampNeg))).toInt ≤ (f_44 j).toInt ∧ (¬ v_1.toInt = 0 → (fc_greatestAt j).toInt ≤ (f_44 j).toInt)) ∧ (¬ (12 * ia.toInt ≤ j ∧ (j : Int) < 12 * ia.toInt + v_47.toInt) → (f_44 j).toInt = (fc_greatestAt j).toInt)) from ⟨⟨by omega, by omega⟩, (fun j => by have b0 := u_f_38 j; have b1 := x_24_0 j; have b5 := x_24_0 (v_32).toNatClampNeg; by_cases hq : j = (v_30).toNatClampNeg; (· subst hq; omega); (· omega)), (fun j => by have b0 := u_f_44 j; have b1 := x_24_1 j; have b5 := x_24_1 (v_32).toNatClampNeg; by_cases hq : j = (v_30).toNatClampNeg; (· subst hq; omega); (· omega))⟩) (by show (12 - v_47.toInt).toNat < (12 - v_25.toInt).toNat; omega) _ _ _ (hP.sub [0, 1, 2, 3, 4, 5, 6] rfl) (hD.sub [0, 1, 2, 3, 4, 5, 6] (by decide) rfl) hS (lv_sub hl [0, 3, 4, 5, 6, 7] rfl)
            · -- no
              have k_41 : ¬ v_1.toInt = (0 : Int32).toInt := ci_ne c_41
              exfalso; omega
          · -- no
            have k_35 : ¬ v_1.toInt = (0 : Int32).toInt := ci_ne c_35
            exfalso; omega
      · -- no
        have k_18 : ¬ v_1.toInt = (0 : Int32).toInt := ci_ne c_18
        exfalso; omega
    · -- no
      have k_12 : ¬ v_1.toInt = (0 : Int32).toInt := ci_ne c_12
      exfalso; omega
  · -- no
    have k_6 : ¬ v_1.toInt = (0 : Int32).toInt := ci_ne c_6
    refine lv_aload_n hx hb dX0_addArray_25 rfl (lv_at hl 1 rfl) ?_
    refine va_get (D := (dC, dI)) (ci := 0) (v := .ref fa_lanes) (C := RX0) (T := TX0) (N := 11) hx hb hts inv_X0_addArray_X0 hown hK hP 0 rfl rfl 6 (by decide) (hts (.fieldLink RX0 33 "ArraySegments$Facts" "lanes" "[I") (List.mem_of_getElem? (i := 2) rfl)) (fun _ h9 => h9) rfl dX0_addArray_26 ?_
    refine lv_iload_n hx hb dX0_addArray_29 rfl (lv_at hl 2 rfl) ?_
    refine sf_iald kL7 hx hb hK hP 2 0 rfl rfl h_fc_lanes (vp_in_iff.mpr ⟨by omega, by omega⟩) dX0_addArray_30 (fun v_48 q_v_48 e_v_48 => ?_)
    have et_v_48 : v_48.toInt = (fc_lanes (ia).toNatClampNeg).toInt := by rw [e_v_48]
    have ni_49 := nn_cl (z := ia) (by omega)
    refine lv_aload_n hx hb dX0_addArray_31 rfl (lv_at hl 3 rfl) ?_
    refine va_get (D := (dC, dI)) (ci := 0) (v := .ref fa_lanes) (C := RX0) (T := TX0) (N := 11) hx hb hts inv_X0_addArray_X0 hown hK hP 0 rfl rfl 6 (by decide) (hts (.fieldLink RX0 33 "ArraySegments$Facts" "lanes" "[I") (List.mem_of_getElem? (i := 2) rfl)) (fun _ h9 => h9) rfl dX0_addArray_32 ?_
    refine lv_iload_n hx hb dX0_addArray_35 rfl (lv_at hl 4 rfl) ?_
    refine sf_iald kL7 hx hb hK hP 2 0 rfl rfl h_fc_lanes (vp_in_iff.mpr ⟨by omega, by omega⟩) dX0_addArray_36 (fun v_50 q_v_50 e_v_50 => ?_)
    have et_v_50 : v_50.toInt = (fc_lanes (ja).toNatClampNeg).toInt := by rw [e_v_50]
    have ni_51 := nn_cl (z := ja) (by omega)
    refine lv_ior hx hb dX0_addArray_37 ?_
    refine lv_topi (fun v_52 e_v_52 => ?_)
    have qo_v_52 : kL7 v_52 := or7 e_v_52 ⟨by omega, by omega⟩ ⟨by omega, by omega⟩
    refine lv_goto (tgt := 47) hx hb dX0_addArray_38 (by decide) ?_
    have ni_55 := nn_cl (z := ia) (by omega)
    refine sf_iastU kL7 hx hb hK hP hD hS 2 0 rfl rfl h_fc_lanes (show kL7 v_52 from by omega) (vp_in_iff.mpr ⟨by omega, by omega⟩) dX0_addArray_47 (fun f_53 h_f_53 u_f_53 H_54 locs_54 hP1 hD1 hS1 => ?_)
    replace hP : va_P (dC, dI) vwCl [(fh, .inr (0, [.int f_isReached, f_least, f_greatest, f_sites, f_maybeNull, .ref fa_known, .ref fa_lanes, .ref fa_shortest, .ref fa_longest, .ref fa_leastAt, .ref fa_greatestAt])), (fa_known, .inl (cZ, 40, .inl f_3)), (fa_lanes, .inl (cI, 40, .inl f_53)), (fa_shortest, .inl (cI, 40, .inl fc_shortest)), (fa_longest, .inl (cI, 40, .inl fc_longest)), (fa_leastAt, .inl (cI, 480, .inl fc_leastAt)), (fa_greatestAt, .inl (cI, 480, .inl fc_greatestAt))] H_54 := hP1
    replace hD : va_D A [(fh, .inr (0, [.int f_isReached, f_least, f_greatest, f_sites, f_maybeNull, .ref fa_known, .ref fa_lanes, .ref fa_shortest, .ref fa_longest, .ref fa_leastAt, .ref fa_greatestAt])), (fa_known, .inl (cZ, 40, .inl f_3)), (fa_lanes, .inl (cI, 40, .inl f_53)), (fa_shortest, .inl (cI, 40, .inl fc_shortest)), (fa_longest, .inl (cI, 40, .inl fc_longest)), (fa_leastAt, .inl (cI, 480, .inl fc_leastAt)), (fa_greatestAt, .inl (cI, 480, .inl fc_greatestAt))] := hD1
    replace hS := hS1
    clear hP1 hD1 hS1
    refine lv_aload_n hx hb dX0_addArray_48 rfl (lv_at hl 1 rfl) ?_
    refine va_get (D := (dC, dI)) (ci := 0) (v := .ref fa_shortest) (C := RX0) (T := TX0) (N := 11) hx hb hts inv_X0_addArray_X0 hown hK hP 0 rfl rfl 7 (by decide) (hts (.fieldLink RX0 36 "ArraySegments$Facts" "shortest" "[I") (List.mem_of_getElem? (i := 3) rfl)) (fun _ h9 => h9) rfl dX0_addArray_49 ?_
    refine lv_iload_n hx hb dX0_addArray_52 rfl (lv_at hl 2 rfl) ?_
    refine lv_iload hx hb dX0_addArray_53 (lv_at hl 0 rfl) ?_
    refine lv_if_eq (tgt := 76) hx hb dX0_addArray_55 (by decide) (fun c_56 => ?_) (fun c_56 => ?_)
    · -- yes
      have k_56 : v_1.toInt = (0 : Int32).toInt := ci_eq c_56
      exfalso; omega
    · -- no
      have k_56 : ¬ v_1.toInt = (0 : Int32).toInt := ci_ne c_56
      refine lv_aload_n hx hb dX0_addArray_58 rfl (lv_at hl 1 rfl) ?_
      refine va_get (D := (dC, dI)) (ci := 0) (v := .ref fa_shortest) (C := RX0) (T := TX0) (N := 11) hx hb hts inv_X0_addArray_X0 hown hK hP 0 rfl rfl 7 (by decide) (hts (.fieldLink RX0 36 "ArraySegments$Facts" "shortest" "[I") (List.mem_of_getElem? (i := 3) rfl)) (fun _ h9 => h9) rfl dX0_addArray_59 ?_
      refine lv_iload_n hx hb dX0_addArray_62 rfl (lv_at hl 2 rfl) ?_
      refine sf_iald kT hx hb hK hP 3 0 rfl rfl (fun _ => trivial) (vp_in_iff.mpr ⟨by omega, by omega⟩) dX0_addArray_63 (fun v_57 q_v_57 e_v_57 => ?_)
      have et_v_57 : v_57.toInt = (fc_shortest (ia).toNatClampNeg).toInt := by rw [e_v_57]
      have ni_58 := nn_cl (z := ia) (by omega)
      have ir_v_57 := i32r v_57
      refine lv_aload_n hx hb dX0_addArray_64 rfl (lv_at hl 3 rfl) ?_
      refine va_get (D := (dC, dI)) (ci := 0) (v := .ref fa_shortest) (C := RX0) (T := TX0) (N := 11) hx hb hts inv_X0_addArray_X0 hown hK hP 0 rfl rfl 7 (by decide) (hts (.fieldLink RX0 36 "ArraySegments$Facts" "shortest" "[I") (List.mem_of_getElem? (i := 3) rfl)) (fun _ h9 => h9) rfl dX0_addArray_65 ?_
      refine lv_iload_n hx hb dX0_addArray_68 rfl (lv_at hl 4 rfl) ?_
      refine sf_iald kT hx hb hK hP 3 0 rfl rfl (fun _ => trivial) (vp_in_iff.mpr ⟨by omega, by omega⟩) dX0_addArray_69 (fun v_59 q_v_59 e_v_59 => ?_)
      have et_v_59 : v_59.toInt = (fc_shortest (ja).toNatClampNeg).toInt := by rw [e_v_59]
      have ni_60 := nn_cl (z := ja) (by omega)
      have ir_v_59 := i32r v_59
      have ir_62 := i32r v_57
      have ir_63 := i32r v_59
      refine sf_mmin hx hb (by rw [hml]; exact hl.1.symm) hown (hts (.methodLink RX0 62 Lib.Math.min.name) (List.mem_of_getElem? (i := 7) rfl)) (hts (.static Lib.Math.min.name) (List.mem_of_getElem? (i := 8) rfl)) (hts (.initialized "java/lang/Math") (List.mem_of_getElem? (i := 9) rfl)) (hts (.code Lib.Math.min.name Lib.Math.min.code 2 (some .int)) (List.mem_of_getElem? (i := 10) rfl)) (Nat.le_of_ble_eq_true rfl) (Nat.le_of_ble_eq_true rfl) (Nat.le_of_ble_eq_true rfl) (Nat.le_of_ble_eq_true rfl) dX0_addArray_70 (fun v_61 q_v_61 => ?_)
      refine lv_goto (tgt := 82) hx hb dX0_addArray_73 (by decide) ?_
      have ni_66 := nn_cl (z := ia) (by omega)
      refine sf_iastU kT hx hb hK hP hD hS 3 0 rfl rfl (fun _ => trivial) trivial (vp_in_iff.mpr ⟨by omega, by omega⟩) dX0_addArray_82 (fun f_64 h_f_64 u_f_64 H_65 locs_65 hP1 hD1 hS1 => ?_)
      replace hP : va_P (dC, dI) vwCl [(fh, .inr (0, [.int f_isReached, f_least, f_greatest, f_sites, f_maybeNull, .ref fa_known, .ref fa_lanes, .ref fa_shortest, .ref fa_longest, .ref fa_leastAt, .ref fa_greatestAt])), (fa_known, .inl (cZ, 40, .inl f_3)), (fa_lanes, .inl (cI, 40, .inl f_53)), (fa_shortest, .inl (cI, 40, .inl f_64)), (fa_longest, .inl (cI, 40, .inl fc_longest)), (fa_leastAt, .inl (cI, 480, .inl fc_leastAt)), (fa_greatestAt, .inl (cI, 480, .inl fc_greatestAt))] H_65 := hP1
      replace hD : va_D A [(fh, .inr (0, [.int f_isReached, f_least, f_greatest, f_sites, f_maybeNull, .ref fa_known, .ref fa_lanes, .ref fa_shortest, .ref fa_longest, .ref fa_leastAt, .ref fa_greatestAt])), (fa_known, .inl (cZ, 40, .inl f_3)), (fa_lanes, .inl (cI, 40, .inl f_53)), (fa_shortest, .inl (cI, 40, .inl f_64)), (fa_longest, .inl (cI, 40, .inl fc_longest)), (fa_leastAt, .inl (cI, 480, .inl fc_leastAt)), (fa_greatestAt, .inl (cI, 480, .inl fc_greatestAt))] := hD1
      replace hS := hS1
      clear hP1 hD1 hS1
      refine lv_aload_n hx hb dX0_addArray_83 rfl (lv_at hl 1 rfl) ?_
      refine va_get (D := (dC, dI)) (ci := 0) (v := .ref fa_longest) (C := RX0) (T := TX0) (N := 11) hx hb hts inv_X0_addArray_X0 hown hK hP 0 rfl rfl 8 (by decide) (hts (.fieldLink RX0 39 "ArraySegments$Facts" "longest" "[I") (List.mem_of_getElem? (i := 4) rfl)) (fun _ h9 => h9) rfl dX0_addArray_84 ?_
      refine lv_iload_n hx hb dX0_addArray_87 rfl (lv_at hl 2 rfl) ?_
      refine lv_iload hx hb dX0_addArray_88 (lv_at hl 0 rfl) ?_
      refine lv_if_eq (tgt := 111) hx hb dX0_addArray_90 (by decide) (fun c_67 => ?_) (fun c_67 => ?_)
      · -- yes
        have k_67 : v_1.toInt = (0 : Int32).toInt := ci_eq c_67
        exfalso; omega
      · -- no
        have k_67 : ¬ v_1.toInt = (0 : Int32).toInt := ci_ne c_67
        refine lv_aload_n hx hb dX0_addArray_93 rfl (lv_at hl 1 rfl) ?_
        refine va_get (D := (dC, dI)) (ci := 0) (v := .ref fa_longest) (C := RX0) (T := TX0) (N := 11) hx hb hts inv_X0_addArray_X0 hown hK hP 0 rfl rfl 8 (by decide) (hts (.fieldLink RX0 39 "ArraySegments$Facts" "longest" "[I") (List.mem_of_getElem? (i := 4) rfl)) (fun _ h9 => h9) rfl dX0_addArray_94 ?_
        refine lv_iload_n hx hb dX0_addArray_97 rfl (lv_at hl 2 rfl) ?_
        refine sf_iald kLE12 hx hb hK hP 4 0 rfl rfl h_fc_longest (vp_in_iff.mpr ⟨by omega, by omega⟩) dX0_addArray_98 (fun v_68 q_v_68 e_v_68 => ?_)
        have et_v_68 : v_68.toInt = (fc_longest (ia).toNatClampNeg).toInt := by rw [e_v_68]
        have ni_69 := nn_cl (z := ia) (by omega)
        have ir_v_68 := i32r v_68
        refine lv_aload_n hx hb dX0_addArray_99 rfl (lv_at hl 3 rfl) ?_
        refine va_get (D := (dC, dI)) (ci := 0) (v := .ref fa_longest) (C := RX0) (T := TX0) (N := 11) hx hb hts inv_X0_addArray_X0 hown hK hP 0 rfl rfl 8 (by decide) (hts (.fieldLink RX0 39 "ArraySegments$Facts" "longest" "[I") (List.mem_of_getElem? (i := 4) rfl)) (fun _ h9 => h9) rfl dX0_addArray_100 ?_
        refine lv_iload_n hx hb dX0_addArray_103 rfl (lv_at hl 4 rfl) ?_
        refine sf_iald kLE12 hx hb hK hP 4 0 rfl rfl h_fc_longest (vp_in_iff.mpr ⟨by omega, by omega⟩) dX0_addArray_104 (fun v_70 q_v_70 e_v_70 => ?_)
        have et_v_70 : v_70.toInt = (fc_longest (ja).toNatClampNeg).toInt := by rw [e_v_70]
        have ni_71 := nn_cl (z := ja) (by omega)
        have ir_v_70 := i32r v_70
        have ir_73 := i32r v_68
        have ir_74 := i32r v_70
        refine sf_mmax hx hb (by rw [hml]; exact hl.1.symm) hown (hts (.methodLink RX0 68 Lib.Math.max.name) (List.mem_of_getElem? (i := 11) rfl)) (hts (.static Lib.Math.max.name) (List.mem_of_getElem? (i := 12) rfl)) (hts (.initialized "java/lang/Math") (List.mem_of_getElem? (i := 9) rfl)) (hts (.code Lib.Math.max.name Lib.Math.max.code 2 (some .int)) (List.mem_of_getElem? (i := 13) rfl)) (Nat.le_of_ble_eq_true rfl) (Nat.le_of_ble_eq_true rfl) (Nat.le_of_ble_eq_true rfl) (Nat.le_of_ble_eq_true rfl) dX0_addArray_105 (fun v_72 q_v_72 => ?_)
        have qi_v_72 : v_72.toInt ≤ 12 := by omega
        refine lv_goto (tgt := 117) hx hb dX0_addArray_108 (by decide) ?_
        have ni_77 := nn_cl (z := ia) (by omega)
        refine sf_iastU kLE12 hx hb hK hP hD hS 4 0 rfl rfl h_fc_longest (show kLE12 v_72 from by omega) (vp_in_iff.mpr ⟨by omega, by omega⟩) dX0_addArray_117 (fun f_75 h_f_75 u_f_75 H_76 locs_76 hP1 hD1 hS1 => ?_)
        replace hP : va_P (dC, dI) vwCl [(fh, .inr (0, [.int f_isReached, f_least, f_greatest, f_sites, f_maybeNull, .ref fa_known, .ref fa_lanes, .ref fa_shortest, .ref fa_longest, .ref fa_leastAt, .ref fa_greatestAt])), (fa_known, .inl (cZ, 40, .inl f_3)), (fa_lanes, .inl (cI, 40, .inl f_53)), (fa_shortest, .inl (cI, 40, .inl f_64)), (fa_longest, .inl (cI, 40, .inl f_75)), (fa_leastAt, .inl (cI, 480, .inl fc_leastAt)), (fa_greatestAt, .inl (cI, 480, .inl fc_greatestAt))] H_76 := hP1
        replace hD : va_D A [(fh, .inr (0, [.int f_isReached, f_least, f_greatest, f_sites, f_maybeNull, .ref fa_known, .ref fa_lanes, .ref fa_shortest, .ref fa_longest, .ref fa_leastAt, .ref fa_greatestAt])), (fa_known, .inl (cZ, 40, .inl f_3)), (fa_lanes, .inl (cI, 40, .inl f_53)), (fa_shortest, .inl (cI, 40, .inl f_64)), (fa_longest, .inl (cI, 40, .inl f_75)), (fa_leastAt, .inl (cI, 480, .inl fc_leastAt)), (fa_greatestAt, .inl (cI, 480, .inl fc_greatestAt))] := hD1
        replace hS := hS1
        clear hP1 hD1 hS1
        refine lv_iconst (v := 0) hx hb dX0_addArray_118 (by decide) ?_
        refine lv_istore (lv' := [(5, .int 0), (4, .int v_1), (0, .ref fh), (1, .int ia), (2, .ref fh), (3, .int ja)]) hx hb dX0_addArray_119 hl (by decide) rfl (fun ls1 hl1 => ?_)
        replace hl := hl1; clear hl1
        refine my_wloop (S := Int32 × (Nat → Int32) × (Nat → Int32)) (fun u => (0 ≤ (u.1).toInt ∧ (u.1).toInt ≤ 12) ∧ (∀ j : Nat, (12 * ia.toInt ≤ j ∧ (j : Int) < 12 * ia.toInt + (u.1).toInt → ((u.2.1) j).toInt ≤ (fc_leastAt (12 * (ja).toNatClampNeg + (j - 12 * (ia).toNatClampNeg))).toInt ∧ (¬ v_1.toInt = 0 → ((u.2.1) j).toInt ≤ (fc_leastAt j).toInt)) ∧ (¬ (12 * ia.toInt ≤ j ∧ (j : Int) < 12 * ia.toInt + (u.1).toInt) → ((u.2.1) j).toInt = (fc_leastAt j).toInt)) ∧ (∀ j : Nat, (12 * ia.toInt ≤ j ∧ (j : Int) < 12 * ia.toInt + (u.1).toInt → (fc_greatestAt (12 * (ja).toNatClampNeg + (j - 12 * (ia).toNatClampNeg))).toInt ≤ ((u.2.2) j).toInt ∧ (¬ v_1.toInt = 0 → (fc_greatestAt j).toInt ≤ ((u.2.2) j).toInt)) ∧ (¬ (12 * ia.toInt ≤ j ∧ (j : Int) < 12 * ia.toInt + (u.1).toInt) → ((u.2.2) j).toInt = (fc_greatestAt j).toInt))) (fun u => (12 - (u.1).toInt).toNat) (fun u => [(fh, .inr (0, [.int f_isReached, f_least, f_greatest, f_sites, f_maybeNull, .ref fa_known, .ref fa_lanes, .ref fa_shortest, .ref fa_longest, .ref fa_leastAt, .ref fa_greatestAt])), (fa_known, .inl (cZ, 40, .inl f_3)), (fa_lanes, .inl (cI, 40, .inl f_53)), (fa_shortest, .inl (cI, 40, .inl f_64)), (fa_longest, .inl (cI, 40, .inl f_75)), (fa_leastAt, .inl (cI, 480, .inl (u.2.1))), (fa_greatestAt, .inl (cI, 480, .inl (u.2.2)))]) (fun u => [(5, .int (u.1)), (4, .int v_1), (0, .ref fh), (1, .int ia), (2, .ref fh), (3, .int ja)]) (H0 := s.heap) (A := A) (D := (dC, dI)) (cl := vwCl) ((0 : Int32), fc_leastAt, fc_greatestAt) (show (0 ≤ (0 : Int32).toInt ∧ (0 : Int32).toInt ≤ 12) ∧ (∀ j : Nat, (12 * ia.toInt ≤ j ∧ (j : Int) < 12 * ia.toInt + (0 : Int32).toInt → (fc_leastAt j).toInt ≤ (fc_leastAt (12 * (ja).toNatClampNeg + (j - 12 * (ia).toNatClampNeg))).toInt ∧ (¬ v_1.toInt = 0 → (fc_leastAt j).toInt ≤ (fc_leastAt j).toInt)) ∧ (¬ (12 * ia.toInt ≤ j ∧ (j : Int) < 12 * ia.toInt + (0 : Int32).toInt) → (fc_leastAt j).toInt = (fc_leastAt j).toInt)) ∧ (∀ j : Nat, (12 * ia.toInt ≤ j ∧ (j : Int) < 12 * ia.toInt + (0 : Int32).toInt → (fc_greatestAt (12 * (ja).toNatClampNeg + (j - 12 * (ia).toNatClampNeg))).toInt ≤ (fc_greatestAt j).toInt ∧ (¬ v_1.toInt = 0 → (fc_greatestAt j).toInt ≤ (fc_greatestAt j).toInt)) ∧ (¬ (12 * ia.toInt ≤ j ∧ (j : Int) < 12 * ia.toInt + (0 : Int32).toInt) → (fc_greatestAt j).toInt = (fc_greatestAt j).toInt)) from ⟨⟨by omega, by omega⟩, (fun j => ⟨fun h => by omega, fun _ => rfl⟩), (fun j => ⟨fun h => by omega, fun _ => rfl⟩)⟩) (by exact hP) (by exact hD) hS (by exact hl) (fun u_78 hu_78 ih_78 H_78 locs_78 ls1 hP1 hD1 hS1 hl1 => ?_)
        obtain ⟨v_79, f_80, f_81⟩ := u_78
        replace hu_78 : (0 ≤ v_79.toInt ∧ v_79.toInt ≤ 12) ∧ (∀ j : Nat, (12 * ia.toInt ≤ j ∧ (j : Int) < 12 * ia.toInt + v_79.toInt → (f_80 j).toInt ≤ (fc_leastAt (12 * (ja).toNatClampNeg + (j - 12 * (ia).toNatClampNeg))).toInt ∧ (¬ v_1.toInt = 0 → (f_80 j).toInt ≤ (fc_leastAt j).toInt)) ∧ (¬ (12 * ia.toInt ≤ j ∧ (j : Int) < 12 * ia.toInt + v_79.toInt) → (f_80 j).toInt = (fc_leastAt j).toInt)) ∧ (∀ j : Nat, (12 * ia.toInt ≤ j ∧ (j : Int) < 12 * ia.toInt + v_79.toInt → (fc_greatestAt (12 * (ja).toNatClampNeg + (j - 12 * (ia).toNatClampNeg))).toInt ≤ (f_81 j).toInt ∧ (¬ v_1.toInt = 0 → (fc_greatestAt j).toInt ≤ (f_81 j).toInt)) ∧ (¬ (12 * ia.toInt ≤ j ∧ (j : Int) < 12 * ia.toInt + v_79.toInt) → (f_81 j).toInt = (fc_greatestAt j).toInt)) := hu_78
        obtain ⟨q_v_79, x_78_0, x_78_1⟩ := hu_78
        replace hP : va_P (dC, dI) vwCl [(fh, .inr (0, [.int f_isReached, f_least, f_greatest, f_sites, f_maybeNull, .ref fa_known, .ref fa_lanes, .ref fa_shortest, .ref fa_longest, .ref fa_leastAt, .ref fa_greatestAt])), (fa_known, .inl (cZ, 40, .inl f_3)), (fa_lanes, .inl (cI, 40, .inl f_53)), (fa_shortest, .inl (cI, 40, .inl f_64)), (fa_longest, .inl (cI, 40, .inl f_75)), (fa_leastAt, .inl (cI, 480, .inl f_80)), (fa_greatestAt, .inl (cI, 480, .inl f_81))] H_78 := hP1
        replace hD : va_D A [(fh, .inr (0, [.int f_isReached, f_least, f_greatest, f_sites, f_maybeNull, .ref fa_known, .ref fa_lanes, .ref fa_shortest, .ref fa_longest, .ref fa_leastAt, .ref fa_greatestAt])), (fa_known, .inl (cZ, 40, .inl f_3)), (fa_lanes, .inl (cI, 40, .inl f_53)), (fa_shortest, .inl (cI, 40, .inl f_64)), (fa_longest, .inl (cI, 40, .inl f_75)), (fa_leastAt, .inl (cI, 480, .inl f_80)), (fa_greatestAt, .inl (cI, 480, .inl f_81))] := hD1
        replace hS := hS1
        clear hP1 hD1 hS1
        replace hl : lv_has ls1 8 [(5, .int v_79), (4, .int v_1), (0, .ref fh), (1, .int ia), (2, .ref fh), (3, .int ja)] := hl1
        clear hl1
        refine lv_iload hx hb dX0_addArray_121 (lv_at hl 0 rfl) ?_
        refine lv_bipush (v := 12) hx hb dX0_addArray_123 (by decide) ?_
        refine lv_icmp_ge (tgt := 230) hx hb dX0_addArray_125 (by decide) (fun c_82 => ?_) (fun c_82 => ?_)
        · -- yes
          have k_82 : (12 : Int32).toInt ≤ v_79.toInt := ci_ge c_82
          have hP9 := hP.sub (ws' := [(fh, .inr (0, [.int f_isReached, f_least, f_greatest, f_sites, f_maybeNull, .ref fa_known, .ref fa_lanes, .ref fa_shortest, .ref fa_longest, .ref fa_leastAt, .ref fa_greatestAt])), (fa_known, .inl (cZ, 40, .inl f_3)), (fa_lanes, .inl (cI, 40, .inl f_53)), (fa_shortest, .inl (cI, 40, .inl f_64)), (fa_longest, .inl (cI, 40, .inl f_75)), (fa_leastAt, .inl (cI, 480, .inl f_80)), (fa_greatestAt, .inl (cI, 480, .inl f_81))]) [0, 1, 2, 3, 4, 5, 6] rfl
          have hD9 := hD.sub (ws' := [(fh, .inr (0, [.int f_isReached, f_least, f_greatest, f_sites, f_maybeNull, .ref fa_known, .ref fa_lanes, .ref fa_shortest, .ref fa_longest, .ref fa_leastAt, .ref fa_greatestAt])), (fa_known, .inl (cZ, 40, .inl f_3)), (fa_lanes, .inl (cI, 40, .inl f_53)), (fa_shortest, .inl (cI, 40, .inl f_64)), (fa_longest, .inl (cI, 40, .inl f_75)), (fa_leastAt, .inl (cI, 480, .inl f_80)), (fa_greatestAt, .inl (cI, 480, .inl f_81))]) [0, 1, 2, 3, 4, 5, 6] (by decide) rfl
          exact W.vret hx hb hr (fun t ht hW => ⟨⟨(f_3, f_53, f_64, f_75, f_80, f_81), rfl, ⟨(show ∀ j : Nat, kZ (f_3 j) from h_f_3), (show ∀ j : Nat, kL7 (f_53 j) from h_f_53), (show ∀ j : Nat, kLE12 (f_75 j) from h_f_75), (show aS fc_lanes (fun j => (fc_shortest j).toInt) (fun j => (fc_longest j).toInt) (fun j => (fc_leastAt j).toInt) (fun j => (fc_greatestAt j).toInt) (ja).toNatClampNeg f_3 f_53 (fun j => (f_64 j).toInt) (fun j => (f_75 j).toInt) (fun j => (f_80 j).toInt) (fun j => (f_81 j).toInt) (ia).toNatClampNeg from ⟨(by have b0 := u_f_3 (ia).toNatClampNeg; omega), (fun q hq => lb_eq ((u_f_53 _).1 rfl).symm ((lb_or e_v_52 q).mpr (Or.inr (by rw [e_v_50]; exact hq)))), by dsimp only; have b0 := u_f_64 (ia).toNatClampNeg; omega, by dsimp only; have b0 := u_f_75 (ia).toNatClampNeg; omega, (fun p hp => by dsimp only; have b0 := x_78_0 (12 * (ia).toNatClampNeg + p); have b1 := x_78_1 (12 * (ia).toNatClampNeg + p); rw [show 12 * (ia).toNatClampNeg + p - 12 * (ia).toNatClampNeg = p from by omega] at b0 b1; omega)⟩), (show ¬ (fc_known (ia).toNatClampNeg).toInt = 0 → aS fc_lanes (fun j => (fc_shortest j).toInt) (fun j => (fc_longest j).toInt) (fun j => (fc_leastAt j).toInt) (fun j => (fc_greatestAt j).toInt) (ia).toNatClampNeg f_3 f_53 (fun j => (f_64 j).toInt) (fun j => (f_75 j).toInt) (fun j => (f_80 j).toInt) (fun j => (f_81 j).toInt) (ia).toNatClampNeg from (fun _ => ⟨(by have b0 := u_f_3 (ia).toNatClampNeg; omega), (fun q hq => lb_eq ((u_f_53 _).1 rfl).symm ((lb_or e_v_52 q).mpr (Or.inl (by rw [e_v_48]; exact hq)))), by dsimp only; have b0 := u_f_64 (ia).toNatClampNeg; omega, by dsimp only; have b0 := u_f_75 (ia).toNatClampNeg; omega, (fun p hp => by dsimp only; have b0 := x_78_0 (12 * (ia).toNatClampNeg + p); have b1 := x_78_1 (12 * (ia).toNatClampNeg + p); rw [show 12 * (ia).toNatClampNeg + p - 12 * (ia).toNatClampNeg = p from by omega] at b0 b1; omega)⟩)), (show ∀ j : Nat, ¬ j = (ia).toNatClampNeg → eqS fc_known fc_lanes (fun j => (fc_shortest j).toInt) (fun j => (fc_longest j).toInt) (fun j => (fc_leastAt j).toInt) (fun j => (fc_greatestAt j).toInt) f_3 f_53 (fun j => (f_64 j).toInt) (fun j => (f_75 j).toInt) (fun j => (f_80 j).toInt) (fun j => (f_81 j).toInt) j from (fun j hj => ⟨(u_f_3 j).2 hj, (u_f_53 j).2 hj, (u_f_64 j).2 hj, (u_f_75 j).2 hj, fun p hp => by dsimp only; have b0 := x_78_0 (12 * j + p); have b1 := x_78_1 (12 * j + p); omega⟩))⟩, by rw [ht]; exact hP9, va_K.moved hW.alike hK, hD9⟩, hS.F ht⟩) hS.2.2 dX0_addArray_230
        · -- no
          have k_82 : v_79.toInt < (12 : Int32).toInt := ci_nge c_82
          refine lv_iload_n hx hb dX0_addArray_128 rfl (lv_at hl 3 rfl) ?_
          refine lv_bipush (v := 12) hx hb dX0_addArray_129 (by decide) ?_
          refine sf_imul (w := ia.toInt) (z := 12) hx hb dX0_addArray_131 rfl (by decide) ⟨by omega, by omega⟩ (fun v_83 q_v_83 => ?_)
          refine lv_iload hx hb dX0_addArray_132 (lv_at hl 0 rfl) ?_
          refine sf_iadd hx hb dX0_addArray_134 ⟨by omega, by omega⟩ (fun v_84 q_v_84 => ?_)
          refine lv_istore (lv' := [(6, .int v_84), (5, .int v_79), (4, .int v_1), (0, .ref fh), (1, .int ia), (2, .ref fh), (3, .int ja)]) hx hb dX0_addArray_135 hl (by decide) rfl (fun ls1 hl1 => ?_)
          replace hl := hl1; clear hl1
          refine lv_iload_n hx hb dX0_addArray_137 rfl (lv_at hl 6 rfl) ?_
          refine lv_bipush (v := 12) hx hb dX0_addArray_138 (by decide) ?_
          refine sf_imul (w := ja.toInt) (z := 12) hx hb dX0_addArray_140 rfl (by decide) ⟨by omega, by omega⟩ (fun v_85 q_v_85 => ?_)
          refine lv_iload hx hb dX0_addArray_141 (lv_at hl 1 rfl) ?_
          refine sf_iadd hx hb dX0_addArray_143 ⟨by omega, by omega⟩ (fun v_86 q_v_86 => ?_)
          refine lv_istore (lv' := [(7, .int v_86), (6, .int v_84), (5, .int v_79), (4, .int v_1), (0, .ref fh), (1, .int ia), (2, .ref fh), (3, .int ja)]) hx hb dX0_addArray_144 hl (by decide) rfl (fun ls1 hl1 => ?_)
          replace hl := hl1; clear hl1
          have ni_87 := nn_cl (z := v_84) (by omega)
          have ni_88 := nn_cl (z := v_86) (by omega)
          refine lv_aload_n hx hb dX0_addArray_146 rfl (lv_at hl 4 rfl) ?_
          refine va_get (D := (dC, dI)) (ci := 0) (v := .ref fa_leastAt) (C := RX0) (T := TX0) (N := 11) hx hb hts inv_X0_addArray_X0 hown hK hP 0 rfl rfl 9 (by decide) (hts (.fieldLink RX0 42 "ArraySegments$Facts" "leastAt" "[I") (List.mem_of_getElem? (i := 5) rfl)) (fun _ h9 => h9) rfl dX0_addArray_147 ?_
          refine lv_iload hx hb dX0_addArray_150 (lv_at hl 1 rfl) ?_
          refine lv_iload hx hb dX0_addArray_152 (lv_at hl 3 rfl) ?_
          refine lv_if_eq (tgt := 177) hx hb dX0_addArray_154 (by decide) (fun c_89 => ?_) (fun c_89 => ?_)
          · -- yes
            have k_89 : v_1.toInt = (0 : Int32).toInt := ci_eq c_89
            exfalso; omega
          · -- no
            have k_89 : ¬ v_1.toInt = (0 : Int32).toInt := ci_ne c_89
            refine lv_aload_n hx hb dX0_addArray_157 rfl (lv_at hl 4 rfl) ?_
            refine va_get (D := (dC, dI)) (ci := 0) (v := .ref fa_leastAt) (C := RX0) (T := TX0) (N := 11) hx hb hts inv_X0_addArray_X0 hown hK hP 0 rfl rfl 9 (by decide) (hts (.fieldLink RX0 42 "ArraySegments$Facts" "leastAt" "[I") (List.mem_of_getElem? (i := 5) rfl)) (fun _ h9 => h9) rfl dX0_addArray_158 ?_
            refine lv_iload hx hb dX0_addArray_161 (lv_at hl 1 rfl) ?_
            refine sf_iald kT hx hb hK hP 5 0 rfl rfl (fun _ => trivial) (vp_in_iff.mpr ⟨by omega, by omega⟩) dX0_addArray_163 (fun v_90 q_v_90 e_v_90 => ?_)
            have et_v_90 : v_90.toInt = (f_80 (v_84).toNatClampNeg).toInt := by rw [e_v_90]
            have ni_91 := nn_cl (z := v_84) (by omega)
            have ir_v_90 := i32r v_90
            refine lv_aload_n hx hb dX0_addArray_164 rfl (lv_at hl 6 rfl) ?_
            refine va_get (D := (dC, dI)) (ci := 0) (v := .ref fa_leastAt) (C := RX0) (T := TX0) (N := 11) hx hb hts inv_X0_addArray_X0 hown hK hP 0 rfl rfl 9 (by decide) (hts (.fieldLink RX0 42 "ArraySegments$Facts" "leastAt" "[I") (List.mem_of_getElem? (i := 5) rfl)) (fun _ h9 => h9) rfl dX0_addArray_165 ?_
            refine lv_iload hx hb dX0_addArray_168 (lv_at hl 0 rfl) ?_
            refine sf_iald kT hx hb hK hP 5 0 rfl rfl (fun _ => trivial) (vp_in_iff.mpr ⟨by omega, by omega⟩) dX0_addArray_170 (fun v_92 q_v_92 e_v_92 => ?_)
            have et_v_92 : v_92.toInt = (f_80 (v_86).toNatClampNeg).toInt := by rw [e_v_92]
            have ni_93 := nn_cl (z := v_86) (by omega)
            have ir_v_92 := i32r v_92
            have ef_v_92 : (v_86).toNatClampNeg = 12 * (ja).toNatClampNeg + ((v_84).toNatClampNeg - 12 * (ia).toNatClampNeg) := by omega
            have eg_v_92 : (fc_leastAt (v_86).toNatClampNeg).toInt = (fc_leastAt (12 * (ja).toNatClampNeg + ((v_84).toNatClampNeg - 12 * (ia).toNatClampNeg))).toInt := by rw [ef_v_92]
            have ir_95 := i32r v_90
            have ir_96 := i32r v_92
            refine sf_mmin hx hb (by rw [hml]; exact hl.1.symm) hown (hts (.methodLink RX0 62 Lib.Math.min.name) (List.mem_of_getElem? (i := 7) rfl)) (hts (.static Lib.Math.min.name) (List.mem_of_getElem? (i := 8) rfl)) (hts (.initialized "java/lang/Math") (List.mem_of_getElem? (i := 9) rfl)) (hts (.code Lib.Math.min.name Lib.Math.min.code 2 (some .int)) (List.mem_of_getElem? (i := 10) rfl)) (Nat.le_of_ble_eq_true rfl) (Nat.le_of_ble_eq_true rfl) (Nat.le_of_ble_eq_true rfl) (Nat.le_of_ble_eq_true rfl) dX0_addArray_171 (fun v_94 q_v_94 => ?_)
            refine lv_goto (tgt := 184) hx hb dX0_addArray_174 (by decide) ?_
            have ni_99 := nn_cl (z := v_84) (by omega)
            refine sf_iastU kT hx hb hK hP hD hS 5 0 rfl rfl (fun _ => trivial) trivial (vp_in_iff.mpr ⟨by omega, by omega⟩) dX0_addArray_184 (fun f_97 h_f_97 u_f_97 H_98 locs_98 hP1 hD1 hS1 => ?_)
            replace hP : va_P (dC, dI) vwCl [(fh, .inr (0, [.int f_isReached, f_least, f_greatest, f_sites, f_maybeNull, .ref fa_known, .ref fa_lanes, .ref fa_shortest, .ref fa_longest, .ref fa_leastAt, .ref fa_greatestAt])), (fa_known, .inl (cZ, 40, .inl f_3)), (fa_lanes, .inl (cI, 40, .inl f_53)), (fa_shortest, .inl (cI, 40, .inl f_64)), (fa_longest, .inl (cI, 40, .inl f_75)), (fa_leastAt, .inl (cI, 480, .inl f_97)), (fa_greatestAt, .inl (cI, 480, .inl f_81))] H_98 := hP1
            replace hD : va_D A [(fh, .inr (0, [.int f_isReached, f_least, f_greatest, f_sites, f_maybeNull, .ref fa_known, .ref fa_lanes, .ref fa_shortest, .ref fa_longest, .ref fa_leastAt, .ref fa_greatestAt])), (fa_known, .inl (cZ, 40, .inl f_3)), (fa_lanes, .inl (cI, 40, .inl f_53)), (fa_shortest, .inl (cI, 40, .inl f_64)), (fa_longest, .inl (cI, 40, .inl f_75)), (fa_leastAt, .inl (cI, 480, .inl f_97)), (fa_greatestAt, .inl (cI, 480, .inl f_81))] := hD1
            replace hS := hS1
            clear hP1 hD1 hS1
            refine lv_aload_n hx hb dX0_addArray_185 rfl (lv_at hl 4 rfl) ?_
            refine va_get (D := (dC, dI)) (ci := 0) (v := .ref fa_greatestAt) (C := RX0) (T := TX0) (N := 11) hx hb hts inv_X0_addArray_X0 hown hK hP 0 rfl rfl 10 (by decide) (hts (.fieldLink RX0 45 "ArraySegments$Facts" "greatestAt" "[I") (List.mem_of_getElem? (i := 6) rfl)) (fun _ h9 => h9) rfl dX0_addArray_186 ?_
            refine lv_iload hx hb dX0_addArray_189 (lv_at hl 1 rfl) ?_
            refine lv_iload hx hb dX0_addArray_191 (lv_at hl 3 rfl) ?_
            refine lv_if_eq (tgt := 216) hx hb dX0_addArray_193 (by decide) (fun c_100 => ?_) (fun c_100 => ?_)
            · -- yes
              have k_100 : v_1.toInt = (0 : Int32).toInt := ci_eq c_100
              exfalso; omega
            · -- no
              have k_100 : ¬ v_1.toInt = (0 : Int32).toInt := ci_ne c_100
              refine lv_aload_n hx hb dX0_addArray_196 rfl (lv_at hl 4 rfl) ?_
              refine va_get (D := (dC, dI)) (ci := 0) (v := .ref fa_greatestAt) (C := RX0) (T := TX0) (N := 11) hx hb hts inv_X0_addArray_X0 hown hK hP 0 rfl rfl 10 (by decide) (hts (.fieldLink RX0 45 "ArraySegments$Facts" "greatestAt" "[I") (List.mem_of_getElem? (i := 6) rfl)) (fun _ h9 => h9) rfl dX0_addArray_197 ?_
              refine lv_iload hx hb dX0_addArray_200 (lv_at hl 1 rfl) ?_
              refine sf_iald kT hx hb hK hP 6 0 rfl rfl (fun _ => trivial) (vp_in_iff.mpr ⟨by omega, by omega⟩) dX0_addArray_202 (fun v_101 q_v_101 e_v_101 => ?_)
              have et_v_101 : v_101.toInt = (f_81 (v_84).toNatClampNeg).toInt := by rw [e_v_101]
              have ni_102 := nn_cl (z := v_84) (by omega)
              have ir_v_101 := i32r v_101
              refine lv_aload_n hx hb dX0_addArray_203 rfl (lv_at hl 6 rfl) ?_
              refine va_get (D := (dC, dI)) (ci := 0) (v := .ref fa_greatestAt) (C := RX0) (T := TX0) (N := 11) hx hb hts inv_X0_addArray_X0 hown hK hP 0 rfl rfl 10 (by decide) (hts (.fieldLink RX0 45 "ArraySegments$Facts" "greatestAt" "[I") (List.mem_of_getElem? (i := 6) rfl)) (fun _ h9 => h9) rfl dX0_addArray_204 ?_
              refine lv_iload hx hb dX0_addArray_207 (lv_at hl 0 rfl) ?_
              refine sf_iald kT hx hb hK hP 6 0 rfl rfl (fun _ => trivial) (vp_in_iff.mpr ⟨by omega, by omega⟩) dX0_addArray_209 (fun v_103 q_v_103 e_v_103 => ?_)
              have et_v_103 : v_103.toInt = (f_81 (v_86).toNatClampNeg).toInt := by rw [e_v_103]
              have ni_104 := nn_cl (z := v_86) (by omega)
              have ir_v_103 := i32r v_103
              have ef_v_103 : (v_86).toNatClampNeg = 12 * (ja).toNatClampNeg + ((v_84).toNatClampNeg - 12 * (ia).toNatClampNeg) := by omega
              have eg_v_103 : (fc_greatestAt (v_86).toNatClampNeg).toInt = (fc_greatestAt (12 * (ja).toNatClampNeg + ((v_84).toNatClampNeg - 12 * (ia).toNatClampNeg))).toInt := by rw [ef_v_103]
              have ir_106 := i32r v_101
              have ir_107 := i32r v_103
              refine sf_mmax hx hb (by rw [hml]; exact hl.1.symm) hown (hts (.methodLink RX0 68 Lib.Math.max.name) (List.mem_of_getElem? (i := 11) rfl)) (hts (.static Lib.Math.max.name) (List.mem_of_getElem? (i := 12) rfl)) (hts (.initialized "java/lang/Math") (List.mem_of_getElem? (i := 9) rfl)) (hts (.code Lib.Math.max.name Lib.Math.max.code 2 (some .int)) (List.mem_of_getElem? (i := 13) rfl)) (Nat.le_of_ble_eq_true rfl) (Nat.le_of_ble_eq_true rfl) (Nat.le_of_ble_eq_true rfl) (Nat.le_of_ble_eq_true rfl) dX0_addArray_210 (fun v_105 q_v_105 => ?_)
              refine lv_goto (tgt := 223) hx hb dX0_addArray_213 (by decide) ?_
              have ni_110 := nn_cl (z := v_84) (by omega)
              refine sf_iastU kT hx hb hK hP hD hS 6 0 rfl rfl (fun _ => trivial) trivial (vp_in_iff.mpr ⟨by omega, by omega⟩) dX0_addArray_223 (fun f_108 h_f_108 u_f_108 H_109 locs_109 hP1 hD1 hS1 => ?_)
              replace hP : va_P (dC, dI) vwCl [(fh, .inr (0, [.int f_isReached, f_least, f_greatest, f_sites, f_maybeNull, .ref fa_known, .ref fa_lanes, .ref fa_shortest, .ref fa_longest, .ref fa_leastAt, .ref fa_greatestAt])), (fa_known, .inl (cZ, 40, .inl f_3)), (fa_lanes, .inl (cI, 40, .inl f_53)), (fa_shortest, .inl (cI, 40, .inl f_64)), (fa_longest, .inl (cI, 40, .inl f_75)), (fa_leastAt, .inl (cI, 480, .inl f_97)), (fa_greatestAt, .inl (cI, 480, .inl f_108))] H_109 := hP1
              replace hD : va_D A [(fh, .inr (0, [.int f_isReached, f_least, f_greatest, f_sites, f_maybeNull, .ref fa_known, .ref fa_lanes, .ref fa_shortest, .ref fa_longest, .ref fa_leastAt, .ref fa_greatestAt])), (fa_known, .inl (cZ, 40, .inl f_3)), (fa_lanes, .inl (cI, 40, .inl f_53)), (fa_shortest, .inl (cI, 40, .inl f_64)), (fa_longest, .inl (cI, 40, .inl f_75)), (fa_leastAt, .inl (cI, 480, .inl f_97)), (fa_greatestAt, .inl (cI, 480, .inl f_108))] := hD1
              replace hS := hS1
              clear hP1 hD1 hS1
              refine sf_iinc hx hb dX0_addArray_224 hl (k := 2) (x := v_79) (w := 1) rfl (by decide) (by decide) ⟨by omega, by omega⟩ (fun v_111 q_v_111 ls1 hl1 => ?_)
              replace hl : lv_has ls1 8 [(5, .int v_111), (7, .int v_86), (6, .int v_84), (4, .int v_1), (0, .ref fh), (1, .int ia), (2, .ref fh), (3, .int ja)] := hl1
              clear hl1
              refine lv_goto (tgt := 121) hx hb dX0_addArray_227 (by decide) ?_
              exact ih_78 (v_111, f_97, f_108) (show (0 ≤ v_111.toInt ∧ v_111.toInt ≤ 12) ∧ (∀ j : Nat, (12 * ia.toInt ≤ j ∧ (j : Int) < 12 * ia.toInt + v_111.toInt → (f_97 j).toInt ≤ (fc_leastAt (12 * (ja).toNatClampNeg + (j - 12 * (ia).toNatClampNeg))).toInt ∧ (¬ v_1.toInt = 0 → (f_97 j).toInt ≤ (fc_leastAt j).toInt)) ∧ (¬ (12 * ia.toInt ≤ j ∧ (j : Int) < 12 * ia.toInt + v_111.toInt) → (f_97 j).toInt = (fc_leastAt j).toInt)) ∧ (∀ j : Nat, (12 * ia.toInt ≤ j ∧ (j : Int) < 12 * ia.toInt + v_111.toInt → (fc_greatestAt (12 * (ja).toNatClampNeg + (j - 12 * (ia).toNatClampNeg))).toInt ≤ (f_108 j).toInt ∧ (¬ v_1.toInt = 0 → (fc_greatestAt j).toInt ≤ (f_108 j).toInt)) ∧ (¬ (12 * ia.toInt ≤ j ∧ (j : Int) < 12 * ia.toInt + v_111.toInt) → (f_108 j).toInt = (fc_greatestAt j).toInt)) from ⟨⟨by omega, by omega⟩, (fun j => by have b0 := u_f_97 j; have b1 := x_78_0 j; have b5 := x_78_0 (v_86).toNatClampNeg; by_cases hq : j = (v_84).toNatClampNeg; (· subst hq; omega); (· omega)), (fun j => by have b0 := u_f_108 j; have b1 := x_78_1 j; have b5 := x_78_1 (v_86).toNatClampNeg; by_cases hq : j = (v_84).toNatClampNeg; (· subst hq; omega); (· omega))⟩) (by show (12 - v_111.toInt).toNat < (12 - v_79.toInt).toNat; omega) _ _ _ (hP.sub [0, 1, 2, 3, 4, 5, 6] rfl) (hD.sub [0, 1, 2, 3, 4, 5, 6] (by decide) rfl) hS (lv_sub hl [0, 3, 4, 5, 6, 7] rfl)
