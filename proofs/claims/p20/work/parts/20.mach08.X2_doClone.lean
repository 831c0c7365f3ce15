def v_X2_doClone : List Cond := .code yX2_doClone cX2_doClone 4 (some .int) :: ([.fieldLink RX2 29 "ArraySegments$Machine" "lanes" "[I", .fieldLink RX2 32 "ArraySegments$Machine" "lengths" "[I", .fieldLink RX2 35 "ArraySegments$Machine" "cells" "[I", .methodLink RX2 124 arraycopyName, .native arraycopyName, .static arraycopyName, .initialized "java/lang/System", .fieldLink RX2 26 "ArraySegments$Machine" "meant" "[I"] ++ (wsX20))
theorem inv_X2_doClone_X2 : ∀ w ∈ wsX20, w ∈ v_X2_doClone := fun _ h => List.mem_cons_of_mem _ (List.mem_append_right _ (h))
set_option maxRecDepth 20000 in
theorem gd_X2_doClone : gdL v_X2_doClone := gdC (gdW (by decide +kernel)) (gdA (gdW (by decide +kernel)) gd_wsX20)
abbrev sw_X2_doClone (cI cJ cZ : ClassId) (mh : Nat) (m_hasRun : Int32) (m_thrown : Int32) (m_thrownAt : Int32) (m_values : Value) (ma_meant : Nat) (ma_lanes : Nat) (ma_lengths : Nat) (ma_cells : Nat) (m_state : Int64) (mc_meant : Nat → Int32) (mc_lanes : Nat → Int32) (mc_lengths : Nat → Int32) (mc_cells : Nat → Int32) (ia : Int32) (ra : Int32) (fa : Int32) : va_W := [(mh, .inr (2, [.int m_hasRun, .int m_thrown, .int m_thrownAt, m_values, .ref ma_meant, .ref ma_lanes, .ref ma_lengths, .ref ma_cells, .long m_state])), (ma_meant, .inl (cI, 6, .inl mc_meant)), (ma_lanes, .inl (cI, 40, .inl mc_lanes)), (ma_lengths, .inl (cI, 40, .inl mc_lengths)), (ma_cells, .inl (cI, 480, .inl mc_cells))]
set_option maxHeartbeats 8000000 in
set_option maxRecDepth 100000 in
theorem s_X2_doClone (l : Launch) (dC : Nat → ClassId) (dI : Nat → Nat → Nat) (cI cJ cZ : ClassId) (mh : Nat) (m_hasRun : Int32) (m_thrown : Int32) (m_thrownAt : Int32) (m_values : Value) (ma_meant : Nat) (ma_lanes : Nat) (ma_lengths : Nat) (ma_cells : Nat) (m_state : Int64) (mc_meant : Nat → Int32) (mc_lanes : Nat → Int32) (mc_lengths : Nat → Int32) (mc_cells : Nat → Int32) (ia : Int32) (ra : Int32) (fa : Int32) (sz : Nat) (q_m_hasRun : kZ m_hasRun) (h_mc_meant : ∀ j : Nat, kSITE (mc_meant j)) (h_mc_lanes : ∀ j : Nat, kL3 (mc_lanes j)) (h_mc_lengths : ∀ j : Nat, kR012 (mc_lengths j)) (hy_ia : 0 ≤ ia.toInt ∧ ia.toInt ≤ 39) (hy_ra : V6 ra) (hy_fa : -1 ≤ fa.toInt ∧ fa.toInt ≤ 39) : Met l yX2_doClone v_X2_doClone ({ frames := 1, cells := 0, slots := 0, locals := 60 }) (va_Pc [.ref mh, .int ia, .int ra, .int fa] (cPre dC dI cI cJ cZ sz (sw_X2_doClone cI cJ cZ mh m_hasRun m_thrown m_thrownAt m_values ma_meant ma_lanes ma_lengths ma_cells m_state mc_meant mc_lanes mc_lengths mc_cells ia ra fa))) (va_Qi (fun (r : Int32) (u : (Nat → Int32) × (Nat → Int32) × (Nat → Int32) × (Nat → Int32)) => ((r.toInt = 0 ∧ 0 ≤ fa.toInt) ∨ (r.toInt = 1 ∧ fa.toInt < 0)) ∧ (∀ j : Nat, kSITE ((u.1) j)) ∧ (∀ j : Nat, kL3 ((u.2.1) j)) ∧ (∀ j : Nat, kR012 ((u.2.2.1) j)) ∧ (¬ r.toInt = 0 ∨ (upI mc_meant (ra).toNatClampNeg ia.toInt (u.1) ∧ upI mc_lanes (ia).toNatClampNeg (mc_lanes (fa).toNatClampNeg).toInt (u.2.1) ∧ upI mc_lengths (ia).toNatClampNeg (mc_lengths (fa).toNatClampNeg).toInt (u.2.2.1) ∧ (∀ j : Nat, (12 * (ia).toNatClampNeg ≤ j ∧ j < 12 * (ia).toNatClampNeg + 12 → ((u.2.2.2) j).toInt = (mc_cells (12 * (fa).toNatClampNeg + (j - 12 * (ia).toNatClampNeg))).toInt) ∧ (¬ (12 * (ia).toNatClampNeg ≤ j ∧ j < 12 * (ia).toNatClampNeg + 12) → ((u.2.2.2) j).toInt = (mc_cells j).toInt))))) (fun (u : (Nat → Int32) × (Nat → Int32) × (Nat → Int32) × (Nat → Int32)) => cPost dC dI cI cJ cZ (va_A (sw_X2_doClone cI cJ cZ mh m_hasRun m_thrown m_thrownAt m_values ma_meant ma_lanes ma_lengths ma_cells m_state mc_meant mc_lanes mc_lengths mc_cells ia ra fa) sz) [(mh, .inr (2, [.int m_hasRun, .int m_thrown, .int m_thrownAt, m_values, .ref ma_meant, .ref ma_lanes, .ref ma_lengths, .ref ma_cells, .long m_state])), (ma_meant, .inl (cI, 6, .inl (u.1))), (ma_lanes, .inl (cI, 40, .inl (u.2.1))), (ma_lengths, .inl (cI, 40, .inl (u.2.2.1))), (ma_cells, .inl (cI, 480, .inl (u.2.2.2)))]) (va_A (sw_X2_doClone cI cJ cZ mh m_hasRun m_thrown m_thrownAt m_values ma_meant ma_lanes ma_lengths ma_cells m_state mc_meant mc_lanes mc_lengths mc_cells ia ra fa) sz)) 0 0 (va_A (sw_X2_doClone cI cJ cZ mh m_hasRun m_thrown m_thrownAt m_values ma_meant ma_lanes ma_lengths ma_cells m_state mc_meant mc_lanes mc_lengths mc_cells ia ra fa) sz) := by
  refine Met.ofW (cc := cX2_doClone) (maxL := 4) (ret := (some .int)) (by decide) rfl ?_
  intro p e s m args below meth c s₁ B hml hv
  obtain ⟨rfl, hsz, hP, hK, hD0, hN⟩ := hv
  have hx := B.exec
  have hb := B.bytes
  have hr := B.returns
  have hts := atoms_spec (ws := v_X2_doClone) B.pre
  have hown : s.vm.findClass RX2 = some m.cls := findClass_of_methodNamed B.named
  have hlocks := B.notSynchronized
  subst hsz
  have hD := hD0.self (sz := s.heap.size)
  generalize hAe : va_A (sw_X2_doClone cI cJ cZ mh m_hasRun m_thrown m_thrownAt m_values ma_meant ma_lanes ma_lengths ma_cells m_state mc_meant mc_lanes mc_lengths mc_cells ia ra fa) s.heap.size = A at hD ⊢
  have hA : ∀ q : Nat, s.heap.size ≤ q → A q := fun q h => by rw [← hAe]; exact Or.inr h
  clear hAe hD0
  have hS : va_S A s.heap s.heap [] := va_S.rf
  replace hP : va_P (dC, dI) vwCl [(mh, .inr (2, [.int m_hasRun, .int m_thrown, .int m_thrownAt, m_values, .ref ma_meant, .ref ma_lanes, .ref ma_lengths, .ref ma_cells, .long m_state])), (ma_meant, .inl (cI, 6, .inl mc_meant)), (ma_lanes, .inl (cI, 40, .inl mc_lanes)), (ma_lengths, .inl (cI, 40, .inl mc_lengths)), (ma_cells, .inl (cI, 480, .inl mc_cells))] s.heap := hP
  replace hD : va_D A [(mh, .inr (2, [.int m_hasRun, .int m_thrown, .int m_thrownAt, m_values, .ref ma_meant, .ref ma_lanes, .ref ma_lengths, .ref ma_cells, .long m_state])), (ma_meant, .inl (cI, 6, .inl mc_meant)), (ma_lanes, .inl (cI, 40, .inl mc_lanes)), (ma_lengths, .inl (cI, 40, .inl mc_lengths)), (ma_cells, .inl (cI, 480, .inl mc_cells))] := hD
  have hl := lv_entry ([.ref mh, .int ia, .int ra, .int fa]) (n := 4) (Nat.le_of_ble_eq_true rfl)
  rw [lg_entry_eq]
  generalize (lg_sl ([.ref mh, .int ia, .int ra, .int fa]) ++ List.replicate (4 - (lg_sl ([.ref mh, .int ia, .int ra, .int fa])).length) Slot.unset).toArray = ls at hl ⊢
  replace hl : lv_has ls 4 [(0, .ref mh), (1, .int ia), (2, .int ra), (3, .int fa)] := hl
  have z_0 : (0 : Int32).toInt = 0 := by decide
  have z_1 : (1 : Int32).toInt = 1 := by decide
  have z_12 : (12 : Int32).toInt = 12 := by decide
  have nc_ia := nn_cl2 ia
  have nc_fa := nn_cl2 fa
  refine lv_iload_n hx hb dX2_doClone_0 rfl (lv_at hl 3 rfl) ?_
  refine lv_if_ge (tgt := 6) hx hb dX2_doClone_1 (by decide) (fun c_1 => ?_) (fun c_1 => ?_)
  · -- yes
    have k_1 : (0 : Int32).toInt ≤ fa.toInt := ci_ge c_1
    refine lv_aload_n hx hb dX2_doClone_6 rfl (lv_at hl 0 rfl) ?_
    refine va_get (D := (dC, dI)) (ci := 2) (v := .ref ma_lanes) (C := RX2) (T := TX2) (N := 9) hx hb hts inv_X2_doClone_X2 hown hK hP 0 rfl rfl 5 (by decide) (hts (.fieldLink RX2 29 "ArraySegments$Machine" "lanes" "[I") (List.mem_of_getElem? (i := 1) rfl)) (fun _ h9 => h9) rfl dX2_doClone_7 ?_
    refine lv_iload_n hx hb dX2_doClone_10 rfl (lv_at hl 1 rfl) ?_
    refine lv_aload_n hx hb dX2_doClone_11 rfl (lv_at hl 0 rfl) ?_
    refine va_get (D := (dC, dI)) (ci := 2) (v := .ref ma_lanes) (C := RX2) (T := TX2) (N := 9) hx hb hts inv_X2_doClone_X2 hown hK hP 0 rfl rfl 5 (by decide) (hts (.fieldLink RX2 29 "ArraySegments$Machine" "lanes" "[I") (List.mem_of_getElem? (i := 1) rfl)) (fun _ h9 => h9) rfl dX2_doClone_12 ?_
    refine lv_iload_n hx hb dX2_doClone_15 rfl (lv_at hl 3 rfl) ?_
    refine sf_iald kL3 hx hb hK hP 2 0 rfl rfl h_mc_lanes (vp_in_iff.mpr ⟨by omega, by omega⟩) dX2_doClone_16 (fun v_2 q_v_2 e_v_2 => ?_)
    have et_v_2 : v_2.toInt = (mc_lanes (fa).toNatClampNeg).toInt := by rw [e_v_2]
    have ni_3 := nn_cl (z := fa) (by omega)
    have ni_6 := nn_cl (z := ia) (by omega)
    refine sf_iastU kL3 hx hb hK hP hD hS 2 0 rfl rfl h_mc_lanes (show kL3 v_2 from by omega) (vp_in_iff.mpr ⟨by omega, by omega⟩) dX2_doClone_17 (fun f_4 h_f_4 u_f_4 H_5 locs_5 hP1 hD1 hS1 => ?_)
    replace hP : va_P (dC, dI) vwCl [(mh, .inr (2, [.int m_hasRun, .int m_thrown, .int m_thrownAt, m_values, .ref ma_meant, .ref ma_lanes, .ref ma_lengths, .ref ma_cells, .long m_state])), (ma_meant, .inl (cI, 6, .inl mc_meant)), (ma_lanes, .inl (cI, 40, .inl f_4)), (ma_lengths, .inl (cI, 40, .inl mc_lengths)), (ma_cells, .inl (cI, 480, .inl mc_cells))] H_5 := hP1
    replace hD : va_D A [(mh, .inr (2, [.int m_hasRun, .int m_thrown, .int m_thrownAt, m_values, .ref ma_meant, .ref ma_lanes, .ref ma_lengths, .ref ma_cells, .long m_state])), (ma_meant, .inl (cI, 6, .inl mc_meant)), (ma_lanes, .inl (cI, 40, .inl f_4)), (ma_lengths, .inl (cI, 40, .inl mc_lengths)), (ma_cells, .inl (cI, 480, .inl mc_cells))] := hD1
    replace hS := hS1
    clear hP1 hD1 hS1
    refine lv_aload_n hx hb dX2_doClone_18 rfl (lv_at hl 0 rfl) ?_
    refine va_get (D := (dC, dI)) (ci := 2) (v := .ref ma_lengths) (C := RX2) (T := TX2) (N := 9) hx hb hts inv_X2_doClone_X2 hown hK hP 0 rfl rfl 6 (by decide) (hts (.fieldLink RX2 32 "ArraySegments$Machine" "lengths" "[I") (List.mem_of_getElem? (i := 2) rfl)) (fun _ h9 => h9) rfl dX2_doClone_19 ?_
    refine lv_iload_n hx hb dX2_doClone_22 rfl (lv_at hl 1 rfl) ?_
    refine lv_aload_n hx hb dX2_doClone_23 rfl (lv_at hl 0 rfl) ?_
    refine va_get (D := (dC, dI)) (ci := 2) (v := .ref ma_lengths) (C := RX2) (T := TX2) (N := 9) hx hb hts inv_X2_doClone_X2 hown hK hP 0 rfl rfl 6 (by decide) (hts (.fieldLink RX2 32 "ArraySegments$Machine" "lengths" "[I") (List.mem_of_getElem? (i := 2) rfl)) (fun _ h9 => h9) rfl dX2_doClone_24 ?_
    refine lv_iload_n hx hb dX2_doClone_27 rfl (lv_at hl 3 rfl) ?_
    refine sf_iald kR012 hx hb hK hP 3 0 rfl rfl h_mc_lengths (vp_in_iff.mpr ⟨by omega, by omega⟩) dX2_doClone_28 (fun v_7 q_v_7 e_v_7 => ?_)
    have et_v_7 : v_7.toInt = (mc_lengths (fa).toNatClampNeg).toInt := by rw [e_v_7]
    have ni_8 := nn_cl (z := fa) (by omega)
    have ni_11 := nn_cl (z := ia) (by omega)
    refine sf_iastU kR012 hx hb hK hP hD hS 3 0 rfl rfl h_mc_lengths (show kR012 v_7 from by omega) (vp_in_iff.mpr ⟨by omega, by omega⟩) dX2_doClone_29 (fun f_9 h_f_9 u_f_9 H_10 locs_10 hP1 hD1 hS1 => ?_)
    replace hP : va_P (dC, dI) vwCl [(mh, .inr (2, [.int m_hasRun, .int m_thrown, .int m_thrownAt, m_values, .ref ma_meant, .ref ma_lanes, .ref ma_lengths, .ref ma_cells, .long m_state])), (ma_meant, .inl (cI, 6, .inl mc_meant)), (ma_lanes, .inl (cI, 40, .inl f_4)), (ma_lengths, .inl (cI, 40, .inl f_9)), (ma_cells, .inl (cI, 480, .inl mc_cells))] H_10 := hP1
    replace hD : va_D A [(mh, .inr (2, [.int m_hasRun, .int m_thrown, .int m_thrownAt, m_values, .ref ma_meant, .ref ma_lanes, .ref ma_lengths, .ref ma_cells, .long m_state])), (ma_meant, .inl (cI, 6, .inl mc_meant)), (ma_lanes, .inl (cI, 40, .inl f_4)), (ma_lengths, .inl (cI, 40, .inl f_9)), (ma_cells, .inl (cI, 480, .inl mc_cells))] := hD1
    replace hS := hS1
    clear hP1 hD1 hS1
    refine lv_aload_n hx hb dX2_doClone_30 rfl (lv_at hl 0 rfl) ?_
    refine va_get (D := (dC, dI)) (ci := 2) (v := .ref ma_cells) (C := RX2) (T := TX2) (N := 9) hx hb hts inv_X2_doClone_X2 hown hK hP 0 rfl rfl 7 (by decide) (hts (.fieldLink RX2 35 "ArraySegments$Machine" "cells" "[I") (List.mem_of_getElem? (i := 3) rfl)) (fun _ h9 => h9) rfl dX2_doClone_31 ?_
    refine lv_iload_n hx hb dX2_doClone_34 rfl (lv_at hl 3 rfl) ?_
    refine lv_bipush (v := 12) hx hb dX2_doClone_35 (by decide) ?_
    refine sf_imul (w := fa.toInt) (z := 12) hx hb dX2_doClone_37 rfl (by decide) ⟨by omega, by omega⟩ (fun v_12 q_v_12 => ?_)
    refine lv_aload_n hx hb dX2_doClone_38 rfl (lv_at hl 0 rfl) ?_
    refine va_get (D := (dC, dI)) (ci := 2) (v := .ref ma_cells) (C := RX2) (T := TX2) (N := 9) hx hb hts inv_X2_doClone_X2 hown hK hP 0 rfl rfl 7 (by decide) (hts (.fieldLink RX2 35 "ArraySegments$Machine" "cells" "[I") (List.mem_of_getElem? (i := 3) rfl)) (fun _ h9 => h9) rfl dX2_doClone_39 ?_
    refine lv_iload_n hx hb dX2_doClone_42 rfl (lv_at hl 1 rfl) ?_
    refine lv_bipush (v := 12) hx hb dX2_doClone_43 (by decide) ?_
    refine sf_imul (w := ia.toInt) (z := 12) hx hb dX2_doClone_45 rfl (by decide) ⟨by omega, by omega⟩ (fun v_13 q_v_13 => ?_)
    refine lv_bipush (v := 12) hx hb dX2_doClone_46 (by decide) ?_
    refine sf_copyiU kT hx hb (by rw [hml]; exact hl.1.symm) hown (hts (.methodLink RX2 124 arraycopyName) (List.mem_of_getElem? (i := 4) rfl)) (hts (.native arraycopyName) (List.mem_of_getElem? (i := 5) rfl)) (hts (.static arraycopyName) (List.mem_of_getElem? (i := 6) rfl)) (hts (.initialized "java/lang/System") (List.mem_of_getElem? (i := 7) rfl)) hK hP hD hS 4 4 0 0 rfl rfl rfl rfl (fun _ => trivial) (fun _ => trivial) (by omega) (by omega) (by omega) (by omega) (by omega) (Nat.le_of_ble_eq_true rfl) (Nat.le_of_ble_eq_true rfl) dX2_doClone_48 (fun f_14 h_f_14 u_f_14 H_15 locs_15 hP1 hD1 hS1 => ?_)
    have ni_16 := nn_cl (z := v_13) (by omega)
    have ni_17 := nn_cl (z := v_12) (by omega)
    replace hP : va_P (dC, dI) vwCl [(mh, .inr (2, [.int m_hasRun, .int m_thrown, .int m_thrownAt, m_values, .ref ma_meant, .ref ma_lanes, .ref ma_lengths, .ref ma_cells, .long m_state])), (ma_meant, .inl (cI, 6, .inl mc_meant)), (ma_lanes, .inl (cI, 40, .inl f_4)), (ma_lengths, .inl (cI, 40, .inl f_9)), (ma_cells, .inl (cI, 480, .inl f_14))] H_15 := hP1
    replace hD : va_D A [(mh, .inr (2, [.int m_hasRun, .int m_thrown, .int m_thrownAt, m_values, .ref ma_meant, .ref ma_lanes, .ref ma_lengths, .ref ma_cells, .long m_state])), (ma_meant, .inl (cI, 6, .inl mc_meant)), (ma_lanes, .inl (cI, 40, .inl f_4)), (ma_lengths, .inl (cI, 40, .inl f_9)), (ma_cells, .inl (cI, 480, .inl f_14))] := hD1
    replace hS := hS1
    clear hP1 hD1 hS1
    refine lv_aload_n hx hb dX2_doClone_51 rfl (lv_at hl 0 rfl) ?_
    refine va_get (D := (dC, dI)) (ci := 2) (v := .ref ma_meant) (C := RX2) (T := TX2) (N := 9) hx hb hts inv_X2_doClone_X2 hown hK hP 0 rfl rfl 4 (by decide) (hts (.fieldLink RX2 26 "ArraySegments$Machine" "meant" "[I") (List.mem_of_getElem? (i := 8) rfl)) (fun _ h9 => h9) rfl dX2_doClone_52 ?_
    refine lv_iload_n hx hb dX2_doClone_55 rfl (lv_at hl 2 rfl) ?_
    refine lv_iload_n hx hb dX2_doClone_56 rfl (lv_at hl 1 rfl) ?_
    have ni_20 := nn_cl (z := ra) (by omega)
    refine sf_iastU kSITE hx hb hK hP hD hS 1 0 rfl rfl h_mc_meant (show kSITE ia from by omega) (vp_in_iff.mpr ⟨by omega, by omega⟩) dX2_doClone_57 (fun f_18 h_f_18 u_f_18 H_19 locs_19 hP1 hD1 hS1 => ?_)
    replace hP : va_P (dC, dI) vwCl [(mh, .inr (2, [.int m_hasRun, .int m_thrown, .int m_thrownAt, m_values, .ref ma_meant, .ref ma_lanes, .ref ma_lengths, .ref ma_cells, .long m_state])), (ma_meant, .inl (cI, 6, .inl f_18)), (ma_lanes, .inl (cI, 40, .inl f_4)), (ma_lengths, .inl (cI, 40, .inl f_9)), (ma_cells, .inl (cI, 480, .inl f_14))] H_19 := hP1
    replace hD : va_D A [(mh, .inr (2, [.int m_hasRun, .int m_thrown, .int m_thrownAt, m_values, .ref ma_meant, .ref ma_lanes, .ref ma_lengths, .ref ma_cells, .long m_state])), (ma_meant, .inl (cI, 6, .inl f_18)), (ma_lanes, .inl (cI, 40, .inl f_4)), (ma_lengths, .inl (cI, 40, .inl f_9)), (ma_cells, .inl (cI, 480, .inl f_14))] := hD1
    replace hS := hS1
    clear hP1 hD1 hS1
    refine lv_iconst (v := 0) hx hb dX2_doClone_58 (by decide) ?_
    have hP9 := hP.sub (ws' := [(mh, .inr (2, [.int m_hasRun, .int m_thrown, .int m_thrownAt, m_values, .ref ma_meant, .ref ma_lanes, .ref ma_lengths, .ref ma_cells, .long m_state])), (ma_meant, .inl (cI, 6, .inl f_18)), (ma_lanes, .inl (cI, 40, .inl f_4)), (ma_lengths, .inl (cI, 40, .inl f_9)), (ma_cells, .inl (cI, 480, .inl f_14))]) [0, 1, 2, 3, 4] rfl
    have hD9 := hD.sub (ws' := [(mh, .inr (2, [.int m_hasRun, .int m_thrown, .int m_thrownAt, m_values, .ref ma_meant, .ref ma_lanes, .ref ma_lengths, .ref ma_cells, .long m_state])), (ma_meant, .inl (cI, 6, .inl f_18)), (ma_lanes, .inl (cI, 40, .inl f_4)), (ma_lengths, .inl (cI, 40, .inl f_9)), (ma_cells, .inl (cI, 480, .inl f_14))]) [0, 1, 2, 3, 4] (by decide) rfl
    exact W.iret (v := 0) hx hb hr (fun t ht hW => ⟨⟨0, (f_18, f_4, f_9, f_14), rfl, ⟨(show ((0 : Int32).toInt = 0 ∧ 0 ≤ fa.toInt) ∨ ((0 : Int32).toInt = 1 ∧ fa.toInt < 0) from (by omega)), (show ∀ j : Nat, kSITE (f_18 j) from h_f_18), (show ∀ j : Nat, kL3 (f_4 j) from h_f_4), (show ∀ j : Nat, kR012 (f_9 j) from h_f_9), (show ¬ (0 : Int32).toInt = 0 ∨ (upI mc_meant (ra).toNatClampNeg ia.toInt f_18 ∧ upI mc_lanes (ia).toNatClampNeg (mc_lanes (fa).toNatClampNeg).toInt f_4 ∧ upI mc_lengths (ia).toNatClampNeg (mc_lengths (fa).toNatClampNeg).toInt f_9 ∧ (∀ j : Nat, (12 * (ia).toNatClampNeg ≤ j ∧ j < 12 * (ia).toNatClampNeg + 12 → (f_14 j).toInt = (mc_cells (12 * (fa).toNatClampNeg + (j - 12 * (ia).toNatClampNeg))).toInt) ∧ (¬ (12 * (ia).toNatClampNeg ≤ j ∧ j < 12 * (ia).toNatClampNeg + 12) → (f_14 j).toInt = (mc_cells j).toInt))) from (Or.inr ⟨(fun j => by have b0 := u_f_18 j; omega), (fun j => by have b0 := u_f_4 j; omega), (fun j => by have b0 := u_f_9 j; omega), (fun j => by have b0 := u_f_14 j; rw [show (v_12).toNatClampNeg = 12 * (fa).toNatClampNeg from by omega, show (v_13).toNatClampNeg = 12 * (ia).toNatClampNeg from by omega] at b0; omega)⟩))⟩, by rw [ht]; exact hP9, va_K.moved hW.alike hK, hD9⟩, hS.F ht⟩) hS.2.2 dX2_doClone_59
  · -- no
    have k_1 : fa.toInt < (0 : Int32).toInt := ci_nge c_1
    refine lv_iconst (v := 1) hx hb dX2_doClone_4 (by decide) ?_
    have hP9 := hP.sub (ws' := [(mh, .inr (2, [.int m_hasRun, .int m_thrown, .int m_thrownAt, m_values, .ref ma_meant, .ref ma_lanes, .ref ma_lengths, .ref ma_cells, .long m_state])), (ma_meant, .inl (cI, 6, .inl mc_meant)), (ma_lanes, .inl (cI, 40, .inl mc_lanes)), (ma_lengths, .inl (cI, 40, .inl mc_lengths)), (ma_cells, .inl (cI, 480, .inl mc_cells))]) [0, 1, 2, 3, 4] rfl
    have hD9 := hD.sub (ws' := [(mh, .inr (2, [.int m_hasRun, .int m_thrown, .int m_thrownAt, m_values, .ref ma_meant, .ref ma_lanes, .ref ma_lengths, .ref ma_cells, .long m_state])), (ma_meant, .inl (cI, 6, .inl mc_meant)), (ma_lanes, .inl (cI, 40, .inl mc_lanes)), (ma_lengths, .inl (cI, 40, .inl mc_lengths)), (ma_cells, .inl (cI, 480, .inl mc_cells))]) [0, 1, 2, 3, 4] (by decide) rfl
    exact W.iret (v := 1) hx hb hr (fun t ht hW => ⟨⟨1, (mc_meant, mc_lanes, mc_lengths, mc_cells), rfl, ⟨(show ((1 : Int32).toInt = 0 ∧ 0 ≤ fa.toInt) ∨ ((1 : Int32).toInt = 1 ∧ fa.toInt < 0) from (by omega)), (show ∀ j : Nat, kSITE (mc_meant j) from h_mc_meant), (show ∀ j : Nat, kL3 (mc_lanes j) from h_mc_lanes), (show ∀ j : Nat, kR012 (mc_lengths j) from h_mc_lengths), (show ¬ (1 : Int32).toInt = 0 ∨ (upI mc_meant (ra).toNatClampNeg ia.toInt mc_meant ∧ upI mc_lanes (ia).toNatClampNeg (mc_lanes (fa).toNatClampNeg).toInt mc_lanes ∧ upI mc_lengths (ia).toNatClampNeg (mc_lengths (fa).toNatClampNeg).toInt mc_lengths ∧ (∀ j : Nat, (12 * (ia).toNatClampNeg ≤ j ∧ j < 12 * (ia).toNatClampNeg + 12 → (mc_cells j).toInt = (mc_cells (12 * (fa).toNatClampNeg + (j - 12 * (ia).toNatClampNeg))).toInt) ∧ (¬ (12 * (ia).toNatClampNeg ≤ j ∧ j < 12 * (ia).toNatClampNeg + 12) → (mc_cells j).toInt = (mc_cells j).toInt))) from (Or.inl (by decide)))⟩, by rw [ht]; exact hP9, va_K.moved hW.alike hK, hD9⟩, hS.F ht⟩) hS.2.2 dX2_doClone_5
