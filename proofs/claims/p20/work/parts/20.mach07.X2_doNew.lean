def v_X2_doNew : List Cond := .code yX2_doNew cX2_doNew 6 (some .int) :: ([.fieldLink RX2 29 "ArraySegments$Machine" "lanes" "[I", .fieldLink RX2 32 "ArraySegments$Machine" "lengths" "[I", .fieldLink RX2 35 "ArraySegments$Machine" "cells" "[I", .fieldLink RX2 26 "ArraySegments$Machine" "meant" "[I"] ++ (wsX20))
theorem inv_X2_doNew_X2 : ∀ w ∈ wsX20, w ∈ v_X2_doNew := fun _ h => List.mem_cons_of_mem _ (List.mem_append_right _ (h))
set_option maxRecDepth 20000 in
theorem gd_X2_doNew : gdL v_X2_doNew := gdC (gdW (by decide +kernel)) (gdA (gdW (by decide +kernel)) gd_wsX20)
abbrev sw_X2_doNew (cI cJ cZ : ClassId) (mh : Nat) (m_hasRun : Int32) (m_thrown : Int32) (m_thrownAt : Int32) (m_values : Value) (ma_meant : Nat) (ma_lanes : Nat) (ma_lengths : Nat) (ma_cells : Nat) (m_state : Int64) (mc_meant : Nat → Int32) (mc_lanes : Nat → Int32) (mc_lengths : Nat → Int32) (mc_cells : Nat → Int32) (ia : Int32) (ra : Int32) (la : Int32) (na : Int32) : va_W := [(mh, .inr (2, [.int m_hasRun, .int m_thrown, .int m_thrownAt, m_values, .ref ma_meant, .ref ma_lanes, .ref ma_lengths, .ref ma_cells, .long m_state])), (ma_meant, .inl (cI, 6, .inl mc_meant)), (ma_lanes, .inl (cI, 40, .inl mc_lanes)), (ma_lengths, .inl (cI, 40, .inl mc_lengths)), (ma_cells, .inl (cI, 480, .inl mc_cells))]
set_option maxHeartbeats 8000000 in
set_option maxRecDepth 100000 in
theorem s_X2_doNew (l : Launch) (dC : Nat → ClassId) (dI : Nat → Nat → Nat) (cI cJ cZ : ClassId) (mh : Nat) (m_hasRun : Int32) (m_thrown : Int32) (m_thrownAt : Int32) (m_values : Value) (ma_meant : Nat) (ma_lanes : Nat) (ma_lengths : Nat) (ma_cells : Nat) (m_state : Int64) (mc_meant : Nat → Int32) (mc_lanes : Nat → Int32) (mc_lengths : Nat → Int32) (mc_cells : Nat → Int32) (ia : Int32) (ra : Int32) (la : Int32) (na : Int32) (sz : Nat) (q_m_hasRun : kZ m_hasRun) (h_mc_meant : ∀ j : Nat, kSITE (mc_meant j)) (h_mc_lanes : ∀ j : Nat, kL3 (mc_lanes j)) (h_mc_lengths : ∀ j : Nat, kR012 (mc_lengths j)) (hy_ia : 0 ≤ ia.toInt ∧ ia.toInt ≤ 39) (hy_ra : V6 ra) (hy_la : V3 la) : Met l yX2_doNew v_X2_doNew ({ frames := 0, cells := 0, slots := 0, locals := 0 }) (va_Pc [.ref mh, .int ia, .int ra, .int la, .int na] (cPre dC dI cI cJ cZ sz (sw_X2_doNew cI cJ cZ mh m_hasRun m_thrown m_thrownAt m_values ma_meant ma_lanes ma_lengths ma_cells m_state mc_meant mc_lanes mc_lengths mc_cells ia ra la na))) (va_Qi (fun (r : Int32) (u : (Nat → Int32) × (Nat → Int32) × (Nat → Int32) × (Nat → Int32)) => ((r.toInt = 0 ∧ 0 ≤ na.toInt ∧ na.toInt ≤ 12) ∨ (r.toInt = 3 ∧ na.toInt < 0) ∨ (r.toInt = 7 ∧ 12 < na.toInt)) ∧ (∀ j : Nat, kSITE ((u.1) j)) ∧ (∀ j : Nat, kL3 ((u.2.1) j)) ∧ (∀ j : Nat, kR012 ((u.2.2.1) j)) ∧ (¬ r.toInt = 0 ∨ (upI mc_meant (ra).toNatClampNeg ia.toInt (u.1) ∧ upI mc_lanes (ia).toNatClampNeg la.toInt (u.2.1) ∧ upI mc_lengths (ia).toNatClampNeg na.toInt (u.2.2.1) ∧ (∀ j : Nat, (12 * (ia).toNatClampNeg ≤ j ∧ j < 12 * (ia).toNatClampNeg + 12 → ((u.2.2.2) j).toInt = 0) ∧ (¬ (12 * (ia).toNatClampNeg ≤ j ∧ j < 12 * (ia).toNatClampNeg + 12) → ((u.2.2.2) j).toInt = (mc_cells j).toInt))))) (fun (u : (Nat → Int32) × (Nat → Int32) × (Nat → Int32) × (Nat → Int32)) => cPost dC dI cI cJ cZ (va_A (sw_X2_doNew cI cJ cZ mh m_hasRun m_thrown m_thrownAt m_values ma_meant ma_lanes ma_lengths ma_cells m_state mc_meant mc_lanes mc_lengths mc_cells ia ra la na) sz) [(mh, .inr (2, [.int m_hasRun, .int m_thrown, .int m_thrownAt, m_values, .ref ma_meant, .ref ma_lanes, .ref ma_lengths, .ref ma_cells, .long m_state])), (ma_meant, .inl (cI, 6, .inl (u.1))), (ma_lanes, .inl (cI, 40, .inl (u.2.1))), (ma_lengths, .inl (cI, 40, .inl (u.2.2.1))), (ma_cells, .inl (cI, 480, .inl (u.2.2.2)))]) (va_A (sw_X2_doNew cI cJ cZ mh m_hasRun m_thrown m_thrownAt m_values ma_meant ma_lanes ma_lengths ma_cells m_state mc_meant mc_lanes mc_lengths mc_cells ia ra la na) sz)) 0 0 (va_A (sw_X2_doNew cI cJ cZ mh m_hasRun m_thrown m_thrownAt m_values ma_meant ma_lanes ma_lengths ma_cells m_state mc_meant mc_lanes mc_lengths mc_cells ia ra la na) sz) := by
  refine Met.ofW (cc := cX2_doNew) (maxL := 6) (ret := (some .int)) (by decide) rfl ?_
  intro p e s m args below meth c s₁ B hml hv
  obtain ⟨rfl, hsz, hP, hK, hD0, hN⟩ := hv
  have hx := B.exec
  have hb := B.bytes
  have hr := B.returns
  have hts := atoms_spec (ws := v_X2_doNew) B.pre
  have hown : s.vm.findClass RX2 = some m.cls := findClass_of_methodNamed B.named
  have hlocks := B.notSynchronized
  subst hsz
  have hD := hD0.self (sz := s.heap.size)
  generalize hAe : va_A (sw_X2_doNew cI cJ cZ mh m_hasRun m_thrown m_thrownAt m_values ma_meant ma_lanes ma_lengths ma_cells m_state mc_meant mc_lanes mc_lengths mc_cells ia ra la na) s.heap.size = A at hD ⊢
  have hA : ∀ q : Nat, s.heap.size ≤ q → A q := fun q h => by rw [← hAe]; exact Or.inr h
  clear hAe hD0
  have hS : va_S A s.heap s.heap [] := va_S.rf
  replace hP : va_P (dC, dI) vwCl [(mh, .inr (2, [.int m_hasRun, .int m_thrown, .int m_thrownAt, m_values, .ref ma_meant, .ref ma_lanes, .ref ma_lengths, .ref ma_cells, .long m_state])), (ma_meant, .inl (cI, 6, .inl mc_meant)), (ma_lanes, .inl (cI, 40, .inl mc_lanes)), (ma_lengths, .inl (cI, 40, .inl mc_lengths)), (ma_cells, .inl (cI, 480, .inl mc_cells))] s.heap := hP
  replace hD : va_D A [(mh, .inr (2, [.int m_hasRun, .int m_thrown, .int m_thrownAt, m_values, .ref ma_meant, .ref ma_lanes, .ref ma_lengths, .ref ma_cells, .long m_state])), (ma_meant, .inl (cI, 6, .inl mc_meant)), (ma_lanes, .inl (cI, 40, .inl mc_lanes)), (ma_lengths, .inl (cI, 40, .inl mc_lengths)), (ma_cells, .inl (cI, 480, .inl mc_cells))] := hD
  have hl := lv_entry ([.ref mh, .int ia, .int ra, .int la, .int na]) (n := 6) (Nat.le_of_ble_eq_true rfl)
  rw [lg_entry_eq]
  generalize (lg_sl ([.ref mh, .int ia, .int ra, .int la, .int na]) ++ List.replicate (6 - (lg_sl ([.ref mh, .int ia, .int ra, .int la, .int na])).length) Slot.unset).toArray = ls at hl ⊢
  replace hl : lv_has ls 6 [(0, .ref mh), (1, .int ia), (2, .int ra), (3, .int la), (4, .int na)] := hl
  have z_0 : (0 : Int32).toInt = 0 := by decide
  have z_1 : (1 : Int32).toInt = 1 := by decide
  have z_3 : (3 : Int32).toInt = 3 := by decide
  have z_7 : (7 : Int32).toInt = 7 := by decide
  have z_12 : (12 : Int32).toInt = 12 := by decide
  have nc_ia := nn_cl2 ia
  refine lv_iload hx hb dX2_doNew_0 (lv_at hl 4 rfl) ?_
  refine lv_if_ge (tgt := 7) hx hb dX2_doNew_2 (by decide) (fun c_1 => ?_) (fun c_1 => ?_)
  · -- yes
    have k_1 : (0 : Int32).toInt ≤ na.toInt := ci_ge c_1
    refine lv_iload hx hb dX2_doNew_7 (lv_at hl 4 rfl) ?_
    refine lv_bipush (v := 12) hx hb dX2_doNew_9 (by decide) ?_
    refine lv_icmp_le (tgt := 17) hx hb dX2_doNew_11 (by decide) (fun c_2 => ?_) (fun c_2 => ?_)
    · -- yes
      have k_2 : na.toInt ≤ (12 : Int32).toInt := ci_le c_2
      refine lv_aload_n hx hb dX2_doNew_17 rfl (lv_at hl 0 rfl) ?_
      refine va_get (D := (dC, dI)) (ci := 2) (v := .ref ma_lanes) (C := RX2) (T := TX2) (N := 9) hx hb hts inv_X2_doNew_X2 hown hK hP 0 rfl rfl 5 (by decide) (hts (.fieldLink RX2 29 "ArraySegments$Machine" "lanes" "[I") (List.mem_of_getElem? (i := 1) rfl)) (fun _ h9 => h9) rfl dX2_doNew_18 ?_
      refine lv_iload_n hx hb dX2_doNew_21 rfl (lv_at hl 1 rfl) ?_
      refine lv_iload_n hx hb dX2_doNew_22 rfl (lv_at hl 3 rfl) ?_
      have ni_5 := nn_cl (z := ia) (by omega)
      refine sf_iastU kL3 hx hb hK hP hD hS 2 0 rfl rfl h_mc_lanes (show kL3 la from by omega) (vp_in_iff.mpr ⟨by omega, by omega⟩) dX2_doNew_23 (fun f_3 h_f_3 u_f_3 H_4 locs_4 hP1 hD1 hS1 => ?_)
      replace hP : va_P (dC, dI) vwCl [(mh, .inr (2, [.int m_hasRun, .int m_thrown, .int m_thrownAt, m_values, .ref ma_meant, .ref ma_lanes, .ref ma_lengths, .ref ma_cells, .long m_state])), (ma_meant, .inl (cI, 6, .inl mc_meant)), (ma_lanes, .inl (cI, 40, .inl f_3)), (ma_lengths, .inl (cI, 40, .inl mc_lengths)), (ma_cells, .inl (cI, 480, .inl mc_cells))] H_4 := hP1
      replace hD : va_D A [(mh, .inr (2, [.int m_hasRun, .int m_thrown, .int m_thrownAt, m_values, .ref ma_meant, .ref ma_lanes, .ref ma_lengths, .ref ma_cells, .long m_state])), (ma_meant, .inl (cI, 6, .inl mc_meant)), (ma_lanes, .inl (cI, 40, .inl f_3)), (ma_lengths, .inl (cI, 40, .inl mc_lengths)), (ma_cells, .inl (cI, 480, .inl mc_cells))] := hD1
      replace hS := hS1
      clear hP1 hD1 hS1
      refine lv_aload_n hx hb dX2_doNew_24 rfl (lv_at hl 0 rfl) ?_
      refine va_get (D := (dC, dI)) (ci := 2) (v := .ref ma_lengths) (C := RX2) (T := TX2) (N := 9) hx hb hts inv_X2_doNew_X2 hown hK hP 0 rfl rfl 6 (by decide) (hts (.fieldLink RX2 32 "ArraySegments$Machine" "lengths" "[I") (List.mem_of_getElem? (i := 2) rfl)) (fun _ h9 => h9) rfl dX2_doNew_25 ?_
      refine lv_iload_n hx hb dX2_doNew_28 rfl (lv_at hl 1 rfl) ?_
      refine lv_iload hx hb dX2_doNew_29 (lv_at hl 4 rfl) ?_
      have ni_8 := nn_cl (z := ia) (by omega)
      refine sf_iastU kR012 hx hb hK hP hD hS 3 0 rfl rfl h_mc_lengths (show kR012 na from by omega) (vp_in_iff.mpr ⟨by omega, by omega⟩) dX2_doNew_31 (fun f_6 h_f_6 u_f_6 H_7 locs_7 hP1 hD1 hS1 => ?_)
      replace hP : va_P (dC, dI) vwCl [(mh, .inr (2, [.int m_hasRun, .int m_thrown, .int m_thrownAt, m_values, .ref ma_meant, .ref ma_lanes, .ref ma_lengths, .ref ma_cells, .long m_state])), (ma_meant, .inl (cI, 6, .inl mc_meant)), (ma_lanes, .inl (cI, 40, .inl f_3)), (ma_lengths, .inl (cI, 40, .inl f_6)), (ma_cells, .inl (cI, 480, .inl mc_cells))] H_7 := hP1
      replace hD : va_D A [(mh, .inr (2, [.int m_hasRun, .int m_thrown, .int m_thrownAt, m_values, .ref ma_meant, .ref ma_lanes, .ref ma_lengths, .ref ma_cells, .long m_state])), (ma_meant, .inl (cI, 6, .inl mc_meant)), (ma_lanes, .inl (cI, 40, .inl f_3)), (ma_lengths, .inl (cI, 40, .inl f_6)), (ma_cells, .inl (cI, 480, .inl mc_cells))] := hD1
      replace hS := hS1
      clear hP1 hD1 hS1
      refine lv_iconst (v := 0) hx hb dX2_doNew_32 (by decide) ?_
      refine lv_istore (lv' := [(5, .int 0), (0, .ref mh), (1, .int ia), (2, .int ra), (3, .int la), (4, .int na)]) hx hb dX2_doNew_33 hl (by decide) rfl (fun ls1 hl1 => ?_)
      replace hl := hl1; clear hl1
      refine my_wloop (S := Int32 × (Nat → Int32)) (fun u => (0 ≤ (u.1).toInt ∧ (u.1).toInt ≤ 12) ∧ (∀ j : Nat, (12 * ia.toInt ≤ j ∧ (j : Int) < 12 * ia.toInt + (u.1).toInt → ((u.2) j).toInt = 0) ∧ (¬ (12 * ia.toInt ≤ j ∧ (j : Int) < 12 * ia.toInt + (u.1).toInt) → ((u.2) j).toInt = (mc_cells j).toInt))) (fun u => (12 - (u.1).toInt).toNat) (fun u => [(mh, .inr (2, [.int m_hasRun, .int m_thrown, .int m_thrownAt, m_values, .ref ma_meant, .ref ma_lanes, .ref ma_lengths, .ref ma_cells, .long m_state])), (ma_meant, .inl (cI, 6, .inl mc_meant)), (ma_lanes, .inl (cI, 40, .inl f_3)), (ma_lengths, .inl (cI, 40, .inl f_6)), (ma_cells, .inl (cI, 480, .inl (u.2)))]) (fun u => [(5, .int (u.1)), (0, .ref mh), (1, .int ia), (2, .int ra), (3, .int la), (4, .int na)]) (H0 := s.heap) (A := A) (D := (dC, dI)) (cl := vwCl) ((0 : Int32), mc_cells) (show (0 ≤ (0 : Int32).toInt ∧ (0 : Int32).toInt ≤ 12) ∧ (∀ j : Nat, (12 * ia.toInt ≤ j ∧ (j : Int) < 12 * ia.toInt + (0 : Int32).toInt → (mc_cells j).toInt = 0) ∧ (¬ (12 * ia.toInt ≤ j ∧ (j : Int) < 12 * ia.toInt + (0 : Int32).toInt) → (mc_cells j).toInt = (mc_cells j).toInt)) from ⟨⟨by omega, by omega⟩, (fun j => by omega)⟩) (by exact hP) (by exact hD) hS (by exact hl) (fun u_9 hu_9 ih_9 H_9 locs_9 ls1 hP1 hD1 hS1 hl1 => ?_)
      obtain ⟨v_10, f_11⟩ := u_9
      replace hu_9 : (0 ≤ v_10.toInt ∧ v_10.toInt ≤ 12) ∧ (∀ j : Nat, (12 * ia.toInt ≤ j ∧ (j : Int) < 12 * ia.toInt + v_10.toInt → (f_11 j).toInt = 0) ∧ (¬ (12 * ia.toInt ≤ j ∧ (j : Int) < 12 * ia.toInt + v_10.toInt) → (f_11 j).toInt = (mc_cells j).toInt)) := hu_9
      obtain ⟨q_v_10, x_9_0⟩ := hu_9
      replace hP : va_P (dC, dI) vwCl [(mh, .inr (2, [.int m_hasRun, .int m_thrown, .int m_thrownAt, m_values, .ref ma_meant, .ref ma_lanes, .ref ma_lengths, .ref ma_cells, .long m_state])), (ma_meant, .inl (cI, 6, .inl mc_meant)), (ma_lanes, .inl (cI, 40, .inl f_3)), (ma_lengths, .inl (cI, 40, .inl f_6)), (ma_cells, .inl (cI, 480, .inl f_11))] H_9 := hP1
      replace hD : va_D A [(mh, .inr (2, [.int m_hasRun, .int m_thrown, .int m_thrownAt, m_values, .ref ma_meant, .ref ma_lanes, .ref ma_lengths, .ref ma_cells, .long m_state])), (ma_meant, .inl (cI, 6, .inl mc_meant)), (ma_lanes, .inl (cI, 40, .inl f_3)), (ma_lengths, .inl (cI, 40, .inl f_6)), (ma_cells, .inl (cI, 480, .inl f_11))] := hD1
      replace hS := hS1
      clear hP1 hD1 hS1
      replace hl : lv_has ls1 6 [(5, .int v_10), (0, .ref mh), (1, .int ia), (2, .int ra), (3, .int la), (4, .int na)] := hl1
      clear hl1
      refine lv_iload hx hb dX2_doNew_35 (lv_at hl 0 rfl) ?_
      refine lv_bipush (v := 12) hx hb dX2_doNew_37 (by decide) ?_
      refine lv_icmp_ge (tgt := 61) hx hb dX2_doNew_39 (by decide) (fun c_12 => ?_) (fun c_12 => ?_)
      · -- yes
        have k_12 : (12 : Int32).toInt ≤ v_10.toInt := ci_ge c_12
        refine lv_aload_n hx hb dX2_doNew_61 rfl (lv_at hl 1 rfl) ?_
        refine va_get (D := (dC, dI)) (ci := 2) (v := .ref ma_meant) (C := RX2) (T := TX2) (N := 9) hx hb hts inv_X2_doNew_X2 hown hK hP 0 rfl rfl 4 (by decide) (hts (.fieldLink RX2 26 "ArraySegments$Machine" "meant" "[I") (List.mem_of_getElem? (i := 4) rfl)) (fun _ h9 => h9) rfl dX2_doNew_62 ?_
        refine lv_iload_n hx hb dX2_doNew_65 rfl (lv_at hl 3 rfl) ?_
        refine lv_iload_n hx hb dX2_doNew_66 rfl (lv_at hl 2 rfl) ?_
        have ni_15 := nn_cl (z := ra) (by omega)
        refine sf_iastU kSITE hx hb hK hP hD hS 1 0 rfl rfl h_mc_meant (show kSITE ia from by omega) (vp_in_iff.mpr ⟨by omega, by omega⟩) dX2_doNew_67 (fun f_13 h_f_13 u_f_13 H_14 locs_14 hP1 hD1 hS1 => ?_)
        replace hP : va_P (dC, dI) vwCl [(mh, .inr (2, [.int m_hasRun, .int m_thrown, .int m_thrownAt, m_values, .ref ma_meant, .ref ma_lanes, .ref ma_lengths, .ref ma_cells, .long m_state])), (ma_meant, .inl (cI, 6, .inl f_13)), (ma_lanes, .inl (cI, 40, .inl f_3)), (ma_lengths, .inl (cI, 40, .inl f_6)), (ma_cells, .inl (cI, 480, .inl f_11))] H_14 := hP1
        replace hD : va_D A [(mh, .inr (2, [.int m_hasRun, .int m_thrown, .int m_thrownAt, m_values, .ref ma_meant, .ref ma_lanes, .ref ma_lengths, .ref ma_cells, .long m_state])), (ma_meant, .inl (cI, 6, .inl f_13)), (ma_lanes, .inl (cI, 40, .inl f_3)), (ma_lengths, .inl (cI, 40, .inl f_6)), (ma_cells, .inl (cI, 480, .inl f_11))] := hD1
        replace hS := hS1
        clear hP1 hD1 hS1
        refine lv_iconst (v := 0) hx hb dX2_doNew_68 (by decide) ?_
        have hP9 := hP.sub (ws' := [(mh, .inr (2, [.int m_hasRun, .int m_thrown, .int m_thrownAt, m_values, .ref ma_meant, .ref ma_lanes, .ref ma_lengths, .ref ma_cells, .long m_state])), (ma_meant, .inl (cI, 6, .inl f_13)), (ma_lanes, .inl (cI, 40, .inl f_3)), (ma_lengths, .inl (cI, 40, .inl f_6)), (ma_cells, .inl (cI, 480, .inl f_11))]) [0, 1, 2, 3, 4] rfl
        have hD9 := hD.sub (ws' := [(mh, .inr (2, [.int m_hasRun, .int m_thrown, .int m_thrownAt, m_values, .ref ma_meant, .ref ma_lanes, .ref ma_lengths, .ref ma_cells, .long m_state])), (ma_meant, .inl (cI, 6, .inl f_13)), (ma_lanes, .inl (cI, 40, .inl f_3)), (ma_lengths, .inl (cI, 40, .inl f_6)), (ma_cells, .inl (cI, 480, .inl f_11))]) [0, 1, 2, 3, 4] (by decide) rfl
        exact W.iret (v := 0) hx hb hr (fun t ht hW => ⟨⟨0, (f_13, f_3, f_6, f_11), rfl, ⟨(show ((0 : Int32).toInt = 0 ∧ 0 ≤ na.toInt ∧ na.toInt ≤ 12) ∨ ((0 : Int32).toInt = 3 ∧ na.toInt < 0) ∨ ((0 : Int32).toInt = 7 ∧ 12 < na.toInt) from (by omega)), (show ∀ j : Nat, kSITE (f_13 j) from h_f_13), (show ∀ j : Nat, kL3 (f_3 j) from h_f_3), (show ∀ j : Nat, kR012 (f_6 j) from h_f_6), (show ¬ (0 : Int32).toInt = 0 ∨ (upI mc_meant (ra).toNatClampNeg ia.toInt f_13 ∧ upI mc_lanes (ia).toNatClampNeg la.toInt f_3 ∧ upI mc_lengths (ia).toNatClampNeg na.toInt f_6 ∧ (∀ j : Nat, (12 * (ia).toNatClampNeg ≤ j ∧ j < 12 * (ia).toNatClampNeg + 12 → (f_11 j).toInt = 0) ∧ (¬ (12 * (ia).toNatClampNeg ≤ j ∧ j < 12 * (ia).toNatClampNeg + 12) → (f_11 j).toInt = (mc_cells j).toInt))) from (Or.inr ⟨(fun j => by have b0 := u_f_13 j; omega), (fun j => by have b0 := u_f_3 j; omega), (fun j => by have b0 := u_f_6 j; omega), (fun j => by have b0 := x_9_0 j; omega)⟩))⟩, by rw [ht]; exact hP9, va_K.moved hW.alike hK, hD9⟩, hS.F ht⟩) hS.2.2 dX2_doNew_69
      · -- no
        have k_12 : v_10.toInt < (12 : Int32).toInt := ci_nge c_12
        refine lv_aload_n hx hb dX2_doNew_42 rfl (lv_at hl 1 rfl) ?_
        refine va_get (D := (dC, dI)) (ci := 2) (v := .ref ma_cells) (C := RX2) (T := TX2) (N := 9) hx hb hts inv_X2_doNew_X2 hown hK hP 0 rfl rfl 7 (by decide) (hts (.fieldLink RX2 35 "ArraySegments$Machine" "cells" "[I") (List.mem_of_getElem? (i := 3) rfl)) (fun _ h9 => h9) rfl dX2_doNew_43 ?_
        refine lv_iload_n hx hb dX2_doNew_46 rfl (lv_at hl 2 rfl) ?_
        refine lv_bipush (v := 12) hx hb dX2_doNew_47 (by decide) ?_
        refine sf_imul (w := ia.toInt) (z := 12) hx hb dX2_doNew_49 rfl (by decide) ⟨by omega, by omega⟩ (fun v_16 q_v_16 => ?_)
        refine lv_iload hx hb dX2_doNew_50 (lv_at hl 0 rfl) ?_
        refine sf_iadd hx hb dX2_doNew_52 ⟨by omega, by omega⟩ (fun v_17 q_v_17 => ?_)
        refine lv_iconst (v := 0) hx hb dX2_doNew_53 (by decide) ?_
        have ni_20 := nn_cl (z := v_17) (by omega)
        refine sf_iastU kT hx hb hK hP hD hS 4 0 rfl rfl (fun _ => trivial) trivial (vp_in_iff.mpr ⟨by omega, by omega⟩) dX2_doNew_54 (fun f_18 h_f_18 u_f_18 H_19 locs_19 hP1 hD1 hS1 => ?_)
        replace hP : va_P (dC, dI) vwCl [(mh, .inr (2, [.int m_hasRun, .int m_thrown, .int m_thrownAt, m_values, .ref ma_meant, .ref ma_lanes, .ref ma_lengths, .ref ma_cells, .long m_state])), (ma_meant, .inl (cI, 6, .inl mc_meant)), (ma_lanes, .inl (cI, 40, .inl f_3)), (ma_lengths, .inl (cI, 40, .inl f_6)), (ma_cells, .inl (cI, 480, .inl f_18))] H_19 := hP1
        replace hD : va_D A [(mh, .inr (2, [.int m_hasRun, .int m_thrown, .int m_thrownAt, m_values, .ref ma_meant, .ref ma_lanes, .ref ma_lengths, .ref ma_cells, .long m_state])), (ma_meant, .inl (cI, 6, .inl mc_meant)), (ma_lanes, .inl (cI, 40, .inl f_3)), (ma_lengths, .inl (cI, 40, .inl f_6)), (ma_cells, .inl (cI, 480, .inl f_18))] := hD1
        replace hS := hS1
        clear hP1 hD1 hS1
        refine sf_iinc hx hb dX2_doNew_55 hl (k := 0) (x := v_10) (w := 1) rfl (by decide) (by decide) ⟨by omega, by omega⟩ (fun v_21 q_v_21 ls1 hl1 => ?_)
        replace hl : lv_has ls1 6 [(5, .int v_21), (0, .ref mh), (1, .int ia), (2, .int ra), (3, .int la), (4, .int na)] := hl1
        clear hl1
        refine lv_goto (tgt := 35) hx hb dX2_doNew_58 (by decide) ?_
        exact ih_9 (v_21, f_18) (show (0 ≤ v_21.toInt ∧ v_21.toInt ≤ 12) ∧ (∀ j : Nat, (12 * ia.toInt ≤ j ∧ (j : Int) < 12 * ia.toInt + v_21.toInt → (f_18 j).toInt = 0) ∧ (¬ (12 * ia.toInt ≤ j ∧ (j : Int) < 12 * ia.toInt + v_21.toInt) → (f_18 j).toInt = (mc_cells j).toInt)) from ⟨⟨by omega, by omega⟩, (fun j => by have b0 := u_f_18 j; have b1 := x_9_0 j; by_cases hq : j = (v_17).toNatClampNeg; (· subst hq; omega); (· omega))⟩) (by show (12 - v_21.toInt).toNat < (12 - v_10.toInt).toNat; omega) _ _ _ (hP.sub [0, 1, 2, 3, 4] rfl) (hD.sub [0, 1, 2, 3, 4] (by decide) rfl) hS (lv_sub hl [0, 1, 2, 3, 4, 5] rfl)
    · -- no
      have k_2 : (12 : Int32).toInt < na.toInt := ci_nle c_2
      refine lv_bipush (v := 7) hx hb dX2_doNew_14 (by decide) ?_
      have hP9 := hP.sub (ws' := [(mh, .inr (2, [.int m_hasRun, .int m_thrown, .int m_thrownAt, m_values, .ref ma_meant, .ref ma_lanes, .ref ma_lengths, .ref ma_cells, .long m_state])), (ma_meant, .inl (cI, 6, .inl mc_meant)), (ma_lanes, .inl (cI, 40, .inl mc_lanes)), (ma_lengths, .inl (cI, 40, .inl mc_lengths)), (ma_cells, .inl (cI, 480, .inl mc_cells))]) [0, 1, 2, 3, 4] rfl
      have hD9 := hD.sub (ws' := [(mh, .inr (2, [.int m_hasRun, .int m_thrown, .int m_thrownAt, m_values, .ref ma_meant, .ref ma_lanes, .ref ma_lengths, .ref ma_cells, .long m_state])), (ma_meant, .inl (cI, 6, .inl mc_meant)), (ma_lanes, .inl (cI, 40, .inl mc_lanes)), (ma_lengths, .inl (cI, 40, .inl mc_lengths)), (ma_cells, .inl (cI, 480, .inl mc_cells))]) [0, 1, 2, 3, 4] (by decide) rfl
      exact W.iret (v := 7) hx hb hr (fun t ht hW => ⟨⟨7, (mc_meant, mc_lanes, mc_lengths, mc_cells), rfl, ⟨(show ((7 : Int32).toInt = 0 ∧ 0 ≤ na.toInt ∧ na.toInt ≤ 12) ∨ ((7 : Int32).toInt = 3 ∧ na.toInt < 0) ∨ ((7 : Int32).toInt = 7 ∧ 12 < na.toInt) from (by omega)), (show ∀ j : Nat, kSITE (mc_meant j) from h_mc_meant), (show ∀ j : Nat, kL3 (mc_lanes j) from h_mc_lanes), (show ∀ j : Nat, kR012 (mc_lengths j) from h_mc_lengths), (show ¬ (7 : Int32).toInt = 0 ∨ (upI mc_meant (ra).toNatClampNeg ia.toInt mc_meant ∧ upI mc_lanes (ia).toNatClampNeg la.toInt mc_lanes ∧ upI mc_lengths (ia).toNatClampNeg na.toInt mc_lengths ∧ (∀ j : Nat, (12 * (ia).toNatClampNeg ≤ j ∧ j < 12 * (ia).toNatClampNeg + 12 → (mc_cells j).toInt = 0) ∧ (¬ (12 * (ia).toNatClampNeg ≤ j ∧ j < 12 * (ia).toNatClampNeg + 12) → (mc_cells j).toInt = (mc_cells j).toInt))) from (Or.inl (by decide)))⟩, by rw [ht]; exact hP9, va_K.moved hW.alike hK, hD9⟩, hS.F ht⟩) hS.2.2 dX2_doNew_16
  · -- no
    have k_1 : na.toInt < (0 : Int32).toInt := ci_nge c_1
    refine lv_iconst (v := 3) hx hb dX2_doNew_5 (by decide) ?_
    have hP9 := hP.sub (ws' := [(mh, .inr (2, [.int m_hasRun, .int m_thrown, .int m_thrownAt, m_values, .ref ma_meant, .ref ma_lanes, .ref ma_lengths, .ref ma_cells, .long m_state])), (ma_meant, .inl (cI, 6, .inl mc_meant)), (ma_lanes, .inl (cI, 40, .inl mc_lanes)), (ma_lengths, .inl (cI, 40, .inl mc_lengths)), (ma_cells, .inl (cI, 480, .inl mc_cells))]) [0, 1, 2, 3, 4] rfl
    have hD9 := hD.sub (ws' := [(mh, .inr (2, [.int m_hasRun, .int m_thrown, .int m_thrownAt, m_values, .ref ma_meant, .ref ma_lanes, .ref ma_lengths, .ref ma_cells, .long m_state])), (ma_meant, .inl (cI, 6, .inl mc_meant)), (ma_lanes, .inl (cI, 40, .inl mc_lanes)), (ma_lengths, .inl (cI, 40, .inl mc_lengths)), (ma_cells, .inl (cI, 480, .inl mc_cells))]) [0, 1, 2, 3, 4] (by decide) rfl
    exact W.iret (v := 3) hx hb hr (fun t ht hW => ⟨⟨3, (mc_meant, mc_lanes, mc_lengths, mc_cells), rfl, ⟨(show ((3 : Int32).toInt = 0 ∧ 0 ≤ na.toInt ∧ na.toInt ≤ 12) ∨ ((3 : Int32).toInt = 3 ∧ na.toInt < 0) ∨ ((3 : Int32).toInt = 7 ∧ 12 < na.toInt) from (by omega)), (show ∀ j : Nat, kSITE (mc_meant j) from h_mc_meant), (show ∀ j : Nat, kL3 (mc_lanes j) from h_mc_lanes), (show ∀ j : Nat, kR012 (mc_lengths j) from h_mc_lengths), (show ¬ (3 : Int32).toInt = 0 ∨ (upI mc_meant (ra).toNatClampNeg ia.toInt mc_meant ∧ upI mc_lanes (ia).toNatClampNeg la.toInt mc_lanes ∧ upI mc_lengths (ia).toNatClampNeg na.toInt mc_lengths ∧ (∀ j : Nat, (12 * (ia).toNatClampNeg ≤ j ∧ j < 12 * (ia).toNatClampNeg + 12 → (mc_cells j).toInt = 0) ∧ (¬ (12 * (ia).toNatClampNeg ≤ j ∧ j < 12 * (ia).toNatClampNeg + 12) → (mc_cells j).toInt = (mc_cells j).toInt))) from (Or.inl (by decide)))⟩, by rw [ht]; exact hP9, va_K.moved hW.alike hK, hD9⟩, hS.F ht⟩) hS.2.2 dX2_doNew_6
