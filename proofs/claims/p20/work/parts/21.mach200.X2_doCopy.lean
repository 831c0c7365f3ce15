def v_X2_doCopy : List Cond := .code yX2_doCopy cX2_doCopy 6 (some .int) :: ([.fieldLink RX2 29 "ArraySegments$Machine" "lanes" "[I", .fieldLink RX2 32 "ArraySegments$Machine" "lengths" "[I", .fieldLink RX2 35 "ArraySegments$Machine" "cells" "[I", .methodLink RX2 124 arraycopyName, .native arraycopyName, .static arraycopyName, .initialized "java/lang/System"] ++ (wsX20))
theorem inv_X2_doCopy_X2 : ∀ w ∈ wsX20, w ∈ v_X2_doCopy := fun _ h => List.mem_cons_of_mem _ (List.mem_append_right _ (h))
set_option maxRecDepth 20000 in
theorem gd_X2_doCopy : gdL v_X2_doCopy := gdC (gdW (by decide +kernel)) (gdA (gdW (by decide +kernel)) gd_wsX20)
abbrev sw_X2_doCopy (cI cJ cZ : ClassId) (mh : Nat) (m_hasRun : Int32) (m_thrown : Int32) (m_thrownAt : Int32) (m_values : Value) (m_meant : Value) (ma_lanes : Nat) (ma_lengths : Nat) (ma_cells : Nat) (m_state : Int64) (mc_lanes : Nat → Int32) (mc_lengths : Nat → Int32) (mc_cells : Nat → Int32) (fa : Int32) (xa : Int32) (ta : Int32) (ga : Int32) (na : Int32) : va_W := [(mh, .inr (2, [.int m_hasRun, .int m_thrown, .int m_thrownAt, m_values, m_meant, .ref ma_lanes, .ref ma_lengths, .ref ma_cells, .long m_state])), (ma_lanes, .inl (cI, 40, .inl mc_lanes)), (ma_lengths, .inl (cI, 40, .inl mc_lengths)), (ma_cells, .inl (cI, 480, .inl mc_cells))]
set_option maxHeartbeats 8000000 in
set_option maxRecDepth 100000 in
theorem s_X2_doCopy (l : Launch) (dC : Nat → ClassId) (dI : Nat → Nat → Nat) (cI cJ cZ : ClassId) (mh : Nat) (m_hasRun : Int32) (m_thrown : Int32) (m_thrownAt : Int32) (m_values : Value) (m_meant : Value) (ma_lanes : Nat) (ma_lengths : Nat) (ma_cells : Nat) (m_state : Int64) (mc_lanes : Nat → Int32) (mc_lengths : Nat → Int32) (mc_cells : Nat → Int32) (fa : Int32) (xa : Int32) (ta : Int32) (ga : Int32) (na : Int32) (sz : Nat) (q_m_hasRun : kZ m_hasRun) (h_mc_lanes : ∀ j : Nat, kL3 (mc_lanes j)) (h_mc_lengths : ∀ j : Nat, kR012 (mc_lengths j)) (hy_fa : -1 ≤ fa.toInt ∧ fa.toInt ≤ 39) (hy_ta : -1 ≤ ta.toInt ∧ ta.toInt ≤ 39) : Met l yX2_doCopy v_X2_doCopy ({ frames := 1, cells := 0, slots := 0, locals := 60 }) (va_Pc [.ref mh, .int fa, .int xa, .int ta, .int ga, .int na] (cPre dC dI cI cJ cZ sz (sw_X2_doCopy cI cJ cZ mh m_hasRun m_thrown m_thrownAt m_values m_meant ma_lanes ma_lengths ma_cells m_state mc_lanes mc_lengths mc_cells fa xa ta ga na))) (va_Qi (fun (r : Int32) (u : (Nat → Int32)) => ((r.toInt = 0 ∧ 0 ≤ fa.toInt ∧ 0 ≤ ta.toInt ∧ 0 ≤ xa.toInt ∧ 0 ≤ ga.toInt ∧ 0 ≤ na.toInt ∧ xa.toInt + na.toInt ≤ (mc_lengths (fa).toNatClampNeg).toInt ∧ ga.toInt + na.toInt ≤ (mc_lengths (ta).toNatClampNeg).toInt) ∨ (¬ r.toInt = 0 ∧ (((fa.toInt < 0 ∨ ta.toInt < 0) ∧ r.toInt = 1) ∨ (0 ≤ fa.toInt ∧ 0 ≤ ta.toInt ∧ ((¬ (mc_lanes (fa).toNatClampNeg).toInt = (mc_lanes (ta).toNatClampNeg).toInt ∧ r.toInt = 4) ∨ ((xa.toInt < 0 ∨ ga.toInt < 0 ∨ na.toInt < 0 ∨ (mc_lengths (fa).toNatClampNeg).toInt < xa.toInt + na.toInt ∨ (mc_lengths (ta).toNatClampNeg).toInt < ga.toInt + na.toInt) ∧ r.toInt = 5)))))) ∧ (¬ r.toInt = 0 ∨ (∀ j : Nat, (12 * ta.toInt + ga.toInt ≤ j ∧ (j : Int) < 12 * ta.toInt + ga.toInt + na.toInt → ((u) j).toInt = (mc_cells (12 * (fa).toNatClampNeg + (xa).toNatClampNeg + (j - (12 * (ta).toNatClampNeg + (ga).toNatClampNeg)))).toInt) ∧ (¬ (12 * ta.toInt + ga.toInt ≤ j ∧ (j : Int) < 12 * ta.toInt + ga.toInt + na.toInt) → ((u) j).toInt = (mc_cells j).toInt)))) (fun (u : (Nat → Int32)) => cPost dC dI cI cJ cZ (va_A (sw_X2_doCopy cI cJ cZ mh m_hasRun m_thrown m_thrownAt m_values m_meant ma_lanes ma_lengths ma_cells m_state mc_lanes mc_lengths mc_cells fa xa ta ga na) sz) [(mh, .inr (2, [.int m_hasRun, .int m_thrown, .int m_thrownAt, m_values, m_meant, .ref ma_lanes, .ref ma_lengths, .ref ma_cells, .long m_state])), (ma_lanes, .inl (cI, 40, .inl mc_lanes)), (ma_lengths, .inl (cI, 40, .inl mc_lengths)), (ma_cells, .inl (cI, 480, .inl (u)))]) (va_A (sw_X2_doCopy cI cJ cZ mh m_hasRun m_thrown m_thrownAt m_values m_meant ma_lanes ma_lengths ma_cells m_state mc_lanes mc_lengths mc_cells fa xa ta ga na) sz)) 0 0 (va_A (sw_X2_doCopy cI cJ cZ mh m_hasRun m_thrown m_thrownAt m_values m_meant ma_lanes ma_lengths ma_cells m_state mc_lanes mc_lengths mc_cells fa xa ta ga na) sz) := by
  refine Met.ofW (cc := cX2_doCopy) (maxL := 6) (ret := (some .int)) (by decide) rfl ?_
  intro p e s m args below meth c s₁ B hml hv
  obtain ⟨rfl, hsz, hP, hK, hD0, hN⟩ := hv
  have hx := B.exec
  have hb := B.bytes
  have hr := B.returns
  have hts := atoms_spec (ws := v_X2_doCopy) B.pre
  have hown : s.vm.findClass RX2 = some m.cls := findClass_of_methodNamed B.named
  have hlocks := B.notSynchronized
  subst hsz
  have hD := hD0.self (sz := s.heap.size)
  generalize hAe : va_A (sw_X2_doCopy cI cJ cZ mh m_hasRun m_thrown m_thrownAt m_values m_meant ma_lanes ma_lengths ma_cells m_state mc_lanes mc_lengths mc_cells fa xa ta ga na) s.heap.size = A at hD ⊢
  have hA : ∀ q : Nat, s.heap.size ≤ q → A q := fun q h => by rw [← hAe]; exact Or.inr h
  clear hAe hD0
  have hS : va_S A s.heap s.heap [] := va_S.rf
  replace hP : va_P (dC, dI) vwCl [(mh, .inr (2, [.int m_hasRun, .int m_thrown, .int m_thrownAt, m_values, m_meant, .ref ma_lanes, .ref ma_lengths, .ref ma_cells, .long m_state])), (ma_lanes, .inl (cI, 40, .inl mc_lanes)), (ma_lengths, .inl (cI, 40, .inl mc_lengths)), (ma_cells, .inl (cI, 480, .inl mc_cells))] s.heap := hP
  replace hD : va_D A [(mh, .inr (2, [.int m_hasRun, .int m_thrown, .int m_thrownAt, m_values, m_meant, .ref ma_lanes, .ref ma_lengths, .ref ma_cells, .long m_state])), (ma_lanes, .inl (cI, 40, .inl mc_lanes)), (ma_lengths, .inl (cI, 40, .inl mc_lengths)), (ma_cells, .inl (cI, 480, .inl mc_cells))] := hD
  have hl := lv_entry ([.ref mh, .int fa, .int xa, .int ta, .int ga, .int na]) (n := 6) (Nat.le_of_ble_eq_true rfl)
  rw [lg_entry_eq]
  generalize (lg_sl ([.ref mh, .int fa, .int xa, .int ta, .int ga, .int na]) ++ List.replicate (6 - (lg_sl ([.ref mh, .int fa, .int xa, .int ta, .int ga, .int na])).length) Slot.unset).toArray = ls at hl ⊢
  replace hl : lv_has ls 6 [(0, .ref mh), (1, .int fa), (2, .int xa), (3, .int ta), (4, .int ga), (5, .int na)] := hl
  have z_0 : (0 : Int32).toInt = 0 := by decide
  have z_1 : (1 : Int32).toInt = 1 := by decide
  have z_4 : (4 : Int32).toInt = 4 := by decide
  have z_5 : (5 : Int32).toInt = 5 := by decide
  have nc_fa := nn_cl2 fa
  have nc_xa := nn_cl2 xa
  have nc_ta := nn_cl2 ta
  have nc_ga := nn_cl2 ga
  have nc_na := nn_cl2 na
  refine lv_iload_n hx hb dX2_doCopy_0 rfl (lv_at hl 1 rfl) ?_
  refine lv_if_lt (tgt := 8) hx hb dX2_doCopy_1 (by decide) (fun c_1 => ?_) (fun c_1 => ?_)
  · -- yes
    have k_1 : fa.toInt < (0 : Int32).toInt := ci_lt c_1
    refine lv_iconst (v := 1) hx hb dX2_doCopy_8 (by decide) ?_
    have hP9 := hP.sub (ws' := [(mh, .inr (2, [.int m_hasRun, .int m_thrown, .int m_thrownAt, m_values, m_meant, .ref ma_lanes, .ref ma_lengths, .ref ma_cells, .long m_state])), (ma_lanes, .inl (cI, 40, .inl mc_lanes)), (ma_lengths, .inl (cI, 40, .inl mc_lengths)), (ma_cells, .inl (cI, 480, .inl mc_cells))]) [0, 1, 2, 3] rfl
    have hD9 := hD.sub (ws' := [(mh, .inr (2, [.int m_hasRun, .int m_thrown, .int m_thrownAt, m_values, m_meant, .ref ma_lanes, .ref ma_lengths, .ref ma_cells, .long m_state])), (ma_lanes, .inl (cI, 40, .inl mc_lanes)), (ma_lengths, .inl (cI, 40, .inl mc_lengths)), (ma_cells, .inl (cI, 480, .inl mc_cells))]) [0, 1, 2, 3] (by decide) rfl
    exact W.iret (v := 1) hx hb hr (fun t ht hW => ⟨⟨1, mc_cells, rfl, ⟨(show ((1 : Int32).toInt = 0 ∧ 0 ≤ fa.toInt ∧ 0 ≤ ta.toInt ∧ 0 ≤ xa.toInt ∧ 0 ≤ ga.toInt ∧ 0 ≤ na.toInt ∧ xa.toInt + na.toInt ≤ (mc_lengths (fa).toNatClampNeg).toInt ∧ ga.toInt + na.toInt ≤ (mc_lengths (ta).toNatClampNeg).toInt) ∨ (¬ (1 : Int32).toInt = 0 ∧ (((fa.toInt < 0 ∨ ta.toInt < 0) ∧ (1 : Int32).toInt = 1) ∨ (0 ≤ fa.toInt ∧ 0 ≤ ta.toInt ∧ ((¬ (mc_lanes (fa).toNatClampNeg).toInt = (mc_lanes (ta).toNatClampNeg).toInt ∧ (1 : Int32).toInt = 4) ∨ ((xa.toInt < 0 ∨ ga.toInt < 0 ∨ na.toInt < 0 ∨ (mc_lengths (fa).toNatClampNeg).toInt < xa.toInt + na.toInt ∨ (mc_lengths (ta).toNatClampNeg).toInt < ga.toInt + na.toInt) ∧ (1 : Int32).toInt = 5))))) from (by omega)), (show ¬ (1 : Int32).toInt = 0 ∨ (∀ j : Nat, (12 * ta.toInt + ga.toInt ≤ j ∧ (j : Int) < 12 * ta.toInt + ga.toInt + na.toInt → (mc_cells j).toInt = (mc_cells (12 * (fa).toNatClampNeg + (xa).toNatClampNeg + (j - (12 * (ta).toNatClampNeg + (ga).toNatClampNeg)))).toInt) ∧ (¬ (12 * ta.toInt + ga.toInt ≤ j ∧ (j : Int) < 12 * ta.toInt + ga.toInt + na.toInt) → (mc_cells j).toInt = (mc_cells j).toInt)) from (Or.inl (by decide)))⟩, by rw [ht]; exact hP9, va_K.moved hW.alike hK, hD9⟩, hS.F ht⟩) hS.2.2 dX2_doCopy_9
  · -- no
    have k_1 : (0 : Int32).toInt ≤ fa.toInt := ci_nlt c_1
    refine lv_iload_n hx hb dX2_doCopy_4 rfl (lv_at hl 3 rfl) ?_
    refine lv_if_ge (tgt := 10) hx hb dX2_doCopy_5 (by decide) (fun c_2 => ?_) (fun c_2 => ?_)
    · -- yes
      have k_2 : (0 : Int32).toInt ≤ ta.toInt := ci_ge c_2
      refine lv_aload_n hx hb dX2_doCopy_10 rfl (lv_at hl 0 rfl) ?_
      refine va_get (D := (dC, dI)) (ci := 2) (v := .ref ma_lanes) (C := RX2) (T := TX2) (N := 9) hx hb hts inv_X2_doCopy_X2 hown hK hP 0 rfl rfl 5 (by decide) (hts (.fieldLink RX2 29 "ArraySegments$Machine" "lanes" "[I") (List.mem_of_getElem? (i := 1) rfl)) (fun _ h9 => h9) rfl dX2_doCopy_11 ?_
      refine lv_iload_n hx hb dX2_doCopy_14 rfl (lv_at hl 1 rfl) ?_
      refine sf_iald kL3 hx hb hK hP 1 0 rfl rfl h_mc_lanes (vp_in_iff.mpr ⟨by omega, by omega⟩) dX2_doCopy_15 (fun v_3 q_v_3 e_v_3 => ?_)
      have et_v_3 : v_3.toInt = (mc_lanes (fa).toNatClampNeg).toInt := by rw [e_v_3]
      have ni_4 := nn_cl (z := fa) (by omega)
      refine lv_aload_n hx hb dX2_doCopy_16 rfl (lv_at hl 0 rfl) ?_
      refine va_get (D := (dC, dI)) (ci := 2) (v := .ref ma_lanes) (C := RX2) (T := TX2) (N := 9) hx hb hts inv_X2_doCopy_X2 hown hK hP 0 rfl rfl 5 (by decide) (hts (.fieldLink RX2 29 "ArraySegments$Machine" "lanes" "[I") (List.mem_of_getElem? (i := 1) rfl)) (fun _ h9 => h9) rfl dX2_doCopy_17 ?_
      refine lv_iload_n hx hb dX2_doCopy_20 rfl (lv_at hl 3 rfl) ?_
      refine sf_iald kL3 hx hb hK hP 1 0 rfl rfl h_mc_lanes (vp_in_iff.mpr ⟨by omega, by omega⟩) dX2_doCopy_21 (fun v_5 q_v_5 e_v_5 => ?_)
      have et_v_5 : v_5.toInt = (mc_lanes (ta).toNatClampNeg).toInt := by rw [e_v_5]
      have ni_6 := nn_cl (z := ta) (by omega)
      refine lv_icmp_eq (tgt := 27) hx hb dX2_doCopy_22 (by decide) (fun c_7 => ?_) (fun c_7 => ?_)
      · -- yes
        have k_7 : v_3.toInt = v_5.toInt := ci_eq c_7
        refine lv_iload_n hx hb dX2_doCopy_27 rfl (lv_at hl 2 rfl) ?_
        refine lv_if_lt (tgt := 41) hx hb dX2_doCopy_28 (by decide) (fun c_8 => ?_) (fun c_8 => ?_)
        · -- yes
          have k_8 : xa.toInt < (0 : Int32).toInt := ci_lt c_8
          refine lv_iconst (v := 5) hx hb dX2_doCopy_41 (by decide) ?_
          have hP9 := hP.sub (ws' := [(mh, .inr (2, [.int m_hasRun, .int m_thrown, .int m_thrownAt, m_values, m_meant, .ref ma_lanes, .ref ma_lengths, .ref ma_cells, .long m_state])), (ma_lanes, .inl (cI, 40, .inl mc_lanes)), (ma_lengths, .inl (cI, 40, .inl mc_lengths)), (ma_cells, .inl (cI, 480, .inl mc_cells))]) [0, 1, 2, 3] rfl
          have hD9 := hD.sub (ws' := [(mh, .inr (2, [.int m_hasRun, .int m_thrown, .int m_thrownAt, m_values, m_meant, .ref ma_lanes, .ref ma_lengths, .ref ma_cells, .long m_state])), (ma_lanes, .inl (cI, 40, .inl mc_lanes)), (ma_lengths, .inl (cI, 40, .inl mc_lengths)), (ma_cells, .inl (cI, 480, .inl mc_cells))]) [0, 1, 2, 3] (by decide) rfl
          exact W.iret (v := 5) hx hb hr (fun t ht hW => ⟨⟨5, mc_cells, rfl, ⟨(show ((5 : Int32).toInt = 0 ∧ 0 ≤ fa.toInt ∧ 0 ≤ ta.toInt ∧ 0 ≤ xa.toInt ∧ 0 ≤ ga.toInt ∧ 0 ≤ na.toInt ∧ xa.toInt + na.toInt ≤ (mc_lengths (fa).toNatClampNeg).toInt ∧ ga.toInt + na.toInt ≤ (mc_lengths (ta).toNatClampNeg).toInt) ∨ (¬ (5 : Int32).toInt = 0 ∧ (((fa.toInt < 0 ∨ ta.toInt < 0) ∧ (5 : Int32).toInt = 1) ∨ (0 ≤ fa.toInt ∧ 0 ≤ ta.toInt ∧ ((¬ (mc_lanes (fa).toNatClampNeg).toInt = (mc_lanes (ta).toNatClampNeg).toInt ∧ (5 : Int32).toInt = 4) ∨ ((xa.toInt < 0 ∨ ga.toInt < 0 ∨ na.toInt < 0 ∨ (mc_lengths (fa).toNatClampNeg).toInt < xa.toInt + na.toInt ∨ (mc_lengths (ta).toNatClampNeg).toInt < ga.toInt + na.toInt) ∧ (5 : Int32).toInt = 5))))) from (by omega)), (show ¬ (5 : Int32).toInt = 0 ∨ (∀ j : Nat, (12 * ta.toInt + ga.toInt ≤ j ∧ (j : Int) < 12 * ta.toInt + ga.toInt + na.toInt → (mc_cells j).toInt = (mc_cells (12 * (fa).toNatClampNeg + (xa).toNatClampNeg + (j - (12 * (ta).toNatClampNeg + (ga).toNatClampNeg)))).toInt) ∧ (¬ (12 * ta.toInt + ga.toInt ≤ j ∧ (j : Int) < 12 * ta.toInt + ga.toInt + na.toInt) → (mc_cells j).toInt = (mc_cells j).toInt)) from (Or.inl (by decide)))⟩, by rw [ht]; exact hP9, va_K.moved hW.alike hK, hD9⟩, hS.F ht⟩) hS.2.2 dX2_doCopy_42
        · -- no
          have k_8 : (0 : Int32).toInt ≤ xa.toInt := ci_nlt c_8
          refine lv_iload hx hb dX2_doCopy_31 (lv_at hl 4 rfl) ?_
          refine lv_if_lt (tgt := 41) hx hb dX2_doCopy_33 (by decide) (fun c_9 => ?_) (fun c_9 => ?_)
          · -- yes
            have k_9 : ga.toInt < (0 : Int32).toInt := ci_lt c_9
            refine lv_iconst (v := 5) hx hb dX2_doCopy_41 (by decide) ?_
            have hP9 := hP.sub (ws' := [(mh, .inr (2, [.int m_hasRun, .int m_thrown, .int m_thrownAt, m_values, m_meant, .ref ma_lanes, .ref ma_lengths, .ref ma_cells, .long m_state])), (ma_lanes, .inl (cI, 40, .inl mc_lanes)), (ma_lengths, .inl (cI, 40, .inl mc_lengths)), (ma_cells, .inl (cI, 480, .inl mc_cells))]) [0, 1, 2, 3] rfl
            have hD9 := hD.sub (ws' := [(mh, .inr (2, [.int m_hasRun, .int m_thrown, .int m_thrownAt, m_values, m_meant, .ref ma_lanes, .ref ma_lengths, .ref ma_cells, .long m_state])), (ma_lanes, .inl (cI, 40, .inl mc_lanes)), (ma_lengths, .inl (cI, 40, .inl mc_lengths)), (ma_cells, .inl (cI, 480, .inl mc_cells))]) [0, 1, 2, 3] (by decide) rfl
            exact W.iret (v := 5) hx hb hr (fun t ht hW => ⟨⟨5, mc_cells, rfl, ⟨(show ((5 : Int32).toInt = 0 ∧ 0 ≤ fa.toInt ∧ 0 ≤ ta.toInt ∧ 0 ≤ xa.toInt ∧ 0 ≤ ga.toInt ∧ 0 ≤ na.toInt ∧ xa.toInt + na.toInt ≤ (mc_lengths (fa).toNatClampNeg).toInt ∧ ga.toInt + na.toInt ≤ (mc_lengths (ta).toNatClampNeg).toInt) ∨ (¬ (5 : Int32).toInt = 0 ∧ (((fa.toInt < 0 ∨ ta.toInt < 0) ∧ (5 : Int32).toInt = 1) ∨ (0 ≤ fa.toInt ∧ 0 ≤ ta.toInt ∧ ((¬ (mc_lanes (fa).toNatClampNeg).toInt = (mc_lanes (ta).toNatClampNeg).toInt ∧ (5 : Int32).toInt = 4) ∨ ((xa.toInt < 0 ∨ ga.toInt < 0 ∨ na.toInt < 0 ∨ (mc_lengths (fa).toNatClampNeg).toInt < xa.toInt + na.toInt ∨ (mc_lengths (ta).toNatClampNeg).toInt < ga.toInt + na.toInt) ∧ (5 : Int32).toInt = 5))))) from (by omega)), (show ¬ (5 : Int32).toInt = 0 ∨ (∀ j : Nat, (12 * ta.toInt + ga.toInt ≤ j ∧ (j : Int) < 12 * ta.toInt + ga.toInt + na.toInt → (mc_cells j).toInt = (mc_cells (12 * (fa).toNatClampNeg + (xa).toNatClampNeg + (j - (12 * (ta).toNatClampNeg + (ga).toNatClampNeg)))).toInt) ∧ (¬ (12 * ta.toInt + ga.toInt ≤ j ∧ (j : Int) < 12 * ta.toInt + ga.toInt + na.toInt) → (mc_cells j).toInt = (mc_cells j).toInt)) from (Or.inl (by decide)))⟩, by rw [ht]; exact hP9, va_K.moved hW.alike hK, hD9⟩, hS.F ht⟩) hS.2.2 dX2_doCopy_42
          · -- no
            have k_9 : (0 : Int32).toInt ≤ ga.toInt := ci_nlt c_9
            refine lv_iload hx hb dX2_doCopy_36 (lv_at hl 5 rfl) ?_
            refine lv_if_ge (tgt := 43) hx hb dX2_doCopy_38 (by decide) (fun c_10 => ?_) (fun c_10 => ?_)
            · -- yes
              have k_10 : (0 : Int32).toInt ≤ na.toInt := ci_ge c_10
              refine lv_iload_n hx hb dX2_doCopy_43 rfl (lv_at hl 2 rfl) ?_
              refine sf_i2l hx hb dX2_doCopy_44 (fun v_11 q_v_11 => ?_)
              refine lv_iload hx hb dX2_doCopy_45 (lv_at hl 5 rfl) ?_
              refine sf_i2l hx hb dX2_doCopy_47 (fun v_12 q_v_12 => ?_)
              refine sf_ladd hx hb dX2_doCopy_48 ⟨by omega, by omega⟩ (fun v_13 q_v_13 => ?_)
              refine lv_aload_n hx hb dX2_doCopy_49 rfl (lv_at hl 0 rfl) ?_
              refine va_get (D := (dC, dI)) (ci := 2) (v := .ref ma_lengths) (C := RX2) (T := TX2) (N := 9) hx hb hts inv_X2_doCopy_X2 hown hK hP 0 rfl rfl 6 (by decide) (hts (.fieldLink RX2 32 "ArraySegments$Machine" "lengths" "[I") (List.mem_of_getElem? (i := 2) rfl)) (fun _ h9 => h9) rfl dX2_doCopy_50 ?_
              refine lv_iload_n hx hb dX2_doCopy_53 rfl (lv_at hl 1 rfl) ?_
              refine sf_iald kR012 hx hb hK hP 2 0 rfl rfl h_mc_lengths (vp_in_iff.mpr ⟨by omega, by omega⟩) dX2_doCopy_54 (fun v_14 q_v_14 e_v_14 => ?_)
              have et_v_14 : v_14.toInt = (mc_lengths (fa).toNatClampNeg).toInt := by rw [e_v_14]
              have ni_15 := nn_cl (z := fa) (by omega)
              refine sf_i2l hx hb dX2_doCopy_55 (fun v_16 q_v_16 => ?_)
              refine W.lcmp hx hb dX2_doCopy_56 ?_
              refine lv_if_gt (tgt := 78) hx hb dX2_doCopy_57 (by decide) (fun c_17 => ?_) (fun c_17 => ?_)
              · -- yes
                have k_17 : v_16.toInt < v_13.toInt := lc_gt c_17
                refine lv_iconst (v := 5) hx hb dX2_doCopy_78 (by decide) ?_
                have hP9 := hP.sub (ws' := [(mh, .inr (2, [.int m_hasRun, .int m_thrown, .int m_thrownAt, m_values, m_meant, .ref ma_lanes, .ref ma_lengths, .ref ma_cells, .long m_state])), (ma_lanes, .inl (cI, 40, .inl mc_lanes)), (ma_lengths, .inl (cI, 40, .inl mc_lengths)), (ma_cells, .inl (cI, 480, .inl mc_cells))]) [0, 1, 2, 3] rfl
                have hD9 := hD.sub (ws' := [(mh, .inr (2, [.int m_hasRun, .int m_thrown, .int m_thrownAt, m_values, m_meant, .ref ma_lanes, .ref ma_lengths, .ref ma_cells, .long m_state])), (ma_lanes, .inl (cI, 40, .inl mc_lanes)), (ma_lengths, .inl (cI, 40, .inl mc_lengths)), (ma_cells, .inl (cI, 480, .inl mc_cells))]) [0, 1, 2, 3] (by decide) rfl
                exact W.iret (v := 5) hx hb hr (fun t ht hW => ⟨⟨5, mc_cells, rfl, ⟨(show ((5 : Int32).toInt = 0 ∧ 0 ≤ fa.toInt ∧ 0 ≤ ta.toInt ∧ 0 ≤ xa.toInt ∧ 0 ≤ ga.toInt ∧ 0 ≤ na.toInt ∧ xa.toInt + na.toInt ≤ (mc_lengths (fa).toNatClampNeg).toInt ∧ ga.toInt + na.toInt ≤ (mc_lengths (ta).toNatClampNeg).toInt) ∨ (¬ (5 : Int32).toInt = 0 ∧ (((fa.toInt < 0 ∨ ta.toInt < 0) ∧ (5 : Int32).toInt = 1) ∨ (0 ≤ fa.toInt ∧ 0 ≤ ta.toInt ∧ ((¬ (mc_lanes (fa).toNatClampNeg).toInt = (mc_lanes (ta).toNatClampNeg).toInt ∧ (5 : Int32).toInt = 4) ∨ ((xa.toInt < 0 ∨ ga.toInt < 0 ∨ na.toInt < 0 ∨ (mc_lengths (fa).toNatClampNeg).toInt < xa.toInt + na.toInt ∨ (mc_lengths (ta).toNatClampNeg).toInt < ga.toInt + na.toInt) ∧ (5 : Int32).toInt = 5))))) from (by omega)), (show ¬ (5 : Int32).toInt = 0 ∨ (∀ j : Nat, (12 * ta.toInt + ga.toInt ≤ j ∧ (j : Int) < 12 * ta.toInt + ga.toInt + na.toInt → (mc_cells j).toInt = (mc_cells (12 * (fa).toNatClampNeg + (xa).toNatClampNeg + (j - (12 * (ta).toNatClampNeg + (ga).toNatClampNeg)))).toInt) ∧ (¬ (12 * ta.toInt + ga.toInt ≤ j ∧ (j : Int) < 12 * ta.toInt + ga.toInt + na.toInt) → (mc_cells j).toInt = (mc_cells j).toInt)) from (Or.inl (by decide)))⟩, by rw [ht]; exact hP9, va_K.moved hW.alike hK, hD9⟩, hS.F ht⟩) hS.2.2 dX2_doCopy_79
              · -- no
                have k_17 : v_13.toInt ≤ v_16.toInt := lc_ngt c_17
                refine lv_iload hx hb dX2_doCopy_60 (lv_at hl 4 rfl) ?_
                refine sf_i2l hx hb dX2_doCopy_62 (fun v_18 q_v_18 => ?_)
                refine lv_iload hx hb dX2_doCopy_63 (lv_at hl 5 rfl) ?_
                refine sf_i2l hx hb dX2_doCopy_65 (fun v_19 q_v_19 => ?_)
                refine sf_ladd hx hb dX2_doCopy_66 ⟨by omega, by omega⟩ (fun v_20 q_v_20 => ?_)
                refine lv_aload_n hx hb dX2_doCopy_67 rfl (lv_at hl 0 rfl) ?_
                refine va_get (D := (dC, dI)) (ci := 2) (v := .ref ma_lengths) (C := RX2) (T := TX2) (N := 9) hx hb hts inv_X2_doCopy_X2 hown hK hP 0 rfl rfl 6 (by decide) (hts (.fieldLink RX2 32 "ArraySegments$Machine" "lengths" "[I") (List.mem_of_getElem? (i := 2) rfl)) (fun _ h9 => h9) rfl dX2_doCopy_68 ?_
                refine lv_iload_n hx hb dX2_doCopy_71 rfl (lv_at hl 3 rfl) ?_
                refine sf_iald kR012 hx hb hK hP 2 0 rfl rfl h_mc_lengths (vp_in_iff.mpr ⟨by omega, by omega⟩) dX2_doCopy_72 (fun v_21 q_v_21 e_v_21 => ?_)
                have et_v_21 : v_21.toInt = (mc_lengths (ta).toNatClampNeg).toInt := by rw [e_v_21]
                have ni_22 := nn_cl (z := ta) (by omega)
                refine sf_i2l hx hb dX2_doCopy_73 (fun v_23 q_v_23 => ?_)
                refine W.lcmp hx hb dX2_doCopy_74 ?_
                refine lv_if_le (tgt := 80) hx hb dX2_doCopy_75 (by decide) (fun c_24 => ?_) (fun c_24 => ?_)
                · -- yes
                  have k_24 : v_20.toInt ≤ v_23.toInt := lc_le c_24
                  refine lv_aload_n hx hb dX2_doCopy_80 rfl (lv_at hl 0 rfl) ?_
                  refine va_get (D := (dC, dI)) (ci := 2) (v := .ref ma_cells) (C := RX2) (T := TX2) (N := 9) hx hb hts inv_X2_doCopy_X2 hown hK hP 0 rfl rfl 7 (by decide) (hts (.fieldLink RX2 35 "ArraySegments$Machine" "cells" "[I") (List.mem_of_getElem? (i := 3) rfl)) (fun _ h9 => h9) rfl dX2_doCopy_81 ?_
                  refine lv_iload_n hx hb dX2_doCopy_84 rfl (lv_at hl 1 rfl) ?_
                  refine lv_bipush (v := 12) hx hb dX2_doCopy_85 (by decide) ?_
                  refine sf_imul (w := fa.toInt) (z := 12) hx hb dX2_doCopy_87 rfl (by decide) ⟨by omega, by omega⟩ (fun v_25 q_v_25 => ?_)
                  refine lv_iload_n hx hb dX2_doCopy_88 rfl (lv_at hl 2 rfl) ?_
                  refine sf_iadd hx hb dX2_doCopy_89 ⟨by omega, by omega⟩ (fun v_26 q_v_26 => ?_)
                  refine lv_aload_n hx hb dX2_doCopy_90 rfl (lv_at hl 0 rfl) ?_
                  refine va_get (D := (dC, dI)) (ci := 2) (v := .ref ma_cells) (C := RX2) (T := TX2) (N := 9) hx hb hts inv_X2_doCopy_X2 hown hK hP 0 rfl rfl 7 (by decide) (hts (.fieldLink RX2 35 "ArraySegments$Machine" "cells" "[I") (List.mem_of_getElem? (i := 3) rfl)) (fun _ h9 => h9) rfl dX2_doCopy_91 ?_
                  refine lv_iload_n hx hb dX2_doCopy_94 rfl (lv_at hl 3 rfl) ?_
                  refine lv_bipush (v := 12) hx hb dX2_doCopy_95 (by decide) ?_
                  refine sf_imul (w := ta.toInt) (z := 12) hx hb dX2_doCopy_97 rfl (by decide) ⟨by omega, by omega⟩ (fun v_27 q_v_27 => ?_)
                  refine lv_iload hx hb dX2_doCopy_98 (lv_at hl 4 rfl) ?_
                  refine sf_iadd hx hb dX2_doCopy_100 ⟨by omega, by omega⟩ (fun v_28 q_v_28 => ?_)
                  refine lv_iload hx hb dX2_doCopy_101 (lv_at hl 5 rfl) ?_
                  refine sf_copyiU kT hx hb (by rw [hml]; exact hl.1.symm) hown (hts (.methodLink RX2 124 arraycopyName) (List.mem_of_getElem? (i := 4) rfl)) (hts (.native arraycopyName) (List.mem_of_getElem? (i := 5) rfl)) (hts (.static arraycopyName) (List.mem_of_getElem? (i := 6) rfl)) (hts (.initialized "java/lang/System") (List.mem_of_getElem? (i := 7) rfl)) hK hP hD hS 3 3 0 0 rfl rfl rfl rfl (fun _ => trivial) (fun _ => trivial) (by omega) (by omega) (by omega) (by omega) (by omega) (Nat.le_of_ble_eq_true rfl) (Nat.le_of_ble_eq_true rfl) dX2_doCopy_103 (fun f_29 h_f_29 u_f_29 H_30 locs_30 hP1 hD1 hS1 => ?_)
                  have ni_31 := nn_cl (z := na) (by omega)
                  have ni_32 := nn_cl (z := v_28) (by omega)
                  have ni_33 := nn_cl (z := v_26) (by omega)
                  replace hP : va_P (dC, dI) vwCl [(mh, .inr (2, [.int m_hasRun, .int m_thrown, .int m_thrownAt, m_values, m_meant, .ref ma_lanes, .ref ma_lengths, .ref ma_cells, .long m_state])), (ma_lanes, .inl (cI, 40, .inl mc_lanes)), (ma_lengths, .inl (cI, 40, .inl mc_lengths)), (ma_cells, .inl (cI, 480, .inl f_29))] H_30 := hP1
                  replace hD : va_D A [(mh, .inr (2, [.int m_hasRun, .int m_thrown, .int m_thrownAt, m_values, m_meant, .ref ma_lanes, .ref ma_lengths, .ref ma_cells, .long m_state])), (ma_lanes, .inl (cI, 40, .inl mc_lanes)), (ma_lengths, .inl (cI, 40, .inl mc_lengths)), (ma_cells, .inl (cI, 480, .inl f_29))] := hD1
                  replace hS := hS1
                  clear hP1 hD1 hS1
                  refine lv_iconst (v := 0) hx hb dX2_doCopy_106 (by decide) ?_
                  have hP9 := hP.sub (ws' := [(mh, .inr (2, [.int m_hasRun, .int m_thrown, .int m_thrownAt, m_values, m_meant, .ref ma_lanes, .ref ma_lengths, .ref ma_cells, .long m_state])), (ma_lanes, .inl (cI, 40, .inl mc_lanes)), (ma_lengths, .inl (cI, 40, .inl mc_lengths)), (ma_cells, .inl (cI, 480, .inl f_29))]) [0, 1, 2, 3] rfl
                  have hD9 := hD.sub (ws' := [(mh, .inr (2, [.int m_hasRun, .int m_thrown, .int m_thrownAt, m_values, m_meant, .ref ma_lanes, .ref ma_lengths, .ref ma_cells, .long m_state])), (ma_lanes, .inl (cI, 40, .inl mc_lanes)), (ma_lengths, .inl (cI, 40, .inl mc_lengths)), (ma_cells, .inl (cI, 480, .inl f_29))]) [0, 1, 2, 3] (by decide) rfl
                  exact W.iret (v := 0) hx hb hr (fun t ht hW => ⟨⟨0, f_29, rfl, ⟨(show ((0 : Int32).toInt = 0 ∧ 0 ≤ fa.toInt ∧ 0 ≤ ta.toInt ∧ 0 ≤ xa.toInt ∧ 0 ≤ ga.toInt ∧ 0 ≤ na.toInt ∧ xa.toInt + na.toInt ≤ (mc_lengths (fa).toNatClampNeg).toInt ∧ ga.toInt + na.toInt ≤ (mc_lengths (ta).toNatClampNeg).toInt) ∨ (¬ (0 : Int32).toInt = 0 ∧ (((fa.toInt < 0 ∨ ta.toInt < 0) ∧ (0 : Int32).toInt = 1) ∨ (0 ≤ fa.toInt ∧ 0 ≤ ta.toInt ∧ ((¬ (mc_lanes (fa).toNatClampNeg).toInt = (mc_lanes (ta).toNatClampNeg).toInt ∧ (0 : Int32).toInt = 4) ∨ ((xa.toInt < 0 ∨ ga.toInt < 0 ∨ na.toInt < 0 ∨ (mc_lengths (fa).toNatClampNeg).toInt < xa.toInt + na.toInt ∨ (mc_lengths (ta).toNatClampNeg).toInt < ga.toInt + na.toInt) ∧ (0 : Int32).toInt = 5))))) from (by omega)), (show ¬ (0 : Int32).toInt = 0 ∨ (∀ j : Nat, (12 * ta.toInt + ga.toInt ≤ j ∧ (j : Int) < 12 * ta.toInt + ga.toInt + na.toInt → (f_29 j).toInt = (mc_cells (12 * (fa).toNatClampNeg + (xa).toNatClampNeg + (j - (12 * (ta).toNatClampNeg + (ga).toNatClampNeg)))).toInt) ∧ (¬ (12 * ta.toInt + ga.toInt ≤ j ∧ (j : Int) < 12 * ta.toInt + ga.toInt + na.toInt) → (f_29 j).toInt = (mc_cells j).toInt)) from (Or.inr (fun j => by have b0 := u_f_29 j; rw [show (v_26).toNatClampNeg = 12 * (fa).toNatClampNeg + (xa).toNatClampNeg from by omega, show (v_28).toNatClampNeg = 12 * (ta).toNatClampNeg + (ga).toNatClampNeg from by omega] at b0; omega)))⟩, by rw [ht]; exact hP9, va_K.moved hW.alike hK, hD9⟩, hS.F ht⟩) hS.2.2 dX2_doCopy_107
                · -- no
                  have k_24 : v_23.toInt < v_20.toInt := lc_nle c_24
                  refine lv_iconst (v := 5) hx hb dX2_doCopy_78 (by decide) ?_
                  have hP9 := hP.sub (ws' := [(mh, .inr (2, [.int m_hasRun, .int m_thrown, .int m_thrownAt, m_values, m_meant, .ref ma_lanes, .ref ma_lengths, .ref ma_cells, .long m_state])), (ma_lanes, .inl (cI, 40, .inl mc_lanes)), (ma_lengths, .inl (cI, 40, .inl mc_lengths)), (ma_cells, .inl (cI, 480, .inl mc_cells))]) [0, 1, 2, 3] rfl
                  have hD9 := hD.sub (ws' := [(mh, .inr (2, [.int m_hasRun, .int m_thrown, .int m_thrownAt, m_values, m_meant, .ref ma_lanes, .ref ma_lengths, .ref ma_cells, .long m_state])), (ma_lanes, .inl (cI, 40, .inl mc_lanes)), (ma_lengths, .inl (cI, 40, .inl mc_lengths)), (ma_cells, .inl (cI, 480, .inl mc_cells))]) [0, 1, 2, 3] (by decide) rfl
                  exact W.iret (v := 5) hx hb hr (fun t ht hW => ⟨⟨5, mc_cells, rfl, ⟨(show ((5 : Int32).toInt = 0 ∧ 0 ≤ fa.toInt ∧ 0 ≤ ta.toInt ∧ 0 ≤ xa.toInt ∧ 0 ≤ ga.toInt ∧ 0 ≤ na.toInt ∧ xa.toInt + na.toInt ≤ (mc_lengths (fa).toNatClampNeg).toInt ∧ ga.toInt + na.toInt ≤ (mc_lengths (ta).toNatClampNeg).toInt) ∨ (¬ (5 : Int32).toInt = 0 ∧ (((fa.toInt < 0 ∨ ta.toInt < 0) ∧ (5 : Int32).toInt = 1) ∨ (0 ≤ fa.toInt ∧ 0 ≤ ta.toInt ∧ ((¬ (mc_lanes (fa).toNatClampNeg).toInt = (mc_lanes (ta).toNatClampNeg).toInt ∧ (5 : Int32).toInt = 4) ∨ ((xa.toInt < 0 ∨ ga.toInt < 0 ∨ na.toInt < 0 ∨ (mc_lengths (fa).toNatClampNeg).toInt < xa.toInt + na.toInt ∨ (mc_lengths (ta).toNatClampNeg).toInt < ga.toInt + na.toInt) ∧ (5 : Int32).toInt = 5))))) from (by omega)), (show ¬ (5 : Int32).toInt = 0 ∨ (∀ j : Nat, (12 * ta.toInt + ga.toInt ≤ j ∧ (j : Int) < 12 * ta.toInt + ga.toInt + na.toInt → (mc_cells j).toInt = (mc_cells (12 * (fa).toNatClampNeg + (xa).toNatClampNeg + (j - (12 * (ta).toNatClampNeg + (ga).toNatClampNeg)))).toInt) ∧ (¬ (12 * ta.toInt + ga.toInt ≤ j ∧ (j : Int) < 12 * ta.toInt + ga.toInt + na.toInt) → (mc_cells j).toInt = (mc_cells j).toInt)) from (Or.inl (by decide)))⟩, by rw [ht]; exact hP9, va_K.moved hW.alike hK, hD9⟩, hS.F ht⟩) hS.2.2 dX2_doCopy_79
            · -- no
              have k_10 : na.toInt < (0 : Int32).toInt := ci_nge c_10
              refine lv_iconst (v := 5) hx hb dX2_doCopy_41 (by decide) ?_
              have hP9 := hP.sub (ws' := [(mh, .inr (2, [.int m_hasRun, .int m_thrown, .int m_thrownAt, m_values, m_meant, .ref ma_lanes, .ref ma_lengths, .ref ma_cells, .long m_state])), (ma_lanes, .inl (cI, 40, .inl mc_lanes)), (ma_lengths, .inl (cI, 40, .inl mc_lengths)), (ma_cells, .inl (cI, 480, .inl mc_cells))]) [0, 1, 2, 3] rfl
              have hD9 := hD.sub (ws' := [(mh, .inr (2, [.int m_hasRun, .int m_thrown, .int m_thrownAt, m_values, m_meant, .ref ma_lanes, .ref ma_lengths, .ref ma_cells, .long m_state])), (ma_lanes, .inl (cI, 40, .inl mc_lanes)), (ma_lengths, .inl (cI, 40, .inl mc_lengths)), (ma_cells, .inl (cI, 480, .inl mc_cells))]) [0, 1, 2, 3] (by decide) rfl
              exact W.iret (v := 5) hx hb hr (fun t ht hW => ⟨⟨5, mc_cells, rfl, ⟨(show ((5 : Int32).toInt = 0 ∧ 0 ≤ fa.toInt ∧ 0 ≤ ta.toInt ∧ 0 ≤ xa.toInt ∧ 0 ≤ ga.toInt ∧ 0 ≤ na.toInt ∧ xa.toInt + na.toInt ≤ (mc_lengths (fa).toNatClampNeg).toInt ∧ ga.toInt + na.toInt ≤ (mc_lengths (ta).toNatClampNeg).toInt) ∨ (¬ (5 : Int32).toInt = 0 ∧ (((fa.toInt < 0 ∨ ta.toInt < 0) ∧ (5 : Int32).toInt = 1) ∨ (0 ≤ fa.toInt ∧ 0 ≤ ta.toInt ∧ ((¬ (mc_lanes (fa).toNatClampNeg).toInt = (mc_lanes (ta).toNatClampNeg).toInt ∧ (5 : Int32).toInt = 4) ∨ ((xa.toInt < 0 ∨ ga.toInt < 0 ∨ na.toInt < 0 ∨ (mc_lengths (fa).toNatClampNeg).toInt < xa.toInt + na.toInt ∨ (mc_lengths (ta).toNatClampNeg).toInt < ga.toInt + na.toInt) ∧ (5 : Int32).toInt = 5))))) from (by omega)), (show ¬ (5 : Int32).toInt = 0 ∨ (∀ j : Nat, (12 * ta.toInt + ga.toInt ≤ j ∧ (j : Int) < 12 * ta.toInt + ga.toInt + na.toInt → (mc_cells j).toInt = (mc_cells (12 * (fa).toNatClampNeg + (xa).toNatClampNeg + (j - (12 * (ta).toNatClampNeg + (ga).toNatClampNeg)))).toInt) ∧ (¬ (12 * ta.toInt + ga.toInt ≤ j ∧ (j : Int) < 12 * ta.toInt + ga.toInt + na.toInt) → (mc_cells j).toInt = (mc_cells j).toInt)) from (Or.inl (by decide)))⟩, by rw [ht]; exact hP9, va_K.moved hW.alike hK, hD9⟩, hS.F ht⟩) hS.2.2 dX2_doCopy_42
      · -- no
        have k_7 : ¬ v_3.toInt = v_5.toInt := ci_ne c_7
        refine lv_iconst (v := 4) hx hb dX2_doCopy_25 (by decide) ?_
        have hP9 := hP.sub (ws' := [(mh, .inr (2, [.int m_hasRun, .int m_thrown, .int m_thrownAt, m_values, m_meant, .ref ma_lanes, .ref ma_lengths, .ref ma_cells, .long m_state])), (ma_lanes, .inl (cI, 40, .inl mc_lanes)), (ma_lengths, .inl (cI, 40, .inl mc_lengths)), (ma_cells, .inl (cI, 480, .inl mc_cells))]) [0, 1, 2, 3] rfl
        have hD9 := hD.sub (ws' := [(mh, .inr (2, [.int m_hasRun, .int m_thrown, .int m_thrownAt, m_values, m_meant, .ref ma_lanes, .ref ma_lengths, .ref ma_cells, .long m_state])), (ma_lanes, .inl (cI, 40, .inl mc_lanes)), (ma_lengths, .inl (cI, 40, .inl mc_lengths)), (ma_cells, .inl (cI, 480, .inl mc_cells))]) [0, 1, 2, 3] (by decide) rfl
        exact W.iret (v := 4) hx hb hr (fun t ht hW => ⟨⟨4, mc_cells, rfl, ⟨(show ((4 : Int32).toInt = 0 ∧ 0 ≤ fa.toInt ∧ 0 ≤ ta.toInt ∧ 0 ≤ xa.toInt ∧ 0 ≤ ga.toInt ∧ 0 ≤ na.toInt ∧ xa.toInt + na.toInt ≤ (mc_lengths (fa).toNatClampNeg).toInt ∧ ga.toInt + na.toInt ≤ (mc_lengths (ta).toNatClampNeg).toInt) ∨ (¬ (4 : Int32).toInt = 0 ∧ (((fa.toInt < 0 ∨ ta.toInt < 0) ∧ (4 : Int32).toInt = 1) ∨ (0 ≤ fa.toInt ∧ 0 ≤ ta.toInt ∧ ((¬ (mc_lanes (fa).toNatClampNeg).toInt = (mc_lanes (ta).toNatClampNeg).toInt ∧ (4 : Int32).toInt = 4) ∨ ((xa.toInt < 0 ∨ ga.toInt < 0 ∨ na.toInt < 0 ∨ (mc_lengths (fa).toNatClampNeg).toInt < xa.toInt + na.toInt ∨ (mc_lengths (ta).toNatClampNeg).toInt < ga.toInt + na.toInt) ∧ (4 : Int32).toInt = 5))))) from (by omega)), (show ¬ (4 : Int32).toInt = 0 ∨ (∀ j : Nat, (12 * ta.toInt + ga.toInt ≤ j ∧ (j : Int) < 12 * ta.toInt + ga.toInt + na.toInt → (mc_cells j).toInt = (mc_cells (12 * (fa).toNatClampNeg + (xa).toNatClampNeg + (j - (12 * (ta).toNatClampNeg + (ga).toNatClampNeg)))).toInt) ∧ (¬ (12 * ta.toInt + ga.toInt ≤ j ∧ (j : Int) < 12 * ta.toInt + ga.toInt + na.toInt) → (mc_cells j).toInt = (mc_cells j).toInt)) from (Or.inl (by decide)))⟩, by rw [ht]; exact hP9, va_K.moved hW.alike hK, hD9⟩, hS.F ht⟩) hS.2.2 dX2_doCopy_26
    · -- no
      have k_2 : ta.toInt < (0 : Int32).toInt := ci_nge c_2
      refine lv_iconst (v := 1) hx hb dX2_doCopy_8 (by decide) ?_
      have hP9 := hP.sub (ws' := [(mh, .inr (2, [.int m_hasRun, .int m_thrown, .int m_thrownAt, m_values, m_meant, .ref ma_lanes, .ref ma_lengths, .ref ma_cells, .long m_state])), (ma_lanes, .inl (cI, 40, .inl mc_lanes)), (ma_lengths, .inl (cI, 40, .inl mc_lengths)), (ma_cells, .inl (cI, 480, .inl mc_cells))]) [0, 1, 2, 3] rfl
      have hD9 := hD.sub (ws' := [(mh, .inr (2, [.int m_hasRun, .int m_thrown, .int m_thrownAt, m_values, m_meant, .ref ma_lanes, .ref ma_lengths, .ref ma_cells, .long m_state])), (ma_lanes, .inl (cI, 40, .inl mc_lanes)), (ma_lengths, .inl (cI, 40, .inl mc_lengths)), (ma_cells, .inl (cI, 480, .inl mc_cells))]) [0, 1, 2, 3] (by decide) rfl
      exact W.iret (v := 1) hx hb hr (fun t ht hW => ⟨⟨1, mc_cells, rfl, ⟨(show ((1 : Int32).toInt = 0 ∧ 0 ≤ fa.toInt ∧ 0 ≤ ta.toInt ∧ 0 ≤ xa.toInt ∧ 0 ≤ ga.toInt ∧ 0 ≤ na.toInt ∧ xa.toInt + na.toInt ≤ (mc_lengths (fa).toNatClampNeg).toInt ∧ ga.toInt + na.toInt ≤ (mc_lengths (ta).toNatClampNeg).toInt) ∨ (¬ (1 : Int32).toInt = 0 ∧ (((fa.toInt < 0 ∨ ta.toInt < 0) ∧ (1 : Int32).toInt = 1) ∨ (0 ≤ fa.toInt ∧ 0 ≤ ta.toInt ∧ ((¬ (mc_lanes (fa).toNatClampNeg).toInt = (mc_lanes (ta).toNatClampNeg).toInt ∧ (1 : Int32).toInt = 4) ∨ ((xa.toInt < 0 ∨ ga.toInt < 0 ∨ na.toInt < 0 ∨ (mc_lengths (fa).toNatClampNeg).toInt < xa.toInt + na.toInt ∨ (mc_lengths (ta).toNatClampNeg).toInt < ga.toInt + na.toInt) ∧ (1 : Int32).toInt = 5))))) from (by omega)), (show ¬ (1 : Int32).toInt = 0 ∨ (∀ j : Nat, (12 * ta.toInt + ga.toInt ≤ j ∧ (j : Int) < 12 * ta.toInt + ga.toInt + na.toInt → (mc_cells j).toInt = (mc_cells (12 * (fa).toNatClampNeg + (xa).toNatClampNeg + (j - (12 * (ta).toNatClampNeg + (ga).toNatClampNeg)))).toInt) ∧ (¬ (12 * ta.toInt + ga.toInt ≤ j ∧ (j : Int) < 12 * ta.toInt + ga.toInt + na.toInt) → (mc_cells j).toInt = (mc_cells j).toInt)) from (Or.inl (by decide)))⟩, by rw [ht]; exact hP9, va_K.moved hW.alike hK, hD9⟩, hS.F ht⟩) hS.2.2 dX2_doCopy_9
