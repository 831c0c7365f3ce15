def v_X2_placeProblem : List Cond := .code yX2_placeProblem cX2_placeProblem 4 (some .int) :: ([.fieldLink RX2 29 "ArraySegments$Machine" "lanes" "[I", .fieldLink RX2 32 "ArraySegments$Machine" "lengths" "[I"] ++ (wsX20))
theorem inv_X2_placeProblem_X2 : ∀ w ∈ wsX20, w ∈ v_X2_placeProblem := fun _ h => List.mem_cons_of_mem _ (List.mem_append_right _ (h))
set_option maxRecDepth 20000 in
theorem gd_X2_placeProblem : gdL v_X2_placeProblem := gdC (gdW (by decide +kernel)) (gdA (gdW (by decide +kernel)) gd_wsX20)
abbrev sw_X2_placeProblem (cI cJ cZ : ClassId) (mh : Nat) (m_hasRun : Int32) (m_thrown : Int32) (m_thrownAt : Int32) (m_values : Value) (m_meant : Value) (ma_lanes : Nat) (ma_lengths : Nat) (m_cells : Value) (m_state : Int64) (mc_lanes : Nat → Int32) (mc_lengths : Nat → Int32) (arra : Int32) (la : Int32) (ata : Int32) : va_W := [(mh, .inr (2, [.int m_hasRun, .int m_thrown, .int m_thrownAt, m_values, m_meant, .ref ma_lanes, .ref ma_lengths, m_cells, .long m_state])), (ma_lanes, .inl (cI, 40, .inl mc_lanes)), (ma_lengths, .inl (cI, 40, .inl mc_lengths))]
set_option maxHeartbeats 8000000 in
set_option maxRecDepth 100000 in
theorem s_X2_placeProblem (l : Launch) (dC : Nat → ClassId) (dI : Nat → Nat → Nat) (cI cJ cZ : ClassId) (mh : Nat) (m_hasRun : Int32) (m_thrown : Int32) (m_thrownAt : Int32) (m_values : Value) (m_meant : Value) (ma_lanes : Nat) (ma_lengths : Nat) (m_cells : Value) (m_state : Int64) (mc_lanes : Nat → Int32) (mc_lengths : Nat → Int32) (arra : Int32) (la : Int32) (ata : Int32) (sz : Nat) (q_m_hasRun : kZ m_hasRun) (h_mc_lanes : ∀ j : Nat, kL3 (mc_lanes j)) (h_mc_lengths : ∀ j : Nat, kR012 (mc_lengths j)) (hy_arra : -1 ≤ arra.toInt ∧ arra.toInt ≤ 39) : Met l yX2_placeProblem v_X2_placeProblem ({ frames := 0, cells := 0, slots := 0, locals := 0 }) (va_Pc [.ref mh, .int arra, .int la, .int ata] (cPre dC dI cI cJ cZ sz (sw_X2_placeProblem cI cJ cZ mh m_hasRun m_thrown m_thrownAt m_values m_meant ma_lanes ma_lengths m_cells m_state mc_lanes mc_lengths arra la ata))) (va_Qi (fun (r : Int32) (u : Unit) => ((r.toInt = 0 ∧ plN mc_lanes mc_lengths arra la ata) ∨ (¬ r.toInt = 0 ∧ plT mc_lanes mc_lengths arra la ata r))) (fun (u : Unit) => cPost dC dI cI cJ cZ (va_A (sw_X2_placeProblem cI cJ cZ mh m_hasRun m_thrown m_thrownAt m_values m_meant ma_lanes ma_lengths m_cells m_state mc_lanes mc_lengths arra la ata) sz) [(mh, .inr (2, [.int m_hasRun, .int m_thrown, .int m_thrownAt, m_values, m_meant, .ref ma_lanes, .ref ma_lengths, m_cells, .long m_state])), (ma_lanes, .inl (cI, 40, .inl mc_lanes)), (ma_lengths, .inl (cI, 40, .inl mc_lengths))]) (va_A (sw_X2_placeProblem cI cJ cZ mh m_hasRun m_thrown m_thrownAt m_values m_meant ma_lanes ma_lengths m_cells m_state mc_lanes mc_lengths arra la ata) sz)) 0 0 (va_A (sw_X2_placeProblem cI cJ cZ mh m_hasRun m_thrown m_thrownAt m_values m_meant ma_lanes ma_lengths m_cells m_state mc_lanes mc_lengths arra la ata) sz) := by
  refine Met.ofW (cc := cX2_placeProblem) (maxL := 4) (ret := (some .int)) (by decide) rfl ?_
  intro p e s m args below meth c s₁ B hml hv
  obtain ⟨rfl, hsz, hP, hK, hD0, hN⟩ := hv
  have hx := B.exec
  have hb := B.bytes
  have hr := B.returns
  have hts := atoms_spec (ws := v_X2_placeProblem) B.pre
  have hown : s.vm.findClass RX2 = some m.cls := findClass_of_methodNamed B.named
  have hlocks := B.notSynchronized
  subst hsz
  have hD := hD0.self (sz := s.heap.size)
  generalize hAe : va_A (sw_X2_placeProblem cI cJ cZ mh m_hasRun m_thrown m_thrownAt m_values m_meant ma_lanes ma_lengths m_cells m_state mc_lanes mc_lengths arra la ata) s.heap.size = A at hD ⊢
  have hA : ∀ q : Nat, s.heap.size ≤ q → A q := fun q h => by rw [← hAe]; exact Or.inr h
  clear hAe hD0
  have hS : va_S A s.heap s.heap [] := va_S.rf
  replace hP : va_P (dC, dI) vwCl [(mh, .inr (2, [.int m_hasRun, .int m_thrown, .int m_thrownAt, m_values, m_meant, .ref ma_lanes, .ref ma_lengths, m_cells, .long m_state])), (ma_lanes, .inl (cI, 40, .inl mc_lanes)), (ma_lengths, .inl (cI, 40, .inl mc_lengths))] s.heap := hP
  replace hD : va_D A [(mh, .inr (2, [.int m_hasRun, .int m_thrown, .int m_thrownAt, m_values, m_meant, .ref ma_lanes, .ref ma_lengths, m_cells, .long m_state])), (ma_lanes, .inl (cI, 40, .inl mc_lanes)), (ma_lengths, .inl (cI, 40, .inl mc_lengths))] := hD
  have hl := lv_entry ([.ref mh, .int arra, .int la, .int ata]) (n := 4) (Nat.le_of_ble_eq_true rfl)
  rw [lg_entry_eq]
  generalize (lg_sl ([.ref mh, .int arra, .int la, .int ata]) ++ List.replicate (4 - (lg_sl ([.ref mh, .int arra, .int la, .int ata])).length) Slot.unset).toArray = ls at hl ⊢
  replace hl : lv_has ls 4 [(0, .ref mh), (1, .int arra), (2, .int la), (3, .int ata)] := hl
  have z_0 : (0 : Int32).toInt = 0 := by decide
  have z_1 : (1 : Int32).toInt = 1 := by decide
  have z_2 : (2 : Int32).toInt = 2 := by decide
  have z_5 : (5 : Int32).toInt = 5 := by decide
  refine lv_iload_n hx hb dX2_placeProblem_0 rfl (lv_at hl 1 rfl) ?_
  refine lv_if_ge (tgt := 6) hx hb dX2_placeProblem_1 (by decide) (fun c_1 => ?_) (fun c_1 => ?_)
  · -- yes
    have k_1 : (0 : Int32).toInt ≤ arra.toInt := ci_ge c_1
    refine lv_aload_n hx hb dX2_placeProblem_6 rfl (lv_at hl 0 rfl) ?_
    refine va_get (D := (dC, dI)) (ci := 2) (v := .ref ma_lanes) (C := RX2) (T := TX2) (N := 9) hx hb hts inv_X2_placeProblem_X2 hown hK hP 0 rfl rfl 5 (by decide) (hts (.fieldLink RX2 29 "ArraySegments$Machine" "lanes" "[I") (List.mem_of_getElem? (i := 1) rfl)) (fun _ h9 => h9) rfl dX2_placeProblem_7 ?_
    refine lv_iload_n hx hb dX2_placeProblem_10 rfl (lv_at hl 1 rfl) ?_
    refine sf_iald kL3 hx hb hK hP 1 0 rfl rfl h_mc_lanes (vp_in_iff.mpr ⟨by omega, by omega⟩) dX2_placeProblem_11 (fun v_2 q_v_2 e_v_2 => ?_)
    have et_v_2 : v_2.toInt = (mc_lanes (arra).toNatClampNeg).toInt := by rw [e_v_2]
    have ni_3 := nn_cl (z := arra) (by omega)
    refine lv_iload_n hx hb dX2_placeProblem_12 rfl (lv_at hl 2 rfl) ?_
    refine lv_icmp_eq (tgt := 18) hx hb dX2_placeProblem_13 (by decide) (fun c_4 => ?_) (fun c_4 => ?_)
    · -- yes
      have k_4 : v_2.toInt = la.toInt := ci_eq c_4
      refine lv_iload_n hx hb dX2_placeProblem_18 rfl (lv_at hl 3 rfl) ?_
      refine lv_if_lt (tgt := 32) hx hb dX2_placeProblem_19 (by decide) (fun c_5 => ?_) (fun c_5 => ?_)
      · -- yes
        have k_5 : ata.toInt < (0 : Int32).toInt := ci_lt c_5
        refine lv_iconst (v := 5) hx hb dX2_placeProblem_32 (by decide) ?_
        refine lv_goto (tgt := 37) hx hb dX2_placeProblem_33 (by decide) ?_
        have hP9 := hP.sub (ws' := [(mh, .inr (2, [.int m_hasRun, .int m_thrown, .int m_thrownAt, m_values, m_meant, .ref ma_lanes, .ref ma_lengths, m_cells, .long m_state])), (ma_lanes, .inl (cI, 40, .inl mc_lanes)), (ma_lengths, .inl (cI, 40, .inl mc_lengths))]) [0, 1, 2] rfl
        have hD9 := hD.sub (ws' := [(mh, .inr (2, [.int m_hasRun, .int m_thrown, .int m_thrownAt, m_values, m_meant, .ref ma_lanes, .ref ma_lengths, m_cells, .long m_state])), (ma_lanes, .inl (cI, 40, .inl mc_lanes)), (ma_lengths, .inl (cI, 40, .inl mc_lengths))]) [0, 1, 2] (by decide) rfl
        exact W.iret (v := 5) hx hb hr (fun t ht hW => ⟨⟨5, (), rfl, (show ((5 : Int32).toInt = 0 ∧ plN mc_lanes mc_lengths arra la ata) ∨ (¬ (5 : Int32).toInt = 0 ∧ plT mc_lanes mc_lengths arra la ata (5 : Int32)) from (by omega)), by rw [ht]; exact hP9, va_K.moved hW.alike hK, hD9⟩, hS.F ht⟩) hS.2.2 dX2_placeProblem_37
      · -- no
        have k_5 : (0 : Int32).toInt ≤ ata.toInt := ci_nlt c_5
        refine lv_iload_n hx hb dX2_placeProblem_22 rfl (lv_at hl 3 rfl) ?_
        refine lv_aload_n hx hb dX2_placeProblem_23 rfl (lv_at hl 0 rfl) ?_
        refine va_get (D := (dC, dI)) (ci := 2) (v := .ref ma_lengths) (C := RX2) (T := TX2) (N := 9) hx hb hts inv_X2_placeProblem_X2 hown hK hP 0 rfl rfl 6 (by decide) (hts (.fieldLink RX2 32 "ArraySegments$Machine" "lengths" "[I") (List.mem_of_getElem? (i := 2) rfl)) (fun _ h9 => h9) rfl dX2_placeProblem_24 ?_
        refine lv_iload_n hx hb dX2_placeProblem_27 rfl (lv_at hl 1 rfl) ?_
        refine sf_iald kR012 hx hb hK hP 2 0 rfl rfl h_mc_lengths (vp_in_iff.mpr ⟨by omega, by omega⟩) dX2_placeProblem_28 (fun v_6 q_v_6 e_v_6 => ?_)
        have et_v_6 : v_6.toInt = (mc_lengths (arra).toNatClampNeg).toInt := by rw [e_v_6]
        have ni_7 := nn_cl (z := arra) (by omega)
        refine lv_icmp_lt (tgt := 36) hx hb dX2_placeProblem_29 (by decide) (fun c_8 => ?_) (fun c_8 => ?_)
        · -- yes
          have k_8 : ata.toInt < v_6.toInt := ci_lt c_8
          refine lv_iconst (v := 0) hx hb dX2_placeProblem_36 (by decide) ?_
          have hP9 := hP.sub (ws' := [(mh, .inr (2, [.int m_hasRun, .int m_thrown, .int m_thrownAt, m_values, m_meant, .ref ma_lanes, .ref ma_lengths, m_cells, .long m_state])), (ma_lanes, .inl (cI, 40, .inl mc_lanes)), (ma_lengths, .inl (cI, 40, .inl mc_lengths))]) [0, 1, 2] rfl
          have hD9 := hD.sub (ws' := [(mh, .inr (2, [.int m_hasRun, .int m_thrown, .int m_thrownAt, m_values, m_meant, .ref ma_lanes, .ref ma_lengths, m_cells, .long m_state])), (ma_lanes, .inl (cI, 40, .inl mc_lanes)), (ma_lengths, .inl (cI, 40, .inl mc_lengths))]) [0, 1, 2] (by decide) rfl
          exact W.iret (v := 0) hx hb hr (fun t ht hW => ⟨⟨0, (), rfl, (show ((0 : Int32).toInt = 0 ∧ plN mc_lanes mc_lengths arra la ata) ∨ (¬ (0 : Int32).toInt = 0 ∧ plT mc_lanes mc_lengths arra la ata (0 : Int32)) from (by omega)), by rw [ht]; exact hP9, va_K.moved hW.alike hK, hD9⟩, hS.F ht⟩) hS.2.2 dX2_placeProblem_37
        · -- no
          have k_8 : v_6.toInt ≤ ata.toInt := ci_nlt c_8
          refine lv_iconst (v := 5) hx hb dX2_placeProblem_32 (by decide) ?_
          refine lv_goto (tgt := 37) hx hb dX2_placeProblem_33 (by decide) ?_
          have hP9 := hP.sub (ws' := [(mh, .inr (2, [.int m_hasRun, .int m_thrown, .int m_thrownAt, m_values, m_meant, .ref ma_lanes, .ref ma_lengths, m_cells, .long m_state])), (ma_lanes, .inl (cI, 40, .inl mc_lanes)), (ma_lengths, .inl (cI, 40, .inl mc_lengths))]) [0, 1, 2] rfl
          have hD9 := hD.sub (ws' := [(mh, .inr (2, [.int m_hasRun, .int m_thrown, .int m_thrownAt, m_values, m_meant, .ref ma_lanes, .ref ma_lengths, m_cells, .long m_state])), (ma_lanes, .inl (cI, 40, .inl mc_lanes)), (ma_lengths, .inl (cI, 40, .inl mc_lengths))]) [0, 1, 2] (by decide) rfl
          exact W.iret (v := 5) hx hb hr (fun t ht hW => ⟨⟨5, (), rfl, (show ((5 : Int32).toInt = 0 ∧ plN mc_lanes mc_lengths arra la ata) ∨ (¬ (5 : Int32).toInt = 0 ∧ plT mc_lanes mc_lengths arra la ata (5 : Int32)) from (by omega)), by rw [ht]; exact hP9, va_K.moved hW.alike hK, hD9⟩, hS.F ht⟩) hS.2.2 dX2_placeProblem_37
    · -- no
      have k_4 : ¬ v_2.toInt = la.toInt := ci_ne c_4
      refine lv_iconst (v := 2) hx hb dX2_placeProblem_16 (by decide) ?_
      have hP9 := hP.sub (ws' := [(mh, .inr (2, [.int m_hasRun, .int m_thrown, .int m_thrownAt, m_values, m_meant, .ref ma_lanes, .ref ma_lengths, m_cells, .long m_state])), (ma_lanes, .inl (cI, 40, .inl mc_lanes)), (ma_lengths, .inl (cI, 40, .inl mc_lengths))]) [0, 1, 2] rfl
      have hD9 := hD.sub (ws' := [(mh, .inr (2, [.int m_hasRun, .int m_thrown, .int m_thrownAt, m_values, m_meant, .ref ma_lanes, .ref ma_lengths, m_cells, .long m_state])), (ma_lanes, .inl (cI, 40, .inl mc_lanes)), (ma_lengths, .inl (cI, 40, .inl mc_lengths))]) [0, 1, 2] (by decide) rfl
      exact W.iret (v := 2) hx hb hr (fun t ht hW => ⟨⟨2, (), rfl, (show ((2 : Int32).toInt = 0 ∧ plN mc_lanes mc_lengths arra la ata) ∨ (¬ (2 : Int32).toInt = 0 ∧ plT mc_lanes mc_lengths arra la ata (2 : Int32)) from (by omega)), by rw [ht]; exact hP9, va_K.moved hW.alike hK, hD9⟩, hS.F ht⟩) hS.2.2 dX2_placeProblem_17
  · -- no
    have k_1 : arra.toInt < (0 : Int32).toInt := ci_nge c_1
    refine lv_iconst (v := 1) hx hb dX2_placeProblem_4 (by decide) ?_
    have hP9 := hP.sub (ws' := [(mh, .inr (2, [.int m_hasRun, .int m_thrown, .int m_thrownAt, m_values, m_meant, .ref ma_lanes, .ref ma_lengths, m_cells, .long m_state])), (ma_lanes, .inl (cI, 40, .inl mc_lanes)), (ma_lengths, .inl (cI, 40, .inl mc_lengths))]) [0, 1, 2] rfl
    have hD9 := hD.sub (ws' := [(mh, .inr (2, [.int m_hasRun, .int m_thrown, .int m_thrownAt, m_values, m_meant, .ref ma_lanes, .ref ma_lengths, m_cells, .long m_state])), (ma_lanes, .inl (cI, 40, .inl mc_lanes)), (ma_lengths, .inl (cI, 40, .inl mc_lengths))]) [0, 1, 2] (by decide) rfl
    exact W.iret (v := 1) hx hb hr (fun t ht hW => ⟨⟨1, (), rfl, (show ((1 : Int32).toInt = 0 ∧ plN mc_lanes mc_lengths arra la ata) ∨ (¬ (1 : Int32).toInt = 0 ∧ plT mc_lanes mc_lengths arra la ata (1 : Int32)) from (by omega)), by rw [ht]; exact hP9, va_K.moved hW.alike hK, hD9⟩, hS.F ht⟩) hS.2.2 dX2_placeProblem_5
