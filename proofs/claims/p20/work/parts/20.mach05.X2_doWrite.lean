def v_X2_doWrite : List Cond := .code yX2_doWrite cX2_doWrite 6 (some .int) :: ([.methodLink RX2 130 yX2_placeProblem, .instanceMethod yX2_placeProblem, .selects RX2 yX2_placeProblem yX2_placeProblem, .initialized RX2, .fieldLink RX2 35 "ArraySegments$Machine" "cells" "[I", .methodLink RX2 133 yX2_castTo, .static yX2_castTo] ++ (wsX20 ++ (v_X2_placeProblem ++ (v_X2_castTo))))
theorem inv_X2_doWrite_X2 : ∀ w ∈ wsX20, w ∈ v_X2_doWrite := fun _ h => List.mem_cons_of_mem _ (List.mem_append_right _ (List.mem_append_left _ h))
theorem im_X2_doWrite_X2_placeProblem : ∀ w ∈ v_X2_placeProblem, w ∈ v_X2_doWrite := fun _ h => List.mem_cons_of_mem _ (List.mem_append_right _ (List.mem_append_right _ (List.mem_append_left _ h)))
theorem im_X2_doWrite_X2_castTo : ∀ w ∈ v_X2_castTo, w ∈ v_X2_doWrite := fun _ h => List.mem_cons_of_mem _ (List.mem_append_right _ (List.mem_append_right _ (List.mem_append_right _ (h))))
set_option maxRecDepth 20000 in
theorem gd_X2_doWrite : gdL v_X2_doWrite := gdC (gdW (by decide +kernel)) (gdA (gdW (by decide +kernel)) (gdA gd_wsX20 (gdA gd_X2_placeProblem gd_X2_castTo)))
set_option maxRecDepth 20000 in
theorem h_X2_doWrite_X2_placeProblem_130 : GoodIn v_X2_doWrite (wsV RX2 130 RX2 yX2_placeProblem v_X2_placeProblem) := gdI [1, 2, 3, 4] rfl (by decide +kernel) (im_X2_doWrite_X2_placeProblem) gd_X2_placeProblem
set_option maxRecDepth 20000 in
theorem h_X2_doWrite_X2_castTo_133 : GoodIn v_X2_doWrite (va_wsS RX2 133 yX2_castTo v_X2_castTo) := gdI [6, 7, 4] rfl (by decide +kernel) (im_X2_doWrite_X2_castTo) gd_X2_castTo
abbrev sw_X2_doWrite (cI cJ cZ : ClassId) (mh : Nat) (m_hasRun : Int32) (m_thrown : Int32) (m_thrownAt : Int32) (m_values : Value) (m_meant : Value) (ma_lanes : Nat) (ma_lengths : Nat) (ma_cells : Nat) (m_state : Int64) (mc_lanes : Nat → Int32) (mc_lengths : Nat → Int32) (mc_cells : Nat → Int32) (arra : Int32) (la : Int32) (ata : Int32) (na : Int32) : va_W := [(mh, .inr (2, [.int m_hasRun, .int m_thrown, .int m_thrownAt, m_values, m_meant, .ref ma_lanes, .ref ma_lengths, .ref ma_cells, .long m_state])), (ma_lanes, .inl (cI, 40, .inl mc_lanes)), (ma_lengths, .inl (cI, 40, .inl mc_lengths)), (ma_cells, .inl (cI, 480, .inl mc_cells))]
set_option maxHeartbeats 8000000 in
set_option maxRecDepth 100000 in
theorem s_X2_doWrite (l : Launch) (dC : Nat → ClassId) (dI : Nat → Nat → Nat) (cI cJ cZ : ClassId) (mh : Nat) (m_hasRun : Int32) (m_thrown : Int32) (m_thrownAt : Int32) (m_values : Value) (m_meant : Value) (ma_lanes : Nat) (ma_lengths : Nat) (ma_cells : Nat) (m_state : Int64) (mc_lanes : Nat → Int32) (mc_lengths : Nat → Int32) (mc_cells : Nat → Int32) (arra : Int32) (la : Int32) (ata : Int32) (na : Int32) (sz : Nat) (q_m_hasRun : kZ m_hasRun) (h_mc_lanes : ∀ j : Nat, kL3 (mc_lanes j)) (h_mc_lengths : ∀ j : Nat, kR012 (mc_lengths j)) (hy_arra : -1 ≤ arra.toInt ∧ arra.toInt ≤ 39) : Met l yX2_doWrite v_X2_doWrite ({ frames := 1, cells := 0, slots := 0, locals := 23 }) (va_Pc [.ref mh, .int arra, .int la, .int ata, .int na] (cPre dC dI cI cJ cZ sz (sw_X2_doWrite cI cJ cZ mh m_hasRun m_thrown m_thrownAt m_values m_meant ma_lanes ma_lengths ma_cells m_state mc_lanes mc_lengths mc_cells arra la ata na))) (va_Qi (fun (r : Int32) (u : (Nat → Int32)) => ((r.toInt = 0 ∧ plN mc_lanes mc_lengths arra la ata) ∨ (¬ r.toInt = 0 ∧ plT mc_lanes mc_lengths arra la ata r)) ∧ (∀ j : Nat, (r.toInt = 0 ∧ j = 12 * (arra).toNatClampNeg + (ata).toNatClampNeg → castR la.toInt na.toInt ((u) j).toInt) ∧ (¬ (r.toInt = 0 ∧ j = 12 * (arra).toNatClampNeg + (ata).toNatClampNeg) → ((u) j).toInt = (mc_cells j).toInt))) (fun (u : (Nat → Int32)) => cPost dC dI cI cJ cZ (va_A (sw_X2_doWrite cI cJ cZ mh m_hasRun m_thrown m_thrownAt m_values m_meant ma_lanes ma_lengths ma_cells m_state mc_lanes mc_lengths mc_cells arra la ata na) sz) [(mh, .inr (2, [.int m_hasRun, .int m_thrown, .int m_thrownAt, m_values, m_meant, .ref ma_lanes, .ref ma_lengths, .ref ma_cells, .long m_state])), (ma_lanes, .inl (cI, 40, .inl mc_lanes)), (ma_lengths, .inl (cI, 40, .inl mc_lengths)), (ma_cells, .inl (cI, 480, .inl (u)))]) (va_A (sw_X2_doWrite cI cJ cZ mh m_hasRun m_thrown m_thrownAt m_values m_meant ma_lanes ma_lengths ma_cells m_state mc_lanes mc_lengths mc_cells arra la ata na) sz)) 0 0 (va_A (sw_X2_doWrite cI cJ cZ mh m_hasRun m_thrown m_thrownAt m_values m_meant ma_lanes ma_lengths ma_cells m_state mc_lanes mc_lengths mc_cells arra la ata na) sz) := by
  refine Met.ofW (cc := cX2_doWrite) (maxL := 6) (ret := (some .int)) (by decide) rfl ?_
  intro p e s m args below meth c s₁ B hml hv
  obtain ⟨rfl, hsz, hP, hK, hD0, hN⟩ := hv
  have hx := B.exec
  have hb := B.bytes
  have hr := B.returns
  have hts := atoms_spec (ws := v_X2_doWrite) B.pre
  have hown : s.vm.findClass RX2 = some m.cls := findClass_of_methodNamed B.named
  have hlocks := B.notSynchronized
  subst hsz
  have hD := hD0.self (sz := s.heap.size)
  generalize hAe : va_A (sw_X2_doWrite cI cJ cZ mh m_hasRun m_thrown m_thrownAt m_values m_meant ma_lanes ma_lengths ma_cells m_state mc_lanes mc_lengths mc_cells arra la ata na) s.heap.size = A at hD ⊢
  have hA : ∀ q : Nat, s.heap.size ≤ q → A q := fun q h => by rw [← hAe]; exact Or.inr h
  clear hAe hD0
  have hS : va_S A s.heap s.heap [] := va_S.rf
  replace hP : va_P (dC, dI) vwCl [(mh, .inr (2, [.int m_hasRun, .int m_thrown, .int m_thrownAt, m_values, m_meant, .ref ma_lanes, .ref ma_lengths, .ref ma_cells, .long m_state])), (ma_lanes, .inl (cI, 40, .inl mc_lanes)), (ma_lengths, .inl (cI, 40, .inl mc_lengths)), (ma_cells, .inl (cI, 480, .inl mc_cells))] s.heap := hP
  replace hD : va_D A [(mh, .inr (2, [.int m_hasRun, .int m_thrown, .int m_thrownAt, m_values, m_meant, .ref ma_lanes, .ref ma_lengths, .ref ma_cells, .long m_state])), (ma_lanes, .inl (cI, 40, .inl mc_lanes)), (ma_lengths, .inl (cI, 40, .inl mc_lengths)), (ma_cells, .inl (cI, 480, .inl mc_cells))] := hD
  have hl := lv_entry ([.ref mh, .int arra, .int la, .int ata, .int na]) (n := 6) (Nat.le_of_ble_eq_true rfl)
  rw [lg_entry_eq]
  generalize (lg_sl ([.ref mh, .int arra, .int la, .int ata, .int na]) ++ List.replicate (6 - (lg_sl ([.ref mh, .int arra, .int la, .int ata, .int na])).length) Slot.unset).toArray = ls at hl ⊢
  replace hl : lv_has ls 6 [(0, .ref mh), (1, .int arra), (2, .int la), (3, .int ata), (4, .int na)] := hl
  have z_0 : (0 : Int32).toInt = 0 := by decide
  have z_1 : (1 : Int32).toInt = 1 := by decide
  have nc_arra := nn_cl2 arra
  have nc_ata := nn_cl2 ata
  refine lv_aload_n hx hb dX2_doWrite_0 rfl (lv_at hl 0 rfl) ?_
  refine lv_iload_n hx hb dX2_doWrite_1 rfl (lv_at hl 1 rfl) ?_
  refine lv_iload_n hx hb dX2_doWrite_2 rfl (lv_at hl 2 rfl) ?_
  refine lv_iload_n hx hb dX2_doWrite_3 rfl (lv_at hl 3 rfl) ?_
  have hPc := hP.sub (ws' := [(mh, .inr (2, [.int m_hasRun, .int m_thrown, .int m_thrownAt, m_values, m_meant, .ref ma_lanes, .ref ma_lengths, .ref ma_cells, .long m_state])), (ma_lanes, .inl (cI, 40, .inl mc_lanes)), (ma_lengths, .inl (cI, 40, .inl mc_lengths))]) [0, 1, 2] rfl
  have hDc := hD.sub (ws' := [(mh, .inr (2, [.int m_hasRun, .int m_thrown, .int m_thrownAt, m_values, m_meant, .ref ma_lanes, .ref ma_lengths, .ref ma_cells, .long m_state])), (ma_lanes, .inl (cI, 40, .inl mc_lanes)), (ma_lengths, .inl (cI, 40, .inl mc_lengths))]) [0, 1, 2] (by decide) rfl
  have hFc := va_free (wc := [(mh, .inr (2, [.int m_hasRun, .int m_thrown, .int m_thrownAt, m_values, m_meant, .ref ma_lanes, .ref ma_lengths, .ref ma_cells, .long m_state])), (ma_lanes, .inl (cI, 40, .inl mc_lanes)), (ma_lengths, .inl (cI, 40, .inl mc_lengths))]) hD hS hA [0, 1, 2] rfl
  refine va_calli (va_runV (As := [.int arra, .int la, .int ata]) (rest := []) ⟨hx, hb, hml, hown, hts⟩ (s_X2_placeProblem l dC dI cI cJ cZ mh m_hasRun m_thrown m_thrownAt m_values m_meant ma_lanes ma_lengths (.ref ma_cells) m_state mc_lanes mc_lengths arra la ata s.heap.size q_m_hasRun h_mc_lanes h_mc_lengths (by first | assumption | omega)) (cwV 3 hts h_X2_doWrite_X2_placeProblem_130 rfl rfl rfl (by decide +kernel) ⟨Nat.le_of_ble_eq_true rfl, Nat.le_of_ble_eq_true rfl⟩) ⟨cPre_blind, va_recv hK hPc (ci := 2) (q0 := 0) rfl rfl, cPre_of hK hN hPc hDc⟩ rfl rfl hl.1 rfl (lv_room (Nat.le_of_ble_eq_true rfl)) dX2_doWrite_4 ⟨Nat.le_of_ble_eq_true rfl, Nat.le_of_ble_eq_true rfl⟩) hS (fun q _ h => hFc q h) hFc (fun r_1 u_1 t_1 H_1 locs_1 ht hvm hw_1 hB hz1 hk1 hS1 => ?_)
  obtain ⟨hP1, hK1, hD1⟩ := hB
  rw [ht] at hP1
  obtain ⟨hP2, hD2⟩ := va_join (wr := [(ma_cells, .inl (cI, 480, .inl mc_cells))]) (w1 := [(mh, .inr (2, [.int m_hasRun, .int m_thrown, .int m_thrownAt, m_values, m_meant, .ref ma_lanes, .ref ma_lengths, .ref ma_cells, .long m_state])), (ma_lanes, .inl (cI, 40, .inl mc_lanes)), (ma_lengths, .inl (cI, 40, .inl mc_lengths))]) hP hD [0, 1, 2] [3] rfl rfl (by decide) (by decide) hk1 hFc hP1 hD1
  clear hPc hDc hFc hP1 hD1 hK1 hk1 hz1 hvm ht
  replace hP : va_P (dC, dI) vwCl [(ma_cells, .inl (cI, 480, .inl mc_cells)), (mh, .inr (2, [.int m_hasRun, .int m_thrown, .int m_thrownAt, m_values, m_meant, .ref ma_lanes, .ref ma_lengths, .ref ma_cells, .long m_state])), (ma_lanes, .inl (cI, 40, .inl mc_lanes)), (ma_lengths, .inl (cI, 40, .inl mc_lengths))] H_1 := hP2
  replace hD : va_D A [(ma_cells, .inl (cI, 480, .inl mc_cells)), (mh, .inr (2, [.int m_hasRun, .int m_thrown, .int m_thrownAt, m_values, m_meant, .ref ma_lanes, .ref ma_lengths, .ref ma_cells, .long m_state])), (ma_lanes, .inl (cI, 40, .inl mc_lanes)), (ma_lengths, .inl (cI, 40, .inl mc_lengths))] := hD2
  replace hS := hS1
  clear hP2 hD2 hS1
  replace hw_1 : ((r_1.toInt = 0 ∧ plN mc_lanes mc_lengths arra la ata) ∨ (¬ r_1.toInt = 0 ∧ plT mc_lanes mc_lengths arra la ata r_1)) := hw_1
  have q_r_1 := hw_1
  refine lv_istore (lv' := [(5, .int r_1), (0, .ref mh), (1, .int arra), (2, .int la), (3, .int ata), (4, .int na)]) hx hb dX2_doWrite_7 hl (by decide) rfl (fun ls1 hl1 => ?_)
  replace hl := hl1; clear hl1
  refine lv_iload hx hb dX2_doWrite_9 (lv_at hl 0 rfl) ?_
  refine lv_if_ne (tgt := 31) hx hb dX2_doWrite_11 (by decide) (fun c_2 => ?_) (fun c_2 => ?_)
  · -- yes
    have k_2 : ¬ r_1.toInt = (0 : Int32).toInt := ci_ne c_2
    refine lv_iload hx hb dX2_doWrite_31 (lv_at hl 0 rfl) ?_
    have hP9 := hP.sub (ws' := [(mh, .inr (2, [.int m_hasRun, .int m_thrown, .int m_thrownAt, m_values, m_meant, .ref ma_lanes, .ref ma_lengths, .ref ma_cells, .long m_state])), (ma_lanes, .inl (cI, 40, .inl mc_lanes)), (ma_lengths, .inl (cI, 40, .inl mc_lengths)), (ma_cells, .inl (cI, 480, .inl mc_cells))]) [1, 2, 3, 0] rfl
    have hD9 := hD.sub (ws' := [(mh, .inr (2, [.int m_hasRun, .int m_thrown, .int m_thrownAt, m_values, m_meant, .ref ma_lanes, .ref ma_lengths, .ref ma_cells, .long m_state])), (ma_lanes, .inl (cI, 40, .inl mc_lanes)), (ma_lengths, .inl (cI, 40, .inl mc_lengths)), (ma_cells, .inl (cI, 480, .inl mc_cells))]) [1, 2, 3, 0] (by decide) rfl
    exact W.iret (v := r_1) hx hb hr (fun t ht hW => ⟨⟨r_1, mc_cells, rfl, ⟨(show (r_1.toInt = 0 ∧ plN mc_lanes mc_lengths arra la ata) ∨ (¬ r_1.toInt = 0 ∧ plT mc_lanes mc_lengths arra la ata r_1) from (by omega)), (show ∀ j : Nat, (r_1.toInt = 0 ∧ j = 12 * (arra).toNatClampNeg + (ata).toNatClampNeg → castR la.toInt na.toInt (mc_cells j).toInt) ∧ (¬ (r_1.toInt = 0 ∧ j = 12 * (arra).toNatClampNeg + (ata).toNatClampNeg) → (mc_cells j).toInt = (mc_cells j).toInt) from (fun j => ⟨fun h => by omega, fun _ => rfl⟩))⟩, by rw [ht]; exact hP9, va_K.moved hW.alike hK, hD9⟩, hS.F ht⟩) hS.2.2 dX2_doWrite_33
  · -- no
    have k_2 : r_1.toInt = (0 : Int32).toInt := ci_eq c_2
    have m9 : 0 ≤ arra.toInt ∧ 0 ≤ ata.toInt ∧ ata.toInt ≤ 11 := by have b9 := h_mc_lengths (arra).toNatClampNeg; omega
    refine lv_aload_n hx hb dX2_doWrite_14 rfl (lv_at hl 1 rfl) ?_
    refine va_get (D := (dC, dI)) (ci := 2) (v := .ref ma_cells) (C := RX2) (T := TX2) (N := 9) hx hb hts inv_X2_doWrite_X2 hown hK hP 1 rfl rfl 7 (by decide) (hts (.fieldLink RX2 35 "ArraySegments$Machine" "cells" "[I") (List.mem_of_getElem? (i := 5) rfl)) (fun _ h9 => h9) rfl dX2_doWrite_15 ?_
    refine lv_iload_n hx hb dX2_doWrite_18 rfl (lv_at hl 2 rfl) ?_
    refine lv_bipush (v := 12) hx hb dX2_doWrite_19 (by decide) ?_
    refine sf_imul (w := arra.toInt) (z := 12) hx hb dX2_doWrite_21 rfl (by decide) ⟨by omega, by omega⟩ (fun v_3 q_v_3 => ?_)
    refine lv_iload_n hx hb dX2_doWrite_22 rfl (lv_at hl 4 rfl) ?_
    refine sf_iadd hx hb dX2_doWrite_23 ⟨by omega, by omega⟩ (fun v_4 q_v_4 => ?_)
    refine lv_iload_n hx hb dX2_doWrite_24 rfl (lv_at hl 3 rfl) ?_
    refine lv_iload hx hb dX2_doWrite_25 (lv_at hl 5 rfl) ?_
    refine vp_callSi (va_runS (As := [.int la, .int na]) (rest := [.int v_4, .ref ma_cells]) ⟨hx, hb, hml, hown, hts⟩ (s_X2_castTo l la na) (va_cwS 2 hts h_X2_doWrite_X2_castTo_133 rfl rfl rfl (by decide +kernel) ⟨Nat.le_of_ble_eq_true rfl, Nat.le_of_ble_eq_true rfl⟩) ⟨fun _ _ _ _ q => q, fun _ _ _ => ⟨rfl, trivial⟩⟩ rfl rfl hl.1 rfl (lv_room (Nat.le_of_ble_eq_true rfl)) dX2_doWrite_27 ⟨Nat.le_of_ble_eq_true rfl, Nat.le_of_ble_eq_true rfl⟩).run (fun r_5 hw_5 => ?_)
    replace hw_5 : (castR la.toInt na.toInt r_5.toInt) := hw_5
    have q_r_5 := hw_5
    have ni_8 := nn_cl (z := v_4) (by omega)
    refine sf_iastU kT hx hb hK hP hD hS 0 0 rfl rfl (fun _ => trivial) trivial (vp_in_iff.mpr ⟨by omega, by omega⟩) dX2_doWrite_30 (fun f_6 h_f_6 u_f_6 H_7 locs_7 hP1 hD1 hS1 => ?_)
    replace hP : va_P (dC, dI) vwCl [(ma_cells, .inl (cI, 480, .inl f_6)), (mh, .inr (2, [.int m_hasRun, .int m_thrown, .int m_thrownAt, m_values, m_meant, .ref ma_lanes, .ref ma_lengths, .ref ma_cells, .long m_state])), (ma_lanes, .inl (cI, 40, .inl mc_lanes)), (ma_lengths, .inl (cI, 40, .inl mc_lengths))] H_7 := hP1
    replace hD : va_D A [(ma_cells, .inl (cI, 480, .inl f_6)), (mh, .inr (2, [.int m_hasRun, .int m_thrown, .int m_thrownAt, m_values, m_meant, .ref ma_lanes, .ref ma_lengths, .ref ma_cells, .long m_state])), (ma_lanes, .inl (cI, 40, .inl mc_lanes)), (ma_lengths, .inl (cI, 40, .inl mc_lengths))] := hD1
    replace hS := hS1
    clear hP1 hD1 hS1
    refine lv_iload hx hb dX2_doWrite_31 (lv_at hl 0 rfl) ?_
    have hP9 := hP.sub (ws' := [(mh, .inr (2, [.int m_hasRun, .int m_thrown, .int m_thrownAt, m_values, m_meant, .ref ma_lanes, .ref ma_lengths, .ref ma_cells, .long m_state])), (ma_lanes, .inl (cI, 40, .inl mc_lanes)), (ma_lengths, .inl (cI, 40, .inl mc_lengths)), (ma_cells, .inl (cI, 480, .inl f_6))]) [1, 2, 3, 0] rfl
    have hD9 := hD.sub (ws' := [(mh, .inr (2, [.int m_hasRun, .int m_thrown, .int m_thrownAt, m_values, m_meant, .ref ma_lanes, .ref ma_lengths, .ref ma_cells, .long m_state])), (ma_lanes, .inl (cI, 40, .inl mc_lanes)), (ma_lengths, .inl (cI, 40, .inl mc_lengths)), (ma_cells, .inl (cI, 480, .inl f_6))]) [1, 2, 3, 0] (by decide) rfl
    exact W.iret (v := r_1) hx hb hr (fun t ht hW => ⟨⟨r_1, f_6, rfl, ⟨(show (r_1.toInt = 0 ∧ plN mc_lanes mc_lengths arra la ata) ∨ (¬ r_1.toInt = 0 ∧ plT mc_lanes mc_lengths arra la ata r_1) from (by omega)), (show ∀ j : Nat, (r_1.toInt = 0 ∧ j = 12 * (arra).toNatClampNeg + (ata).toNatClampNeg → castR la.toInt na.toInt (f_6 j).toInt) ∧ (¬ (r_1.toInt = 0 ∧ j = 12 * (arra).toNatClampNeg + (ata).toNatClampNeg) → (f_6 j).toInt = (mc_cells j).toInt) from (fun j => by have b0 := u_f_6 j; omega))⟩, by rw [ht]; exact hP9, va_K.moved hW.alike hK, hD9⟩, hS.F ht⟩) hS.2.2 dX2_doWrite_33
