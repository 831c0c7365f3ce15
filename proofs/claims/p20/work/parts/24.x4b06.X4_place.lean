def v_X4_place : List Cond := .code yX4_place cX4_place 4 (some .int) :: ([.methodLink RX4 95 yX4_isReference, .static yX4_isReference, .initialized RX4, .fieldLink RX4 26 "ArraySegments" "machine" "LArraySegments$Machine;", .fieldLink RX4 159 "ArraySegments$Machine" "meant" "[I", .fieldLink RX4 162 "ArraySegments$Machine" "lengths" "[I", .fieldLink RX4 165 "ArraySegments$Machine" "cells" "[I"] ++ (wsX40 ++ (wsX20 ++ (v_X4_isReference))))
theorem inv_X4_place_X4 : ∀ w ∈ wsX40, w ∈ v_X4_place := fun _ h => List.mem_cons_of_mem _ (List.mem_append_right _ (List.mem_append_left _ h))
theorem inv_X4_place_X2 : ∀ w ∈ wsX20, w ∈ v_X4_place := fun _ h => List.mem_cons_of_mem _ (List.mem_append_right _ (List.mem_append_right _ (List.mem_append_left _ h)))
theorem im_X4_place_X4_isReference : ∀ w ∈ v_X4_isReference, w ∈ v_X4_place := fun _ h => List.mem_cons_of_mem _ (List.mem_append_right _ (List.mem_append_right _ (List.mem_append_right _ (h))))
set_option maxRecDepth 20000 in
theorem gd_X4_place : gdL v_X4_place := gdC (gdW (by decide +kernel)) (gdA (gdW (by decide +kernel)) (gdA gd_wsX40 (gdA gd_wsX20 gd_X4_isReference)))
set_option maxRecDepth 20000 in
theorem h_X4_place_X4_isReference_95 : GoodIn v_X4_place (va_wsS RX4 95 yX4_isReference v_X4_isReference) := gdI [1, 2, 3] rfl (by decide +kernel) (im_X4_place_X4_isReference) gd_X4_isReference
abbrev sw_X4_place (cI cJ cZ : ClassId) (xh : Nat) (x_program : Value) (x_flow : Value) (mh : Nat) (x_lastStatus : Int32) (m_hasRun : Int32) (m_thrown : Int32) (m_thrownAt : Int32) (m_values : Value) (ma_meant : Nat) (m_lanes : Value) (ma_lengths : Nat) (ma_cells : Nat) (m_state : Int64) (mc_meant : Nat → Int32) (mc_lengths : Nat → Int32) (mc_cells : Nat → Int32) (ra : Int32) (ia : Int32) : va_W := [(xh, .inr (4, [x_program, x_flow, .ref mh, .int x_lastStatus])), (mh, .inr (2, [.int m_hasRun, .int m_thrown, .int m_thrownAt, m_values, .ref ma_meant, m_lanes, .ref ma_lengths, .ref ma_cells, .long m_state])), (ma_meant, .inl (cI, 6, .inl mc_meant)), (ma_lengths, .inl (cI, 40, .inl mc_lengths)), (ma_cells, .inl (cI, 480, .inl mc_cells))]
set_option maxHeartbeats 8000000 in
set_option maxRecDepth 100000 in
theorem s_X4_place (l : Launch) (dC : Nat → ClassId) (dI : Nat → Nat → Nat) (cI cJ cZ : ClassId) (xh : Nat) (x_program : Value) (x_flow : Value) (mh : Nat) (x_lastStatus : Int32) (m_hasRun : Int32) (m_thrown : Int32) (m_thrownAt : Int32) (m_values : Value) (ma_meant : Nat) (m_lanes : Value) (ma_lengths : Nat) (ma_cells : Nat) (m_state : Int64) (mc_meant : Nat → Int32) (mc_lengths : Nat → Int32) (mc_cells : Nat → Int32) (ra : Int32) (ia : Int32) (sz : Nat) (q_m_hasRun : kZ m_hasRun) (h_mc_meant : ∀ j : Nat, kSITE (mc_meant j)) (h_mc_lengths : ∀ j : Nat, kR012 (mc_lengths j)) : Met l yX4_place v_X4_place ({ frames := 1, cells := 0, slots := 0, locals := 20 }) (va_Pc [.ref xh, .int ra, .int ia] (cPre dC dI cI cJ cZ sz (sw_X4_place cI cJ cZ xh x_program x_flow mh x_lastStatus m_hasRun m_thrown m_thrownAt m_values ma_meant m_lanes ma_lengths ma_cells m_state mc_meant mc_lengths mc_cells ra ia))) (va_Qi (fun (r : Int32) (u : Unit) => True) (fun (u : Unit) => cPost dC dI cI cJ cZ (va_A (sw_X4_place cI cJ cZ xh x_program x_flow mh x_lastStatus m_hasRun m_thrown m_thrownAt m_values ma_meant m_lanes ma_lengths ma_cells m_state mc_meant mc_lengths mc_cells ra ia) sz) [(xh, .inr (4, [x_program, x_flow, .ref mh, .int x_lastStatus])), (mh, .inr (2, [.int m_hasRun, .int m_thrown, .int m_thrownAt, m_values, .ref ma_meant, m_lanes, .ref ma_lengths, .ref ma_cells, .long m_state])), (ma_meant, .inl (cI, 6, .inl mc_meant)), (ma_lengths, .inl (cI, 40, .inl mc_lengths)), (ma_cells, .inl (cI, 480, .inl mc_cells))]) (va_A (sw_X4_place cI cJ cZ xh x_program x_flow mh x_lastStatus m_hasRun m_thrown m_thrownAt m_values ma_meant m_lanes ma_lengths ma_cells m_state mc_meant mc_lengths mc_cells ra ia) sz)) 0 0 (va_A (sw_X4_place cI cJ cZ xh x_program x_flow mh x_lastStatus m_hasRun m_thrown m_thrownAt m_values ma_meant m_lanes ma_lengths ma_cells m_state mc_meant mc_lengths mc_cells ra ia) sz) := by
  refine Met.ofW (cc := cX4_place) (maxL := 4) (ret := (some .int)) (by decide) rfl ?_
  intro p e s m args below meth c s₁ B hml hv
  obtain ⟨rfl, hsz, hP, hK, hD0, hN⟩ := hv
  have hx := B.exec
  have hb := B.bytes
  have hr := B.returns
  have hts := atoms_spec (ws := v_X4_place) B.pre
  have hown : s.vm.findClass RX4 = some m.cls := findClass_of_methodNamed B.named
  have hlocks := B.notSynchronized
  subst hsz
  have hD := hD0.self (sz := s.heap.size)
  generalize hAe : va_A (sw_X4_place cI cJ cZ xh x_program x_flow mh x_lastStatus m_hasRun m_thrown m_thrownAt m_values ma_meant m_lanes ma_lengths ma_cells m_state mc_meant mc_lengths mc_cells ra ia) s.heap.size = A at hD ⊢
  have hA : ∀ q : Nat, s.heap.size ≤ q → A q := fun q h => by rw [← hAe]; exact Or.inr h
  clear hAe hD0
  have hS : va_S A s.heap s.heap [] := va_S.rf
  replace hP : va_P (dC, dI) vwCl [(xh, .inr (4, [x_program, x_flow, .ref mh, .int x_lastStatus])), (mh, .inr (2, [.int m_hasRun, .int m_thrown, .int m_thrownAt, m_values, .ref ma_meant, m_lanes, .ref ma_lengths, .ref ma_cells, .long m_state])), (ma_meant, .inl (cI, 6, .inl mc_meant)), (ma_lengths, .inl (cI, 40, .inl mc_lengths)), (ma_cells, .inl (cI, 480, .inl mc_cells))] s.heap := hP
  replace hD : va_D A [(xh, .inr (4, [x_program, x_flow, .ref mh, .int x_lastStatus])), (mh, .inr (2, [.int m_hasRun, .int m_thrown, .int m_thrownAt, m_values, .ref ma_meant, m_lanes, .ref ma_lengths, .ref ma_cells, .long m_state])), (ma_meant, .inl (cI, 6, .inl mc_meant)), (ma_lengths, .inl (cI, 40, .inl mc_lengths)), (ma_cells, .inl (cI, 480, .inl mc_cells))] := hD
  have hl := lv_entry ([.ref xh, .int ra, .int ia]) (n := 4) (Nat.le_of_ble_eq_true rfl)
  rw [lg_entry_eq]
  generalize (lg_sl ([.ref xh, .int ra, .int ia]) ++ List.replicate (4 - (lg_sl ([.ref xh, .int ra, .int ia])).length) Slot.unset).toArray = ls at hl ⊢
  replace hl : lv_has ls 4 [(0, .ref xh), (1, .int ra), (2, .int ia)] := hl
  have z_0 : (0 : Int32).toInt = 0 := by decide
  have z_1 : (1 : Int32).toInt = 1 := by decide
  refine lv_iload_n hx hb dX4_place_0 rfl (lv_at hl 1 rfl) ?_
  refine vp_callSi (va_runS (As := [.int ra]) (rest := []) ⟨hx, hb, hml, hown, hts⟩ (s_X4_isReference l ra) (va_cwS 1 hts h_X4_place_X4_isReference_95 rfl rfl rfl (by decide +kernel) ⟨Nat.le_of_ble_eq_true rfl, Nat.le_of_ble_eq_true rfl⟩) ⟨fun _ _ _ _ q => q, fun _ _ _ => ⟨rfl, trivial⟩⟩ rfl rfl hl.1 rfl (lv_room (Nat.le_of_ble_eq_true rfl)) dX4_place_1 ⟨Nat.le_of_ble_eq_true rfl, Nat.le_of_ble_eq_true rfl⟩).run (fun r_1 hw_1 => ?_)
  replace hw_1 : (two r_1 (V6 ra) 1 0) := hw_1
  have q_r_1 := hw_1
  refine lv_if_ne (tgt := 9) hx hb dX4_place_4 (by decide) (fun c_2 => ?_) (fun c_2 => ?_)
  · -- yes
    have k_2 : ¬ r_1.toInt = (0 : Int32).toInt := ci_ne c_2
    have kt_2 : V6 ra := two_nz q_r_1 c_2
    refine lv_aload_n hx hb dX4_place_9 rfl (lv_at hl 0 rfl) ?_
    refine va_get (D := (dC, dI)) (ci := 4) (v := .ref mh) (C := RX4) (T := TX4) (N := 4) hx hb hts inv_X4_place_X4 hown hK hP 0 rfl rfl 2 (by decide) (hts (.fieldLink RX4 26 "ArraySegments" "machine" "LArraySegments$Machine;") (List.mem_of_getElem? (i := 4) rfl)) (fun _ h9 => h9) rfl dX4_place_10 ?_
    refine va_get (D := (dC, dI)) (ci := 2) (v := .ref ma_meant) (C := RX2) (T := TX2) (N := 9) hx hb hts inv_X4_place_X2 hown hK hP 1 rfl rfl 4 (by decide) (hts (.fieldLink RX4 159 "ArraySegments$Machine" "meant" "[I") (List.mem_of_getElem? (i := 5) rfl)) (fun _ h9 => h9) rfl dX4_place_13 ?_
    refine lv_iload_n hx hb dX4_place_16 rfl (lv_at hl 1 rfl) ?_
    refine sf_iald kSITE hx hb hK hP 2 0 rfl rfl h_mc_meant (vp_in_iff.mpr ⟨by omega, by omega⟩) dX4_place_17 (fun v_3 q_v_3 e_v_3 => ?_)
    refine lv_istore_n (lv' := [(3, .int v_3), (0, .ref xh), (1, .int ra), (2, .int ia)]) hx hb dX4_place_18 rfl hl (by decide) rfl (fun ls1 hl1 => ?_)
    replace hl := hl1; clear hl1
    refine lv_iload_n hx hb dX4_place_19 rfl (lv_at hl 0 rfl) ?_
    refine lv_if_lt (tgt := 40) hx hb dX4_place_20 (by decide) (fun c_4 => ?_) (fun c_4 => ?_)
    · -- yes
      have k_4 : v_3.toInt < (0 : Int32).toInt := ci_lt c_4
      refine lv_iconst (v := 0) hx hb dX4_place_40 (by decide) ?_
      have hP9 := hP.sub (ws' := [(xh, .inr (4, [x_program, x_flow, .ref mh, .int x_lastStatus])), (mh, .inr (2, [.int m_hasRun, .int m_thrown, .int m_thrownAt, m_values, .ref ma_meant, m_lanes, .ref ma_lengths, .ref ma_cells, .long m_state])), (ma_meant, .inl (cI, 6, .inl mc_meant)), (ma_lengths, .inl (cI, 40, .inl mc_lengths)), (ma_cells, .inl (cI, 480, .inl mc_cells))]) [0, 1, 2, 3, 4] rfl
      have hD9 := hD.sub (ws' := [(xh, .inr (4, [x_program, x_flow, .ref mh, .int x_lastStatus])), (mh, .inr (2, [.int m_hasRun, .int m_thrown, .int m_thrownAt, m_values, .ref ma_meant, m_lanes, .ref ma_lengths, .ref ma_cells, .long m_state])), (ma_meant, .inl (cI, 6, .inl mc_meant)), (ma_lengths, .inl (cI, 40, .inl mc_lengths)), (ma_cells, .inl (cI, 480, .inl mc_cells))]) [0, 1, 2, 3, 4] (by decide) rfl
      exact W.iret (v := 0) hx hb hr (fun t ht hW => ⟨⟨0, (), rfl, trivial, by rw [ht]; exact hP9, va_K.moved hW.alike hK, hD9⟩, hS.F ht⟩) hS.2.2 dX4_place_41
    · -- no
      have k_4 : (0 : Int32).toInt ≤ v_3.toInt := ci_nlt c_4
      refine lv_iload_n hx hb dX4_place_23 rfl (lv_at hl 3 rfl) ?_
      refine lv_if_lt (tgt := 40) hx hb dX4_place_24 (by decide) (fun c_5 => ?_) (fun c_5 => ?_)
      · -- yes
        have k_5 : ia.toInt < (0 : Int32).toInt := ci_lt c_5
        refine lv_iconst (v := 0) hx hb dX4_place_40 (by decide) ?_
        have hP9 := hP.sub (ws' := [(xh, .inr (4, [x_program, x_flow, .ref mh, .int x_lastStatus])), (mh, .inr (2, [.int m_hasRun, .int m_thrown, .int m_thrownAt, m_values, .ref ma_meant, m_lanes, .ref ma_lengths, .ref ma_cells, .long m_state])), (ma_meant, .inl (cI, 6, .inl mc_meant)), (ma_lengths, .inl (cI, 40, .inl mc_lengths)), (ma_cells, .inl (cI, 480, .inl mc_cells))]) [0, 1, 2, 3, 4] rfl
        have hD9 := hD.sub (ws' := [(xh, .inr (4, [x_program, x_flow, .ref mh, .int x_lastStatus])), (mh, .inr (2, [.int m_hasRun, .int m_thrown, .int m_thrownAt, m_values, .ref ma_meant, m_lanes, .ref ma_lengths, .ref ma_cells, .long m_state])), (ma_meant, .inl (cI, 6, .inl mc_meant)), (ma_lengths, .inl (cI, 40, .inl mc_lengths)), (ma_cells, .inl (cI, 480, .inl mc_cells))]) [0, 1, 2, 3, 4] (by decide) rfl
        exact W.iret (v := 0) hx hb hr (fun t ht hW => ⟨⟨0, (), rfl, trivial, by rw [ht]; exact hP9, va_K.moved hW.alike hK, hD9⟩, hS.F ht⟩) hS.2.2 dX4_place_41
      · -- no
        have k_5 : (0 : Int32).toInt ≤ ia.toInt := ci_nlt c_5
        refine lv_iload_n hx hb dX4_place_27 rfl (lv_at hl 3 rfl) ?_
        refine lv_aload_n hx hb dX4_place_28 rfl (lv_at hl 1 rfl) ?_
        refine va_get (D := (dC, dI)) (ci := 4) (v := .ref mh) (C := RX4) (T := TX4) (N := 4) hx hb hts inv_X4_place_X4 hown hK hP 0 rfl rfl 2 (by decide) (hts (.fieldLink RX4 26 "ArraySegments" "machine" "LArraySegments$Machine;") (List.mem_of_getElem? (i := 4) rfl)) (fun _ h9 => h9) rfl dX4_place_29 ?_
        refine va_get (D := (dC, dI)) (ci := 2) (v := .ref ma_lengths) (C := RX2) (T := TX2) (N := 9) hx hb hts inv_X4_place_X2 hown hK hP 1 rfl rfl 6 (by decide) (hts (.fieldLink RX4 162 "ArraySegments$Machine" "lengths" "[I") (List.mem_of_getElem? (i := 6) rfl)) (fun _ h9 => h9) rfl dX4_place_32 ?_
        refine lv_iload_n hx hb dX4_place_35 rfl (lv_at hl 0 rfl) ?_
        refine sf_iald kR012 hx hb hK hP 3 0 rfl rfl h_mc_lengths (vp_in_iff.mpr ⟨by omega, by omega⟩) dX4_place_36 (fun v_6 q_v_6 e_v_6 => ?_)
        refine lv_icmp_lt (tgt := 42) hx hb dX4_place_37 (by decide) (fun c_7 => ?_) (fun c_7 => ?_)
        · -- yes
          have k_7 : ia.toInt < v_6.toInt := ci_lt c_7
          refine lv_aload_n hx hb dX4_place_42 rfl (lv_at hl 1 rfl) ?_
          refine va_get (D := (dC, dI)) (ci := 4) (v := .ref mh) (C := RX4) (T := TX4) (N := 4) hx hb hts inv_X4_place_X4 hown hK hP 0 rfl rfl 2 (by decide) (hts (.fieldLink RX4 26 "ArraySegments" "machine" "LArraySegments$Machine;") (List.mem_of_getElem? (i := 4) rfl)) (fun _ h9 => h9) rfl dX4_place_43 ?_
          refine va_get (D := (dC, dI)) (ci := 2) (v := .ref ma_cells) (C := RX2) (T := TX2) (N := 9) hx hb hts inv_X4_place_X2 hown hK hP 1 rfl rfl 7 (by decide) (hts (.fieldLink RX4 165 "ArraySegments$Machine" "cells" "[I") (List.mem_of_getElem? (i := 7) rfl)) (fun _ h9 => h9) rfl dX4_place_46 ?_
          refine lv_iload_n hx hb dX4_place_49 rfl (lv_at hl 0 rfl) ?_
          refine lv_bipush (v := 12) hx hb dX4_place_50 (by decide) ?_
          refine sf_imul (w := v_3.toInt) (z := 12) hx hb dX4_place_52 rfl (by decide) ⟨by omega, by omega⟩ (fun v_8 q_v_8 => ?_)
          refine lv_iload_n hx hb dX4_place_53 rfl (lv_at hl 3 rfl) ?_
          refine sf_iadd hx hb dX4_place_54 ⟨by omega, by omega⟩ (fun v_9 q_v_9 => ?_)
          refine sf_iald kT hx hb hK hP 4 0 rfl rfl (fun _ => trivial) (vp_in_iff.mpr ⟨by omega, by omega⟩) dX4_place_55 (fun v_10 q_v_10 e_v_10 => ?_)
          have hP9 := hP.sub (ws' := [(xh, .inr (4, [x_program, x_flow, .ref mh, .int x_lastStatus])), (mh, .inr (2, [.int m_hasRun, .int m_thrown, .int m_thrownAt, m_values, .ref ma_meant, m_lanes, .ref ma_lengths, .ref ma_cells, .long m_state])), (ma_meant, .inl (cI, 6, .inl mc_meant)), (ma_lengths, .inl (cI, 40, .inl mc_lengths)), (ma_cells, .inl (cI, 480, .inl mc_cells))]) [0, 1, 2, 3, 4] rfl
          have hD9 := hD.sub (ws' := [(xh, .inr (4, [x_program, x_flow, .ref mh, .int x_lastStatus])), (mh, .inr (2, [.int m_hasRun, .int m_thrown, .int m_thrownAt, m_values, .ref ma_meant, m_lanes, .ref ma_lengths, .ref ma_cells, .long m_state])), (ma_meant, .inl (cI, 6, .inl mc_meant)), (ma_lengths, .inl (cI, 40, .inl mc_lengths)), (ma_cells, .inl (cI, 480, .inl mc_cells))]) [0, 1, 2, 3, 4] (by decide) rfl
          exact W.iret (v := v_10) hx hb hr (fun t ht hW => ⟨⟨v_10, (), rfl, trivial, by rw [ht]; exact hP9, va_K.moved hW.alike hK, hD9⟩, hS.F ht⟩) hS.2.2 dX4_place_56
        · -- no
          have k_7 : v_6.toInt ≤ ia.toInt := ci_nlt c_7
          refine lv_iconst (v := 0) hx hb dX4_place_40 (by decide) ?_
          have hP9 := hP.sub (ws' := [(xh, .inr (4, [x_program, x_flow, .ref mh, .int x_lastStatus])), (mh, .inr (2, [.int m_hasRun, .int m_thrown, .int m_thrownAt, m_values, .ref ma_meant, m_lanes, .ref ma_lengths, .ref ma_cells, .long m_state])), (ma_meant, .inl (cI, 6, .inl mc_meant)), (ma_lengths, .inl (cI, 40, .inl mc_lengths)), (ma_cells, .inl (cI, 480, .inl mc_cells))]) [0, 1, 2, 3, 4] rfl
          have hD9 := hD.sub (ws' := [(xh, .inr (4, [x_program, x_flow, .ref mh, .int x_lastStatus])), (mh, .inr (2, [.int m_hasRun, .int m_thrown, .int m_thrownAt, m_values, .ref ma_meant, m_lanes, .ref ma_lengths, .ref ma_cells, .long m_state])), (ma_meant, .inl (cI, 6, .inl mc_meant)), (ma_lengths, .inl (cI, 40, .inl mc_lengths)), (ma_cells, .inl (cI, 480, .inl mc_cells))]) [0, 1, 2, 3, 4] (by decide) rfl
          exact W.iret (v := 0) hx hb hr (fun t ht hW => ⟨⟨0, (), rfl, trivial, by rw [ht]; exact hP9, va_K.moved hW.alike hK, hD9⟩, hS.F ht⟩) hS.2.2 dX4_place_41
  · -- no
    have k_2 : r_1.toInt = (0 : Int32).toInt := ci_eq c_2
    have kt_2 : ¬ (V6 ra) := two_z q_r_1 c_2
    refine lv_iconst (v := 0) hx hb dX4_place_7 (by decide) ?_
    have hP9 := hP.sub (ws' := [(xh, .inr (4, [x_program, x_flow, .ref mh, .int x_lastStatus])), (mh, .inr (2, [.int m_hasRun, .int m_thrown, .int m_thrownAt, m_values, .ref ma_meant, m_lanes, .ref ma_lengths, .ref ma_cells, .long m_state])), (ma_meant, .inl (cI, 6, .inl mc_meant)), (ma_lengths, .inl (cI, 40, .inl mc_lengths)), (ma_cells, .inl (cI, 480, .inl mc_cells))]) [0, 1, 2, 3, 4] rfl
    have hD9 := hD.sub (ws' := [(xh, .inr (4, [x_program, x_flow, .ref mh, .int x_lastStatus])), (mh, .inr (2, [.int m_hasRun, .int m_thrown, .int m_thrownAt, m_values, .ref ma_meant, m_lanes, .ref ma_lengths, .ref ma_cells, .long m_state])), (ma_meant, .inl (cI, 6, .inl mc_meant)), (ma_lengths, .inl (cI, 40, .inl mc_lengths)), (ma_cells, .inl (cI, 480, .inl mc_cells))]) [0, 1, 2, 3, 4] (by decide) rfl
    exact W.iret (v := 0) hx hb hr (fun t ht hW => ⟨⟨0, (), rfl, trivial, by rw [ht]; exact hP9, va_K.moved hW.alike hK, hD9⟩, hS.F ht⟩) hS.2.2 dX4_place_8
