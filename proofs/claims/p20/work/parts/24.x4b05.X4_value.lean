def v_X4_value : List Cond := .code yX4_value cX4_value 2 (some .int) :: ([.methodLink RX4 79 yX4_isVariable, .static yX4_isVariable, .initialized RX4, .fieldLink RX4 26 "ArraySegments" "machine" "LArraySegments$Machine;", .fieldLink RX4 156 "ArraySegments$Machine" "values" "[I"] ++ (wsX40 ++ (wsX20 ++ (v_X4_isVariable))))
theorem inv_X4_value_X4 : ∀ w ∈ wsX40, w ∈ v_X4_value := fun _ h => List.mem_cons_of_mem _ (List.mem_append_right _ (List.mem_append_left _ h))
theorem inv_X4_value_X2 : ∀ w ∈ wsX20, w ∈ v_X4_value := fun _ h => List.mem_cons_of_mem _ (List.mem_append_right _ (List.mem_append_right _ (List.mem_append_left _ h)))
theorem im_X4_value_X4_isVariable : ∀ w ∈ v_X4_isVariable, w ∈ v_X4_value := fun _ h => List.mem_cons_of_mem _ (List.mem_append_right _ (List.mem_append_right _ (List.mem_append_right _ (h))))
set_option maxRecDepth 20000 in
theorem gd_X4_value : gdL v_X4_value := gdC (gdW (by decide +kernel)) (gdA (gdW (by decide +kernel)) (gdA gd_wsX40 (gdA gd_wsX20 gd_X4_isVariable)))
set_option maxRecDepth 20000 in
theorem h_X4_value_X4_isVariable_79 : GoodIn v_X4_value (va_wsS RX4 79 yX4_isVariable v_X4_isVariable) := gdI [1, 2, 3] rfl (by decide +kernel) (im_X4_value_X4_isVariable) gd_X4_isVariable
abbrev sw_X4_value (cI cJ cZ : ClassId) (xh : Nat) (x_program : Value) (x_flow : Value) (mh : Nat) (x_lastStatus : Int32) (m_hasRun : Int32) (m_thrown : Int32) (m_thrownAt : Int32) (ma_values : Nat) (m_meant : Value) (m_lanes : Value) (m_lengths : Value) (m_cells : Value) (m_state : Int64) (mc_values : Nat → Int32) (xa : Int32) : va_W := [(xh, .inr (4, [x_program, x_flow, .ref mh, .int x_lastStatus])), (mh, .inr (2, [.int m_hasRun, .int m_thrown, .int m_thrownAt, .ref ma_values, m_meant, m_lanes, m_lengths, m_cells, .long m_state])), (ma_values, .inl (cI, 6, .inl mc_values))]
set_option maxHeartbeats 8000000 in
set_option maxRecDepth 100000 in
theorem s_X4_value (l : Launch) (dC : Nat → ClassId) (dI : Nat → Nat → Nat) (cI cJ cZ : ClassId) (xh : Nat) (x_program : Value) (x_flow : Value) (mh : Nat) (x_lastStatus : Int32) (m_hasRun : Int32) (m_thrown : Int32) (m_thrownAt : Int32) (ma_values : Nat) (m_meant : Value) (m_lanes : Value) (m_lengths : Value) (m_cells : Value) (m_state : Int64) (mc_values : Nat → Int32) (xa : Int32) (sz : Nat) (q_m_hasRun : kZ m_hasRun) : Met l yX4_value v_X4_value ({ frames := 1, cells := 0, slots := 0, locals := 20 }) (va_Pc [.ref xh, .int xa] (cPre dC dI cI cJ cZ sz (sw_X4_value cI cJ cZ xh x_program x_flow mh x_lastStatus m_hasRun m_thrown m_thrownAt ma_values m_meant m_lanes m_lengths m_cells m_state mc_values xa))) (va_Qi (fun (r : Int32) (u : Unit) => True) (fun (u : Unit) => cPost dC dI cI cJ cZ (va_A (sw_X4_value cI cJ cZ xh x_program x_flow mh x_lastStatus m_hasRun m_thrown m_thrownAt ma_values m_meant m_lanes m_lengths m_cells m_state mc_values xa) sz) [(xh, .inr (4, [x_program, x_flow, .ref mh, .int x_lastStatus])), (mh, .inr (2, [.int m_hasRun, .int m_thrown, .int m_thrownAt, .ref ma_values, m_meant, m_lanes, m_lengths, m_cells, .long m_state])), (ma_values, .inl (cI, 6, .inl mc_values))]) (va_A (sw_X4_value cI cJ cZ xh x_program x_flow mh x_lastStatus m_hasRun m_thrown m_thrownAt ma_values m_meant m_lanes m_lengths m_cells m_state mc_values xa) sz)) 0 0 (va_A (sw_X4_value cI cJ cZ xh x_program x_flow mh x_lastStatus m_hasRun m_thrown m_thrownAt ma_values m_meant m_lanes m_lengths m_cells m_state mc_values xa) sz) := by
  refine Met.ofW (cc := cX4_value) (maxL := 2) (ret := (some .int)) (by decide) rfl ?_
  intro p e s m args below meth c s₁ B hml hv
  obtain ⟨rfl, hsz, hP, hK, hD0, hN⟩ := hv
  have hx := B.exec
  have hb := B.bytes
  have hr := B.returns
  have hts := atoms_spec (ws := v_X4_value) B.pre
  have hown : s.vm.findClass RX4 = some m.cls := findClass_of_methodNamed B.named
  have hlocks := B.notSynchronized
  subst hsz
  have hD := hD0.self (sz := s.heap.size)
  generalize hAe : va_A (sw_X4_value cI cJ cZ xh x_program x_flow mh x_lastStatus m_hasRun m_thrown m_thrownAt ma_values m_meant m_lanes m_lengths m_cells m_state mc_values xa) s.heap.size = A at hD ⊢
  have hA : ∀ q : Nat, s.heap.size ≤ q → A q := fun q h => by rw [← hAe]; exact Or.inr h
  clear hAe hD0
  have hS : va_S A s.heap s.heap [] := va_S.rf
  replace hP : va_P (dC, dI) vwCl [(xh, .inr (4, [x_program, x_flow, .ref mh, .int x_lastStatus])), (mh, .inr (2, [.int m_hasRun, .int m_thrown, .int m_thrownAt, .ref ma_values, m_meant, m_lanes, m_lengths, m_cells, .long m_state])), (ma_values, .inl (cI, 6, .inl mc_values))] s.heap := hP
  replace hD : va_D A [(xh, .inr (4, [x_program, x_flow, .ref mh, .int x_lastStatus])), (mh, .inr (2, [.int m_hasRun, .int m_thrown, .int m_thrownAt, .ref ma_values, m_meant, m_lanes, m_lengths, m_cells, .long m_state])), (ma_values, .inl (cI, 6, .inl mc_values))] := hD
  have hl := lv_entry ([.ref xh, .int xa]) (n := 2) (Nat.le_of_ble_eq_true rfl)
  rw [lg_entry_eq]
  generalize (lg_sl ([.ref xh, .int xa]) ++ List.replicate (2 - (lg_sl ([.ref xh, .int xa])).length) Slot.unset).toArray = ls at hl ⊢
  replace hl : lv_has ls 2 [(0, .ref xh), (1, .int xa)] := hl
  have z_0 : (0 : Int32).toInt = 0 := by decide
  have z_1 : (1 : Int32).toInt = 1 := by decide
  refine lv_iload_n hx hb dX4_value_0 rfl (lv_at hl 1 rfl) ?_
  refine vp_callSi (va_runS (As := [.int xa]) (rest := []) ⟨hx, hb, hml, hown, hts⟩ (s_X4_isVariable l xa) (va_cwS 1 hts h_X4_value_X4_isVariable_79 rfl rfl rfl (by decide +kernel) ⟨Nat.le_of_ble_eq_true rfl, Nat.le_of_ble_eq_true rfl⟩) ⟨fun _ _ _ _ q => q, fun _ _ _ => ⟨rfl, trivial⟩⟩ rfl rfl hl.1 rfl (lv_room (Nat.le_of_ble_eq_true rfl)) dX4_value_1 ⟨Nat.le_of_ble_eq_true rfl, Nat.le_of_ble_eq_true rfl⟩).run (fun r_1 hw_1 => ?_)
  replace hw_1 : (two r_1 (V6 xa) 1 0) := hw_1
  have q_r_1 := hw_1
  refine my_join (S := Int32) (fun u => True) (fun u => [(xh, .inr (4, [x_program, x_flow, .ref mh, .int x_lastStatus])), (mh, .inr (2, [.int m_hasRun, .int m_thrown, .int m_thrownAt, .ref ma_values, m_meant, m_lanes, m_lengths, m_cells, .long m_state])), (ma_values, .inl (cI, 6, .inl mc_values))]) (fun u => [(0, .ref xh), (1, .int xa)]) (fun u => [.int (u)]) (nL := 2) (H0 := s.heap) (A := A) (D := (dC, dI)) (cl := vwCl) 20 (fun u_3 hu_3 H_3 locs_3 ls1 hP1 hD1 hS1 hl1 => ?_) (fun jn_3 => ?_)
  · -- behind 20
    obtain ⟨v_4, rfl⟩ : ∃ z, z = u_3 := ⟨_, rfl⟩
    replace hP : va_P (dC, dI) vwCl [(xh, .inr (4, [x_program, x_flow, .ref mh, .int x_lastStatus])), (mh, .inr (2, [.int m_hasRun, .int m_thrown, .int m_thrownAt, .ref ma_values, m_meant, m_lanes, m_lengths, m_cells, .long m_state])), (ma_values, .inl (cI, 6, .inl mc_values))] H_3 := hP1
    replace hD : va_D A [(xh, .inr (4, [x_program, x_flow, .ref mh, .int x_lastStatus])), (mh, .inr (2, [.int m_hasRun, .int m_thrown, .int m_thrownAt, .ref ma_values, m_meant, m_lanes, m_lengths, m_cells, .long m_state])), (ma_values, .inl (cI, 6, .inl mc_values))] := hD1
    replace hS := hS1
    clear hP1 hD1 hS1
    replace hl : lv_has ls1 2 [(0, .ref xh), (1, .int xa)] := hl1
    clear hl1
    have hP9 := hP.sub (ws' := [(xh, .inr (4, [x_program, x_flow, .ref mh, .int x_lastStatus])), (mh, .inr (2, [.int m_hasRun, .int m_thrown, .int m_thrownAt, .ref ma_values, m_meant, m_lanes, m_lengths, m_cells, .long m_state])), (ma_values, .inl (cI, 6, .inl mc_values))]) [0, 1, 2] rfl
    have hD9 := hD.sub (ws' := [(xh, .inr (4, [x_program, x_flow, .ref mh, .int x_lastStatus])), (mh, .inr (2, [.int m_hasRun, .int m_thrown, .int m_thrownAt, .ref ma_values, m_meant, m_lanes, m_lengths, m_cells, .long m_state])), (ma_values, .inl (cI, 6, .inl mc_values))]) [0, 1, 2] (by decide) rfl
    exact W.iret (v := v_4) hx hb hr (fun t ht hW => ⟨⟨v_4, (), rfl, trivial, by rw [ht]; exact hP9, va_K.moved hW.alike hK, hD9⟩, hS.F ht⟩) hS.2.2 dX4_value_20
  · -- ahead of 20
    refine lv_if_eq (tgt := 19) hx hb dX4_value_4 (by decide) (fun c_5 => ?_) (fun c_5 => ?_)
    · -- yes
      have k_5 : r_1.toInt = (0 : Int32).toInt := ci_eq c_5
      have kt_5 : ¬ (V6 xa) := two_z q_r_1 c_5
      refine lv_iconst (v := 0) hx hb dX4_value_19 (by decide) ?_
      exact jn_3 (0 : Int32) (show True from trivial) _ _ _ (hP.sub [0, 1, 2] rfl) (hD.sub [0, 1, 2] (by decide) rfl) hS (lv_sub hl [0, 1] rfl)
    · -- no
      have k_5 : ¬ r_1.toInt = (0 : Int32).toInt := ci_ne c_5
      have kt_5 : V6 xa := two_nz q_r_1 c_5
      refine lv_aload_n hx hb dX4_value_7 rfl (lv_at hl 0 rfl) ?_
      refine va_get (D := (dC, dI)) (ci := 4) (v := .ref mh) (C := RX4) (T := TX4) (N := 4) hx hb hts inv_X4_value_X4 hown hK hP 0 rfl rfl 2 (by decide) (hts (.fieldLink RX4 26 "ArraySegments" "machine" "LArraySegments$Machine;") (List.mem_of_getElem? (i := 4) rfl)) (fun _ h9 => h9) rfl dX4_value_8 ?_
      refine va_get (D := (dC, dI)) (ci := 2) (v := .ref ma_values) (C := RX2) (T := TX2) (N := 9) hx hb hts inv_X4_value_X2 hown hK hP 1 rfl rfl 3 (by decide) (hts (.fieldLink RX4 156 "ArraySegments$Machine" "values" "[I") (List.mem_of_getElem? (i := 5) rfl)) (fun _ h9 => h9) rfl dX4_value_11 ?_
      refine lv_iload_n hx hb dX4_value_14 rfl (lv_at hl 1 rfl) ?_
      refine sf_iald kT hx hb hK hP 2 0 rfl rfl (fun _ => trivial) (vp_in_iff.mpr ⟨by omega, by omega⟩) dX4_value_15 (fun v_6 q_v_6 e_v_6 => ?_)
      refine lv_goto (tgt := 20) hx hb dX4_value_16 (by decide) ?_
      exact jn_3 v_6 (show True from trivial) _ _ _ (hP.sub [0, 1, 2] rfl) (hD.sub [0, 1, 2] (by decide) rfl) hS (lv_sub hl [0, 1] rfl)
