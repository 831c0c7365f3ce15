def v_X4_same : List Cond := .code yX4_same cX4_same 3 (some .int) :: ([.methodLink RX4 95 yX4_isReference, .static yX4_isReference, .initialized RX4, .fieldLink RX4 26 "ArraySegments" "machine" "LArraySegments$Machine;", .fieldLink RX4 168 "ArraySegments$Machine" "hasRun" "Z", .fieldLink RX4 159 "ArraySegments$Machine" "meant" "[I"] ++ (wsX40 ++ (wsX20 ++ (v_X4_isReference))))
theorem inv_X4_same_X4 : ∀ w ∈ wsX40, w ∈ v_X4_same := fun _ h => List.mem_cons_of_mem _ (List.mem_append_right _ (List.mem_append_left _ h))
theorem inv_X4_same_X2 : ∀ w ∈ wsX20, w ∈ v_X4_same := fun _ h => List.mem_cons_of_mem _ (List.mem_append_right _ (List.mem_append_right _ (List.mem_append_left _ h)))
theorem im_X4_same_X4_isReference : ∀ w ∈ v_X4_isReference, w ∈ v_X4_same := fun _ h => List.mem_cons_of_mem _ (List.mem_append_right _ (List.mem_append_right _ (List.mem_append_right _ (h))))
set_option maxRecDepth 20000 in
theorem gd_X4_same : gdL v_X4_same := gdC (gdW (by decide +kernel)) (gdA (gdW (by decide +kernel)) (gdA gd_wsX40 (gdA gd_wsX20 gd_X4_isReference)))
set_option maxRecDepth 20000 in
theorem h_X4_same_X4_isReference_95 : GoodIn v_X4_same (va_wsS RX4 95 yX4_isReference v_X4_isReference) := gdI [1, 2, 3] rfl (by decide +kernel) (im_X4_same_X4_isReference) gd_X4_isReference
abbrev sw_X4_same (cI cJ cZ : ClassId) (xh : Nat) (x_program : Value) (x_flow : Value) (mh : Nat) (x_lastStatus : Int32) (m_hasRun : Int32) (m_thrown : Int32) (m_thrownAt : Int32) (m_values : Value) (ma_meant : Nat) (m_lanes : Value) (m_lengths : Value) (m_cells : Value) (m_state : Int64) (mc_meant : Nat → Int32) (ra : Int32) (sa : Int32) : va_W := [(xh, .inr (4, [x_program, x_flow, .ref mh, .int x_lastStatus])), (mh, .inr (2, [.int m_hasRun, .int m_thrown, .int m_thrownAt, m_values, .ref ma_meant, m_lanes, m_lengths, m_cells, .long m_state])), (ma_meant, .inl (cI, 6, .inl mc_meant))]
set_option maxHeartbeats 8000000 in
set_option maxRecDepth 100000 in
theorem s_X4_same (l : Launch) (dC : Nat → ClassId) (dI : Nat → Nat → Nat) (cI cJ cZ : ClassId) (xh : Nat) (x_program : Value) (x_flow : Value) (mh : Nat) (x_lastStatus : Int32) (m_hasRun : Int32) (m_thrown : Int32) (m_thrownAt : Int32) (m_values : Value) (ma_meant : Nat) (m_lanes : Value) (m_lengths : Value) (m_cells : Value) (m_state : Int64) (mc_meant : Nat → Int32) (ra : Int32) (sa : Int32) (sz : Nat) (q_m_hasRun : kZ m_hasRun) (h_mc_meant : ∀ j : Nat, kSITE (mc_meant j)) : Met l yX4_same v_X4_same ({ frames := 1, cells := 0, slots := 0, locals := 20 }) (va_Pc [.ref xh, .int ra, .int sa] (cPre dC dI cI cJ cZ sz (sw_X4_same cI cJ cZ xh x_program x_flow mh x_lastStatus m_hasRun m_thrown m_thrownAt m_values ma_meant m_lanes m_lengths m_cells m_state mc_meant ra sa))) (va_Qi (fun (r : Int32) (u : Unit) => True) (fun (u : Unit) => cPost dC dI cI cJ cZ (va_A (sw_X4_same cI cJ cZ xh x_program x_flow mh x_lastStatus m_hasRun m_thrown m_thrownAt m_values ma_meant m_lanes m_lengths m_cells m_state mc_meant ra sa) sz) [(xh, .inr (4, [x_program, x_flow, .ref mh, .int x_lastStatus])), (mh, .inr (2, [.int m_hasRun, .int m_thrown, .int m_thrownAt, m_values, .ref ma_meant, m_lanes, m_lengths, m_cells, .long m_state])), (ma_meant, .inl (cI, 6, .inl mc_meant))]) (va_A (sw_X4_same cI cJ cZ xh x_program x_flow mh x_lastStatus m_hasRun m_thrown m_thrownAt m_values ma_meant m_lanes m_lengths m_cells m_state mc_meant ra sa) sz)) 0 0 (va_A (sw_X4_same cI cJ cZ xh x_program x_flow mh x_lastStatus m_hasRun m_thrown m_thrownAt m_values ma_meant m_lanes m_lengths m_cells m_state mc_meant ra sa) sz) := by
  refine Met.ofW (cc := cX4_same) (maxL := 3) (ret := (some .int)) (by decide) rfl ?_
  intro p e s m args below meth c s₁ B hml hv
  obtain ⟨rfl, hsz, hP, hK, hD0, hN⟩ := hv
  have hx := B.exec
  have hb := B.bytes
  have hr := B.returns
  have hts := atoms_spec (ws := v_X4_same) B.pre
  have hown : s.vm.findClass RX4 = some m.cls := findClass_of_methodNamed B.named
  have hlocks := B.notSynchronized
  subst hsz
  have hD := hD0.self (sz := s.heap.size)
  generalize hAe : va_A (sw_X4_same cI cJ cZ xh x_program x_flow mh x_lastStatus m_hasRun m_thrown m_thrownAt m_values ma_meant m_lanes m_lengths m_cells m_state mc_meant ra sa) s.heap.size = A at hD ⊢
  have hA : ∀ q : Nat, s.heap.size ≤ q → A q := fun q h => by rw [← hAe]; exact Or.inr h
  clear hAe hD0
  have hS : va_S A s.heap s.heap [] := va_S.rf
  replace hP : va_P (dC, dI) vwCl [(xh, .inr (4, [x_program, x_flow, .ref mh, .int x_lastStatus])), (mh, .inr (2, [.int m_hasRun, .int m_thrown, .int m_thrownAt, m_values, .ref ma_meant, m_lanes, m_lengths, m_cells, .long m_state])), (ma_meant, .inl (cI, 6, .inl mc_meant))] s.heap := hP
  replace hD : va_D A [(xh, .inr (4, [x_program, x_flow, .ref mh, .int x_lastStatus])), (mh, .inr (2, [.int m_hasRun, .int m_thrown, .int m_thrownAt, m_values, .ref ma_meant, m_lanes, m_lengths, m_cells, .long m_state])), (ma_meant, .inl (cI, 6, .inl mc_meant))] := hD
  have hl := lv_entry ([.ref xh, .int ra, .int sa]) (n := 3) (Nat.le_of_ble_eq_true rfl)
  rw [lg_entry_eq]
  generalize (lg_sl ([.ref xh, .int ra, .int sa]) ++ List.replicate (3 - (lg_sl ([.ref xh, .int ra, .int sa])).length) Slot.unset).toArray = ls at hl ⊢
  replace hl : lv_has ls 3 [(0, .ref xh), (1, .int ra), (2, .int sa)] := hl
  have z_m3 : (-3 : Int32).toInt = -3 := by decide
  have z_m2 : (-2 : Int32).toInt = -2 := by decide
  have z_0 : (0 : Int32).toInt = 0 := by decide
  have z_1 : (1 : Int32).toInt = 1 := by decide
  refine lv_iload_n hx hb dX4_same_0 rfl (lv_at hl 1 rfl) ?_
  refine vp_callSi (va_runS (As := [.int ra]) (rest := []) ⟨hx, hb, hml, hown, hts⟩ (s_X4_isReference l ra) (va_cwS 1 hts h_X4_same_X4_isReference_95 rfl rfl rfl (by decide +kernel) ⟨Nat.le_of_ble_eq_true rfl, Nat.le_of_ble_eq_true rfl⟩) ⟨fun _ _ _ _ q => q, fun _ _ _ => ⟨rfl, trivial⟩⟩ rfl rfl hl.1 rfl (lv_room (Nat.le_of_ble_eq_true rfl)) dX4_same_1 ⟨Nat.le_of_ble_eq_true rfl, Nat.le_of_ble_eq_true rfl⟩).run (fun r_1 hw_1 => ?_)
  replace hw_1 : (two r_1 (V6 ra) 1 0) := hw_1
  have q_r_1 := hw_1
  refine lv_if_eq (tgt := 14) hx hb dX4_same_4 (by decide) (fun c_2 => ?_) (fun c_2 => ?_)
  · -- yes
    have k_2 : r_1.toInt = (0 : Int32).toInt := ci_eq c_2
    have kt_2 : ¬ (V6 ra) := two_z q_r_1 c_2
    refine lv_bipush (v := (-2)) hx hb dX4_same_14 (by decide) ?_
    have hP9 := hP.sub (ws' := [(xh, .inr (4, [x_program, x_flow, .ref mh, .int x_lastStatus])), (mh, .inr (2, [.int m_hasRun, .int m_thrown, .int m_thrownAt, m_values, .ref ma_meant, m_lanes, m_lengths, m_cells, .long m_state])), (ma_meant, .inl (cI, 6, .inl mc_meant))]) [0, 1, 2] rfl
    have hD9 := hD.sub (ws' := [(xh, .inr (4, [x_program, x_flow, .ref mh, .int x_lastStatus])), (mh, .inr (2, [.int m_hasRun, .int m_thrown, .int m_thrownAt, m_values, .ref ma_meant, m_lanes, m_lengths, m_cells, .long m_state])), (ma_meant, .inl (cI, 6, .inl mc_meant))]) [0, 1, 2] (by decide) rfl
    exact W.iret (v := (-2)) hx hb hr (fun t ht hW => ⟨⟨(-2), (), rfl, trivial, by rw [ht]; exact hP9, va_K.moved hW.alike hK, hD9⟩, hS.F ht⟩) hS.2.2 dX4_same_16
  · -- no
    have k_2 : ¬ r_1.toInt = (0 : Int32).toInt := ci_ne c_2
    have kt_2 : V6 ra := two_nz q_r_1 c_2
    refine lv_iload_n hx hb dX4_same_7 rfl (lv_at hl 2 rfl) ?_
    refine vp_callSi (va_runS (As := [.int sa]) (rest := []) ⟨hx, hb, hml, hown, hts⟩ (s_X4_isReference l sa) (va_cwS 1 hts h_X4_same_X4_isReference_95 rfl rfl rfl (by decide +kernel) ⟨Nat.le_of_ble_eq_true rfl, Nat.le_of_ble_eq_true rfl⟩) ⟨fun _ _ _ _ q => q, fun _ _ _ => ⟨rfl, trivial⟩⟩ rfl rfl hl.1 rfl (lv_room (Nat.le_of_ble_eq_true rfl)) dX4_same_8 ⟨Nat.le_of_ble_eq_true rfl, Nat.le_of_ble_eq_true rfl⟩).run (fun r_3 hw_3 => ?_)
    replace hw_3 : (two r_3 (V6 sa) 1 0) := hw_3
    have q_r_3 := hw_3
    refine lv_if_ne (tgt := 17) hx hb dX4_same_11 (by decide) (fun c_4 => ?_) (fun c_4 => ?_)
    · -- yes
      have k_4 : ¬ r_3.toInt = (0 : Int32).toInt := ci_ne c_4
      have kt_4 : V6 sa := two_nz q_r_3 c_4
      refine lv_aload_n hx hb dX4_same_17 rfl (lv_at hl 0 rfl) ?_
      refine va_get (D := (dC, dI)) (ci := 4) (v := .ref mh) (C := RX4) (T := TX4) (N := 4) hx hb hts inv_X4_same_X4 hown hK hP 0 rfl rfl 2 (by decide) (hts (.fieldLink RX4 26 "ArraySegments" "machine" "LArraySegments$Machine;") (List.mem_of_getElem? (i := 4) rfl)) (fun _ h9 => h9) rfl dX4_same_18 ?_
      refine va_get (D := (dC, dI)) (ci := 2) (v := .int m_hasRun) (C := RX2) (T := TX2) (N := 9) hx hb hts inv_X4_same_X2 hown hK hP 1 rfl rfl 0 (by decide) (hts (.fieldLink RX4 168 "ArraySegments$Machine" "hasRun" "Z") (List.mem_of_getElem? (i := 5) rfl)) (fun _ h9 => h9) rfl dX4_same_21 ?_
      refine lv_if_ne (tgt := 30) hx hb dX4_same_24 (by decide) (fun c_5 => ?_) (fun c_5 => ?_)
      · -- yes
        have k_5 : ¬ m_hasRun.toInt = (0 : Int32).toInt := ci_ne c_5
        refine lv_aload_n hx hb dX4_same_30 rfl (lv_at hl 0 rfl) ?_
        refine va_get (D := (dC, dI)) (ci := 4) (v := .ref mh) (C := RX4) (T := TX4) (N := 4) hx hb hts inv_X4_same_X4 hown hK hP 0 rfl rfl 2 (by decide) (hts (.fieldLink RX4 26 "ArraySegments" "machine" "LArraySegments$Machine;") (List.mem_of_getElem? (i := 4) rfl)) (fun _ h9 => h9) rfl dX4_same_31 ?_
        refine va_get (D := (dC, dI)) (ci := 2) (v := .ref ma_meant) (C := RX2) (T := TX2) (N := 9) hx hb hts inv_X4_same_X2 hown hK hP 1 rfl rfl 4 (by decide) (hts (.fieldLink RX4 159 "ArraySegments$Machine" "meant" "[I") (List.mem_of_getElem? (i := 6) rfl)) (fun _ h9 => h9) rfl dX4_same_34 ?_
        refine lv_iload_n hx hb dX4_same_37 rfl (lv_at hl 1 rfl) ?_
        refine sf_iald kSITE hx hb hK hP 2 0 rfl rfl h_mc_meant (vp_in_iff.mpr ⟨by omega, by omega⟩) dX4_same_38 (fun v_6 q_v_6 e_v_6 => ?_)
        refine lv_aload_n hx hb dX4_same_39 rfl (lv_at hl 0 rfl) ?_
        refine va_get (D := (dC, dI)) (ci := 4) (v := .ref mh) (C := RX4) (T := TX4) (N := 4) hx hb hts inv_X4_same_X4 hown hK hP 0 rfl rfl 2 (by decide) (hts (.fieldLink RX4 26 "ArraySegments" "machine" "LArraySegments$Machine;") (List.mem_of_getElem? (i := 4) rfl)) (fun _ h9 => h9) rfl dX4_same_40 ?_
        refine va_get (D := (dC, dI)) (ci := 2) (v := .ref ma_meant) (C := RX2) (T := TX2) (N := 9) hx hb hts inv_X4_same_X2 hown hK hP 1 rfl rfl 4 (by decide) (hts (.fieldLink RX4 159 "ArraySegments$Machine" "meant" "[I") (List.mem_of_getElem? (i := 6) rfl)) (fun _ h9 => h9) rfl dX4_same_43 ?_
        refine lv_iload_n hx hb dX4_same_46 rfl (lv_at hl 2 rfl) ?_
        refine sf_iald kSITE hx hb hK hP 2 0 rfl rfl h_mc_meant (vp_in_iff.mpr ⟨by omega, by omega⟩) dX4_same_47 (fun v_7 q_v_7 e_v_7 => ?_)
        refine my_join (S := Int32) (fun u => (kZ (u))) (fun u => [(xh, .inr (4, [x_program, x_flow, .ref mh, .int x_lastStatus])), (mh, .inr (2, [.int m_hasRun, .int m_thrown, .int m_thrownAt, m_values, .ref ma_meant, m_lanes, m_lengths, m_cells, .long m_state])), (ma_meant, .inl (cI, 6, .inl mc_meant))]) (fun u => [(0, .ref xh), (1, .int ra), (2, .int sa)]) (fun u => [.int (u)]) (nL := 3) (H0 := s.heap) (A := A) (D := (dC, dI)) (cl := vwCl) 56 (fun u_9 hu_9 H_9 locs_9 ls1 hP1 hD1 hS1 hl1 => ?_) (fun jn_9 => ?_)
        · -- behind 56
          obtain ⟨v_10, rfl⟩ : ∃ z, z = u_9 := ⟨_, rfl⟩
          replace hu_9 : (kZ v_10) := hu_9
          have q_v_10 := hu_9
          replace hP : va_P (dC, dI) vwCl [(xh, .inr (4, [x_program, x_flow, .ref mh, .int x_lastStatus])), (mh, .inr (2, [.int m_hasRun, .int m_thrown, .int m_thrownAt, m_values, .ref ma_meant, m_lanes, m_lengths, m_cells, .long m_state])), (ma_meant, .inl (cI, 6, .inl mc_meant))] H_9 := hP1
          replace hD : va_D A [(xh, .inr (4, [x_program, x_flow, .ref mh, .int x_lastStatus])), (mh, .inr (2, [.int m_hasRun, .int m_thrown, .int m_thrownAt, m_values, .ref ma_meant, m_lanes, m_lengths, m_cells, .long m_state])), (ma_meant, .inl (cI, 6, .inl mc_meant))] := hD1
          replace hS := hS1
          clear hP1 hD1 hS1
          replace hl : lv_has ls1 3 [(0, .ref xh), (1, .int ra), (2, .int sa)] := hl1
          clear hl1
          have hP9 := hP.sub (ws' := [(xh, .inr (4, [x_program, x_flow, .ref mh, .int x_lastStatus])), (mh, .inr (2, [.int m_hasRun, .int m_thrown, .int m_thrownAt, m_values, .ref ma_meant, m_lanes, m_lengths, m_cells, .long m_state])), (ma_meant, .inl (cI, 6, .inl mc_meant))]) [0, 1, 2] rfl
          have hD9 := hD.sub (ws' := [(xh, .inr (4, [x_program, x_flow, .ref mh, .int x_lastStatus])), (mh, .inr (2, [.int m_hasRun, .int m_thrown, .int m_thrownAt, m_values, .ref ma_meant, m_lanes, m_lengths, m_cells, .long m_state])), (ma_meant, .inl (cI, 6, .inl mc_meant))]) [0, 1, 2] (by decide) rfl
          exact W.iret (v := v_10) hx hb hr (fun t ht hW => ⟨⟨v_10, (), rfl, trivial, by rw [ht]; exact hP9, va_K.moved hW.alike hK, hD9⟩, hS.F ht⟩) hS.2.2 dX4_same_56
        · -- ahead of 56
          refine lv_icmp_ne (tgt := 55) hx hb dX4_same_48 (by decide) (fun c_11 => ?_) (fun c_11 => ?_)
          · -- yes
            have k_11 : ¬ v_6.toInt = v_7.toInt := ci_ne c_11
            refine lv_iconst (v := 0) hx hb dX4_same_55 (by decide) ?_
            exact jn_9 (0 : Int32) (show (kZ (0 : Int32)) from (by decide)) _ _ _ (hP.sub [0, 1, 2] rfl) (hD.sub [0, 1, 2] (by decide) rfl) hS (lv_sub hl [0, 1, 2] rfl)
          · -- no
            have k_11 : v_6.toInt = v_7.toInt := ci_eq c_11
            refine lv_iconst (v := 1) hx hb dX4_same_51 (by decide) ?_
            refine lv_goto (tgt := 56) hx hb dX4_same_52 (by decide) ?_
            exact jn_9 (1 : Int32) (show (kZ (1 : Int32)) from (by decide)) _ _ _ (hP.sub [0, 1, 2] rfl) (hD.sub [0, 1, 2] (by decide) rfl) hS (lv_sub hl [0, 1, 2] rfl)
      · -- no
        have k_5 : m_hasRun.toInt = (0 : Int32).toInt := ci_eq c_5
        refine lv_bipush (v := (-3)) hx hb dX4_same_27 (by decide) ?_
        have hP9 := hP.sub (ws' := [(xh, .inr (4, [x_program, x_flow, .ref mh, .int x_lastStatus])), (mh, .inr (2, [.int m_hasRun, .int m_thrown, .int m_thrownAt, m_values, .ref ma_meant, m_lanes, m_lengths, m_cells, .long m_state])), (ma_meant, .inl (cI, 6, .inl mc_meant))]) [0, 1, 2] rfl
        have hD9 := hD.sub (ws' := [(xh, .inr (4, [x_program, x_flow, .ref mh, .int x_lastStatus])), (mh, .inr (2, [.int m_hasRun, .int m_thrown, .int m_thrownAt, m_values, .ref ma_meant, m_lanes, m_lengths, m_cells, .long m_state])), (ma_meant, .inl (cI, 6, .inl mc_meant))]) [0, 1, 2] (by decide) rfl
        exact W.iret (v := (-3)) hx hb hr (fun t ht hW => ⟨⟨(-3), (), rfl, trivial, by rw [ht]; exact hP9, va_K.moved hW.alike hK, hD9⟩, hS.F ht⟩) hS.2.2 dX4_same_29
    · -- no
      have k_4 : r_3.toInt = (0 : Int32).toInt := ci_eq c_4
      have kt_4 : ¬ (V6 sa) := two_z q_r_3 c_4
      refine lv_bipush (v := (-2)) hx hb dX4_same_14 (by decide) ?_
      have hP9 := hP.sub (ws' := [(xh, .inr (4, [x_program, x_flow, .ref mh, .int x_lastStatus])), (mh, .inr (2, [.int m_hasRun, .int m_thrown, .int m_thrownAt, m_values, .ref ma_meant, m_lanes, m_lengths, m_cells, .long m_state])), (ma_meant, .inl (cI, 6, .inl mc_meant))]) [0, 1, 2] rfl
      have hD9 := hD.sub (ws' := [(xh, .inr (4, [x_program, x_flow, .ref mh, .int x_lastStatus])), (mh, .inr (2, [.int m_hasRun, .int m_thrown, .int m_thrownAt, m_values, .ref ma_meant, m_lanes, m_lengths, m_cells, .long m_state])), (ma_meant, .inl (cI, 6, .inl mc_meant))]) [0, 1, 2] (by decide) rfl
      exact W.iret (v := (-2)) hx hb hr (fun t ht hW => ⟨⟨(-2), (), rfl, trivial, by rw [ht]; exact hP9, va_K.moved hW.alike hK, hD9⟩, hS.F ht⟩) hS.2.2 dX4_same_16
