def v_X2_doLength : List Cond := .code yX2_doLength cX2_doLength 3 (some .int) :: ([.fieldLink RX2 22 "ArraySegments$Machine" "values" "[I", .fieldLink RX2 32 "ArraySegments$Machine" "lengths" "[I"] ++ (wsX20))
theorem inv_X2_doLength_X2 : ∀ w ∈ wsX20, w ∈ v_X2_doLength := fun _ h => List.mem_cons_of_mem _ (List.mem_append_right _ (h))
set_option maxRecDepth 20000 in
theorem gd_X2_doLength : gdL v_X2_doLength := gdC (gdW (by decide +kernel)) (gdA (gdW (by decide +kernel)) gd_wsX20)
abbrev sw_X2_doLength (cI cJ cZ : ClassId) (mh : Nat) (m_hasRun : Int32) (m_thrown : Int32) (m_thrownAt : Int32) (ma_values : Nat) (m_meant : Value) (m_lanes : Value) (ma_lengths : Nat) (m_cells : Value) (m_state : Int64) (mc_values : Nat → Int32) (mc_lengths : Nat → Int32) (xa : Int32) (arra : Int32) : va_W := [(mh, .inr (2, [.int m_hasRun, .int m_thrown, .int m_thrownAt, .ref ma_values, m_meant, m_lanes, .ref ma_lengths, m_cells, .long m_state])), (ma_values, .inl (cI, 6, .inl mc_values)), (ma_lengths, .inl (cI, 40, .inl mc_lengths))]
set_option maxHeartbeats 8000000 in
set_option maxRecDepth 100000 in
theorem s_X2_doLength (l : Launch) (dC : Nat → ClassId) (dI : Nat → Nat → Nat) (cI cJ cZ : ClassId) (mh : Nat) (m_hasRun : Int32) (m_thrown : Int32) (m_thrownAt : Int32) (ma_values : Nat) (m_meant : Value) (m_lanes : Value) (ma_lengths : Nat) (m_cells : Value) (m_state : Int64) (mc_values : Nat → Int32) (mc_lengths : Nat → Int32) (xa : Int32) (arra : Int32) (sz : Nat) (q_m_hasRun : kZ m_hasRun) (h_mc_lengths : ∀ j : Nat, kR012 (mc_lengths j)) (hy_xa : V6 xa) (hy_arra : -1 ≤ arra.toInt ∧ arra.toInt ≤ 39) : Met l yX2_doLength v_X2_doLength ({ frames := 0, cells := 0, slots := 0, locals := 0 }) (va_Pc [.ref mh, .int xa, .int arra] (cPre dC dI cI cJ cZ sz (sw_X2_doLength cI cJ cZ mh m_hasRun m_thrown m_thrownAt ma_values m_meant m_lanes ma_lengths m_cells m_state mc_values mc_lengths xa arra))) (va_Qi (fun (r : Int32) (u : (Nat → Int32)) => ((r.toInt = 0 ∧ 0 ≤ arra.toInt) ∨ (r.toInt = 1 ∧ arra.toInt < 0)) ∧ (¬ r.toInt = 0 ∨ upI mc_values (xa).toNatClampNeg (mc_lengths (arra).toNatClampNeg).toInt (u))) (fun (u : (Nat → Int32)) => cPost dC dI cI cJ cZ (va_A (sw_X2_doLength cI cJ cZ mh m_hasRun m_thrown m_thrownAt ma_values m_meant m_lanes ma_lengths m_cells m_state mc_values mc_lengths xa arra) sz) [(mh, .inr (2, [.int m_hasRun, .int m_thrown, .int m_thrownAt, .ref ma_values, m_meant, m_lanes, .ref ma_lengths, m_cells, .long m_state])), (ma_values, .inl (cI, 6, .inl (u))), (ma_lengths, .inl (cI, 40, .inl mc_lengths))]) (va_A (sw_X2_doLength cI cJ cZ mh m_hasRun m_thrown m_thrownAt ma_values m_meant m_lanes ma_lengths m_cells m_state mc_values mc_lengths xa arra) sz)) 0 0 (va_A (sw_X2_doLength cI cJ cZ mh m_hasRun m_thrown m_thrownAt ma_values m_meant m_lanes ma_lengths m_cells m_state mc_values mc_lengths xa arra) sz) := by
  refine Met.ofW (cc := cX2_doLength) (maxL := 3) (ret := (some .int)) (by decide) rfl ?_
  intro p e s m args below meth c s₁ B hml hv
  obtain ⟨rfl, hsz, hP, hK, hD0, hN⟩ := hv
  have hx := B.exec
  have hb := B.bytes
  have hr := B.returns
  have hts := atoms_spec (ws := v_X2_doLength) B.pre
  have hown : s.vm.findClass RX2 = some m.cls := findClass_of_methodNamed B.named
  have hlocks := B.notSynchronized
  subst hsz
  have hD := hD0.self (sz := s.heap.size)
  generalize hAe : va_A (sw_X2_doLength cI cJ cZ mh m_hasRun m_thrown m_thrownAt ma_values m_meant m_lanes ma_lengths m_cells m_state mc_values mc_lengths xa arra) s.heap.size = A at hD ⊢
  have hA : ∀ q : Nat, s.heap.size ≤ q → A q := fun q h => by rw [← hAe]; exact Or.inr h
  clear hAe hD0
  have hS : va_S A s.heap s.heap [] := va_S.rf
  replace hP : va_P (dC, dI) vwCl [(mh, .inr (2, [.int m_hasRun, .int m_thrown, .int m_thrownAt, .ref ma_values, m_meant, m_lanes, .ref ma_lengths, m_cells, .long m_state])), (ma_values, .inl (cI, 6, .inl mc_values)), (ma_lengths, .inl (cI, 40, .inl mc_lengths))] s.heap := hP
  replace hD : va_D A [(mh, .inr (2, [.int m_hasRun, .int m_thrown, .int m_thrownAt, .ref ma_values, m_meant, m_lanes, .ref ma_lengths, m_cells, .long m_state])), (ma_values, .inl (cI, 6, .inl mc_values)), (ma_lengths, .inl (cI, 40, .inl mc_lengths))] := hD
  have hl := lv_entry ([.ref mh, .int xa, .int arra]) (n := 3) (Nat.le_of_ble_eq_true rfl)
  rw [lg_entry_eq]
  generalize (lg_sl ([.ref mh, .int xa, .int arra]) ++ List.replicate (3 - (lg_sl ([.ref mh, .int xa, .int arra])).length) Slot.unset).toArray = ls at hl ⊢
  replace hl : lv_has ls 3 [(0, .ref mh), (1, .int xa), (2, .int arra)] := hl
  have z_0 : (0 : Int32).toInt = 0 := by decide
  have z_1 : (1 : Int32).toInt = 1 := by decide
  refine lv_iload_n hx hb dX2_doLength_0 rfl (lv_at hl 2 rfl) ?_
  refine lv_if_ge (tgt := 6) hx hb dX2_doLength_1 (by decide) (fun c_1 => ?_) (fun c_1 => ?_)
  · -- yes
    have k_1 : (0 : Int32).toInt ≤ arra.toInt := ci_ge c_1
    refine lv_aload_n hx hb dX2_doLength_6 rfl (lv_at hl 0 rfl) ?_
    refine va_get (D := (dC, dI)) (ci := 2) (v := .ref ma_values) (C := RX2) (T := TX2) (N := 9) hx hb hts inv_X2_doLength_X2 hown hK hP 0 rfl rfl 3 (by decide) (hts (.fieldLink RX2 22 "ArraySegments$Machine" "values" "[I") (List.mem_of_getElem? (i := 1) rfl)) (fun _ h9 => h9) rfl dX2_doLength_7 ?_
    refine lv_iload_n hx hb dX2_doLength_10 rfl (lv_at hl 1 rfl) ?_
    refine lv_aload_n hx hb dX2_doLength_11 rfl (lv_at hl 0 rfl) ?_
    refine va_get (D := (dC, dI)) (ci := 2) (v := .ref ma_lengths) (C := RX2) (T := TX2) (N := 9) hx hb hts inv_X2_doLength_X2 hown hK hP 0 rfl rfl 6 (by decide) (hts (.fieldLink RX2 32 "ArraySegments$Machine" "lengths" "[I") (List.mem_of_getElem? (i := 2) rfl)) (fun _ h9 => h9) rfl dX2_doLength_12 ?_
    refine lv_iload_n hx hb dX2_doLength_15 rfl (lv_at hl 2 rfl) ?_
    refine sf_iald kR012 hx hb hK hP 2 0 rfl rfl h_mc_lengths (vp_in_iff.mpr ⟨by omega, by omega⟩) dX2_doLength_16 (fun v_2 q_v_2 e_v_2 => ?_)
    have et_v_2 : v_2.toInt = (mc_lengths (arra).toNatClampNeg).toInt := by rw [e_v_2]
    have ni_3 := nn_cl (z := arra) (by omega)
    have ni_6 := nn_cl (z := xa) (by omega)
    refine sf_iastU kT hx hb hK hP hD hS 1 0 rfl rfl (fun _ => trivial) trivial (vp_in_iff.mpr ⟨by omega, by omega⟩) dX2_doLength_17 (fun f_4 h_f_4 u_f_4 H_5 locs_5 hP1 hD1 hS1 => ?_)
    replace hP : va_P (dC, dI) vwCl [(mh, .inr (2, [.int m_hasRun, .int m_thrown, .int m_thrownAt, .ref ma_values, m_meant, m_lanes, .ref ma_lengths, m_cells, .long m_state])), (ma_values, .inl (cI, 6, .inl f_4)), (ma_lengths, .inl (cI, 40, .inl mc_lengths))] H_5 := hP1
    replace hD : va_D A [(mh, .inr (2, [.int m_hasRun, .int m_thrown, .int m_thrownAt, .ref ma_values, m_meant, m_lanes, .ref ma_lengths, m_cells, .long m_state])), (ma_values, .inl (cI, 6, .inl f_4)), (ma_lengths, .inl (cI, 40, .inl mc_lengths))] := hD1
    replace hS := hS1
    clear hP1 hD1 hS1
    refine lv_iconst (v := 0) hx hb dX2_doLength_18 (by decide) ?_
    have hP9 := hP.sub (ws' := [(mh, .inr (2, [.int m_hasRun, .int m_thrown, .int m_thrownAt, .ref ma_values, m_meant, m_lanes, .ref ma_lengths, m_cells, .long m_state])), (ma_values, .inl (cI, 6, .inl f_4)), (ma_lengths, .inl (cI, 40, .inl mc_lengths))]) [0, 1, 2] rfl
    have hD9 := hD.sub (ws' := [(mh, .inr (2, [.int m_hasRun, .int m_thrown, .int m_thrownAt, .ref ma_values, m_meant, m_lanes, .ref ma_lengths, m_cells, .long m_state])), (ma_values, .inl (cI, 6, .inl f_4)), (ma_lengths, .inl (cI, 40, .inl mc_lengths))]) [0, 1, 2] (by decide) rfl
    exact W.iret (v := 0) hx hb hr (fun t ht hW => ⟨⟨0, f_4, rfl, ⟨(show ((0 : Int32).toInt = 0 ∧ 0 ≤ arra.toInt) ∨ ((0 : Int32).toInt = 1 ∧ arra.toInt < 0) from (by omega)), (show ¬ (0 : Int32).toInt = 0 ∨ upI mc_values (xa).toNatClampNeg (mc_lengths (arra).toNatClampNeg).toInt f_4 from (Or.inr (fun j => by have b0 := u_f_4 j; omega)))⟩, by rw [ht]; exact hP9, va_K.moved hW.alike hK, hD9⟩, hS.F ht⟩) hS.2.2 dX2_doLength_19
  · -- no
    have k_1 : arra.toInt < (0 : Int32).toInt := ci_nge c_1
    refine lv_iconst (v := 1) hx hb dX2_doLength_4 (by decide) ?_
    have hP9 := hP.sub (ws' := [(mh, .inr (2, [.int m_hasRun, .int m_thrown, .int m_thrownAt, .ref ma_values, m_meant, m_lanes, .ref ma_lengths, m_cells, .long m_state])), (ma_values, .inl (cI, 6, .inl mc_values)), (ma_lengths, .inl (cI, 40, .inl mc_lengths))]) [0, 1, 2] rfl
    have hD9 := hD.sub (ws' := [(mh, .inr (2, [.int m_hasRun, .int m_thrown, .int m_thrownAt, .ref ma_values, m_meant, m_lanes, .ref ma_lengths, m_cells, .long m_state])), (ma_values, .inl (cI, 6, .inl mc_values)), (ma_lengths, .inl (cI, 40, .inl mc_lengths))]) [0, 1, 2] (by decide) rfl
    exact W.iret (v := 1) hx hb hr (fun t ht hW => ⟨⟨1, mc_values, rfl, ⟨(show ((1 : Int32).toInt = 0 ∧ 0 ≤ arra.toInt) ∨ ((1 : Int32).toInt = 1 ∧ arra.toInt < 0) from (by omega)), (show ¬ (1 : Int32).toInt = 0 ∨ upI mc_values (xa).toNatClampNeg (mc_lengths (arra).toNatClampNeg).toInt mc_values from (Or.inl (by decide)))⟩, by rw [ht]; exact hP9, va_K.moved hW.alike hK, hD9⟩, hS.F ht⟩) hS.2.2 dX2_doLength_5
