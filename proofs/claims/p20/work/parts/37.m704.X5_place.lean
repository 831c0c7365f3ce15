def v_X5_place : List Cond := .code yX5_place cX5_place 4 (some .int) :: ([.methodLink RX5 115 yX5_isName, .static yX5_isName, .initialized RX5, .fieldLink RX5 75 "ArraySegmentsModel" "means" "[I", .fieldLink RX5 81 "ArraySegmentsModel" "sizeOf" "[I", .fieldLink RX5 84 "ArraySegmentsModel" "cells" "[I"] ++ (wsX50 ++ (v_X5_isName)))
theorem inv_X5_place_X5 : ∀ w ∈ wsX50, w ∈ v_X5_place := fun _ h => List.mem_cons_of_mem _ (List.mem_append_right _ (List.mem_append_left _ h))
theorem im_X5_place_X5_isName : ∀ w ∈ v_X5_isName, w ∈ v_X5_place := fun _ h => List.mem_cons_of_mem _ (List.mem_append_right _ (List.mem_append_right _ (h)))
set_option maxRecDepth 20000 in
theorem gd_X5_place : gdL v_X5_place := gdC (gdW (by decide +kernel)) (gdA (gdW (by decide +kernel)) (gdA gd_wsX50 gd_X5_isName))
set_option maxRecDepth 20000 in
theorem h_X5_place_X5_isName_115 : GoodIn v_X5_place (va_wsS RX5 115 yX5_isName v_X5_isName) := gdI [1, 2, 3] rfl (by decide +kernel) (im_X5_place_X5_isName) gd_X5_isName
abbrev sw_X5_place (cI cJ cZ : ClassId) (gh : Nat) (g_acts : Int32) (g_kind : Value) (g_na : Value) (g_nb : Value) (g_nc : Value) (g_nd : Value) (g_ne : Value) (g_dropped : Value) (g_live : Value) (g_low : Value) (g_high : Value) (g_sites : Value) (g_nulls : Value) (g_there : Value) (g_lanes : Value) (g_least : Value) (g_most : Value) (g_placeLow : Value) (g_placeHigh : Value) (g_reached : Value) (g_mayThrow : Value) (g_status : Int32) (g_hasRun : Int32) (g_threw : Int32) (g_whereThrown : Int32) (g_value : Value) (ga_means : Nat) (g_laneOf : Value) (ga_sizeOf : Nat) (ga_cells : Nat) (g_copied : Value) (g_state : Int64) (g_joinedLow : Int64) (g_joinedHigh : Int64) (g_keptLow : Value) (g_keptHigh : Value) (gc_means : Nat → Int32) (gc_sizeOf : Nat → Int32) (gc_cells : Nat → Int32) (ra : Int32) (ia : Int32) : va_W := [(gh, .inr (5, [.int g_acts, g_kind, g_na, g_nb, g_nc, g_nd, g_ne, g_dropped, g_live, g_low, g_high, g_sites, g_nulls, g_there, g_lanes, g_least, g_most, g_placeLow, g_placeHigh, g_reached, g_mayThrow, .int g_status, .int g_hasRun, .int g_threw, .int g_whereThrown, g_value, .ref ga_means, g_laneOf, .ref ga_sizeOf, .ref ga_cells, g_copied, .long g_state, .long g_joinedLow, .long g_joinedHigh, g_keptLow, g_keptHigh])), (ga_means, .inl (cI, 6, .inl gc_means)), (ga_sizeOf, .inl (cI, 40, .inl gc_sizeOf)), (ga_cells, .inl (cI, 480, .inl gc_cells))]
set_option maxHeartbeats 8000000 in
set_option maxRecDepth 100000 in
theorem s_X5_place (l : Launch) (dC : Nat → ClassId) (dI : Nat → Nat → Nat) (cI cJ cZ : ClassId) (gh : Nat) (g_acts : Int32) (g_kind : Value) (g_na : Value) (g_nb : Value) (g_nc : Value) (g_nd : Value) (g_ne : Value) (g_dropped : Value) (g_live : Value) (g_low : Value) (g_high : Value) (g_sites : Value) (g_nulls : Value) (g_there : Value) (g_lanes : Value) (g_least : Value) (g_most : Value) (g_placeLow : Value) (g_placeHigh : Value) (g_reached : Value) (g_mayThrow : Value) (g_status : Int32) (g_hasRun : Int32) (g_threw : Int32) (g_whereThrown : Int32) (g_value : Value) (ga_means : Nat) (g_laneOf : Value) (ga_sizeOf : Nat) (ga_cells : Nat) (g_copied : Value) (g_state : Int64) (g_joinedLow : Int64) (g_joinedHigh : Int64) (g_keptLow : Value) (g_keptHigh : Value) (gc_means : Nat → Int32) (gc_sizeOf : Nat → Int32) (gc_cells : Nat → Int32) (ra : Int32) (ia : Int32) (sz : Nat) (q_g_hasRun : kZ g_hasRun) (h_gc_means : ∀ j : Nat, kSITE (gc_means j)) (h_gc_sizeOf : ∀ j : Nat, kR012 (gc_sizeOf j)) : Met l yX5_place v_X5_place ({ frames := 1, cells := 0, slots := 0, locals := 20 }) (va_Pc [.ref gh, .int ra, .int ia] (cPre dC dI cI cJ cZ sz (sw_X5_place cI cJ cZ gh g_acts g_kind g_na g_nb g_nc g_nd g_ne g_dropped g_live g_low g_high g_sites g_nulls g_there g_lanes g_least g_most g_placeLow g_placeHigh g_reached g_mayThrow g_status g_hasRun g_threw g_whereThrown g_value ga_means g_laneOf ga_sizeOf ga_cells g_copied g_state g_joinedLow g_joinedHigh g_keptLow g_keptHigh gc_means gc_sizeOf gc_cells ra ia))) (va_Qi (fun (r : Int32) (u : Unit) => True) (fun (u : Unit) => cPost dC dI cI cJ cZ (va_A (sw_X5_place cI cJ cZ gh g_acts g_kind g_na g_nb g_nc g_nd g_ne g_dropped g_live g_low g_high g_sites g_nulls g_there g_lanes g_least g_most g_placeLow g_placeHigh g_reached g_mayThrow g_status g_hasRun g_threw g_whereThrown g_value ga_means g_laneOf ga_sizeOf ga_cells g_copied g_state g_joinedLow g_joinedHigh g_keptLow g_keptHigh gc_means gc_sizeOf gc_cells ra ia) sz) [(gh, .inr (5, [.int g_acts, g_kind, g_na, g_nb, g_nc, g_nd, g_ne, g_dropped, g_live, g_low, g_high, g_sites, g_nulls, g_there, g_lanes, g_least, g_most, g_placeLow, g_placeHigh, g_reached, g_mayThrow, .int g_status, .int g_hasRun, .int g_threw, .int g_whereThrown, g_value, .ref ga_means, g_laneOf, .ref ga_sizeOf, .ref ga_cells, g_copied, .long g_state, .long g_joinedLow, .long g_joinedHigh, g_keptLow, g_keptHigh])), (ga_means, .inl (cI, 6, .inl gc_means)), (ga_sizeOf, .inl (cI, 40, .inl gc_sizeOf)), (ga_cells, .inl (cI, 480, .inl gc_cells))]) (va_A (sw_X5_place cI cJ cZ gh g_acts g_kind g_na g_nb g_nc g_nd g_ne g_dropped g_live g_low g_high g_sites g_nulls g_there g_lanes g_least g_most g_placeLow g_placeHigh g_reached g_mayThrow g_status g_hasRun g_threw g_whereThrown g_value ga_means g_laneOf ga_sizeOf ga_cells g_copied g_state g_joinedLow g_joinedHigh g_keptLow g_keptHigh gc_means gc_sizeOf gc_cells ra ia) sz)) 0 0 (va_A (sw_X5_place cI cJ cZ gh g_acts g_kind g_na g_nb g_nc g_nd g_ne g_dropped g_live g_low g_high g_sites g_nulls g_there g_lanes g_least g_most g_placeLow g_placeHigh g_reached g_mayThrow g_status g_hasRun g_threw g_whereThrown g_value ga_means g_laneOf ga_sizeOf ga_cells g_copied g_state g_joinedLow g_joinedHigh g_keptLow g_keptHigh gc_means gc_sizeOf gc_cells ra ia) sz) := by
  refine Met.ofW (cc := cX5_place) (maxL := 4) (ret := (some .int)) (by decide) rfl ?_
  intro p e s m args below meth c s₁ B hml hv
  obtain ⟨rfl, hsz, hP, hK, hD0, hN⟩ := hv
  have hx := B.exec
  have hb := B.bytes
  have hr := B.returns
  have hts := atoms_spec (ws := v_X5_place) B.pre
  have hown : s.vm.findClass RX5 = some m.cls := findClass_of_methodNamed B.named
  have hlocks := B.notSynchronized
  subst hsz
  have hD := hD0.self (sz := s.heap.size)
  generalize hAe : va_A (sw_X5_place cI cJ cZ gh g_acts g_kind g_na g_nb g_nc g_nd g_ne g_dropped g_live g_low g_high g_sites g_nulls g_there g_lanes g_least g_most g_placeLow g_placeHigh g_reached g_mayThrow g_status g_hasRun g_threw g_whereThrown g_value ga_means g_laneOf ga_sizeOf ga_cells g_copied g_state g_joinedLow g_joinedHigh g_keptLow g_keptHigh gc_means gc_sizeOf gc_cells ra ia) s.heap.size = A at hD ⊢
  have hA : ∀ q : Nat, s.heap.size ≤ q → A q := fun q h => by rw [← hAe]; exact Or.inr h
  clear hAe hD0
  have hS : va_S A s.heap s.heap [] := va_S.rf
  replace hP : va_P (dC, dI) vwCl [(gh, .inr (5, [.int g_acts, g_kind, g_na, g_nb, g_nc, g_nd, g_ne, g_dropped, g_live, g_low, g_high, g_sites, g_nulls, g_there, g_lanes, g_least, g_most, g_placeLow, g_placeHigh, g_reached, g_mayThrow, .int g_status, .int g_hasRun, .int g_threw, .int g_whereThrown, g_value, .ref ga_means, g_laneOf, .ref ga_sizeOf, .ref ga_cells, g_copied, .long g_state, .long g_joinedLow, .long g_joinedHigh, g_keptLow, g_keptHigh])), (ga_means, .inl (cI, 6, .inl gc_means)), (ga_sizeOf, .inl (cI, 40, .inl gc_sizeOf)), (ga_cells, .inl (cI, 480, .inl gc_cells))] s.heap := hP
  replace hD : va_D A [(gh, .inr (5, [.int g_acts, g_kind, g_na, g_nb, g_nc, g_nd, g_ne, g_dropped, g_live, g_low, g_high, g_sites, g_nulls, g_there, g_lanes, g_least, g_most, g_placeLow, g_placeHigh, g_reached, g_mayThrow, .int g_status, .int g_hasRun, .int g_threw, .int g_whereThrown, g_value, .ref ga_means, g_laneOf, .ref ga_sizeOf, .ref ga_cells, g_copied, .long g_state, .long g_joinedLow, .long g_joinedHigh, g_keptLow, g_keptHigh])), (ga_means, .inl (cI, 6, .inl gc_means)), (ga_sizeOf, .inl (cI, 40, .inl gc_sizeOf)), (ga_cells, .inl (cI, 480, .inl gc_cells))] := hD
  have hl := lv_entry ([.ref gh, .int ra, .int ia]) (n := 4) (Nat.le_of_ble_eq_true rfl)
  rw [lg_entry_eq]
  generalize (lg_sl ([.ref gh, .int ra, .int ia]) ++ List.replicate (4 - (lg_sl ([.ref gh, .int ra, .int ia])).length) Slot.unset).toArray = ls at hl ⊢
  replace hl : lv_has ls 4 [(0, .ref gh), (1, .int ra), (2, .int ia)] := hl
  have z_m1 : (-1 : Int32).toInt = -1 := by decide
  have z_0 : (0 : Int32).toInt = 0 := by decide
  have z_1 : (1 : Int32).toInt = 1 := by decide
  refine lv_iload_n hx hb dX5_place_0 rfl (lv_at hl 1 rfl) ?_
  refine vp_callSi (va_runS (As := [.int ra]) (rest := []) ⟨hx, hb, hml, hown, hts⟩ (s_X5_isName l ra) (va_cwS 1 hts h_X5_place_X5_isName_115 rfl rfl rfl (by decide +kernel) ⟨Nat.le_of_ble_eq_true rfl, Nat.le_of_ble_eq_true rfl⟩) ⟨fun _ _ _ _ q => q, fun _ _ _ => ⟨rfl, trivial⟩⟩ rfl rfl hl.1 rfl (lv_room (Nat.le_of_ble_eq_true rfl)) dX5_place_1 ⟨Nat.le_of_ble_eq_true rfl, Nat.le_of_ble_eq_true rfl⟩).run (fun r_1 hw_1 => ?_)
  replace hw_1 : (two r_1 (V6 ra) 1 0) := hw_1
  have q_r_1 := hw_1
  refine lv_if_eq (tgt := 16) hx hb dX5_place_4 (by decide) (fun c_2 => ?_) (fun c_2 => ?_)
  · -- yes
    have k_2 : r_1.toInt = (0 : Int32).toInt := ci_eq c_2
    have kt_2 : ¬ (V6 ra) := two_z q_r_1 c_2
    refine lv_iconst (v := (-1)) hx hb dX5_place_16 (by decide) ?_
    refine lv_istore_n (lv' := [(3, .int (-1)), (0, .ref gh), (1, .int ra), (2, .int ia)]) hx hb dX5_place_17 rfl hl (by decide) rfl (fun ls1 hl1 => ?_)
    replace hl := hl1; clear hl1
    refine lv_iload_n hx hb dX5_place_18 rfl (lv_at hl 0 rfl) ?_
    refine lv_if_lt (tgt := 50) hx hb dX5_place_19 (by decide) (fun c_3 => ?_) (fun c_3 => ?_)
    · -- yes
      have k_3 : (-1 : Int32).toInt < (0 : Int32).toInt := ci_lt c_3
      refine lv_iconst (v := 0) hx hb dX5_place_50 (by decide) ?_
      have hP9 := hP.sub (ws' := [(gh, .inr (5, [.int g_acts, g_kind, g_na, g_nb, g_nc, g_nd, g_ne, g_dropped, g_live, g_low, g_high, g_sites, g_nulls, g_there, g_lanes, g_least, g_most, g_placeLow, g_placeHigh, g_reached, g_mayThrow, .int g_status, .int g_hasRun, .int g_threw, .int g_whereThrown, g_value, .ref ga_means, g_laneOf, .ref ga_sizeOf, .ref ga_cells, g_copied, .long g_state, .long g_joinedLow, .long g_joinedHigh, g_keptLow, g_keptHigh])), (ga_means, .inl (cI, 6, .inl gc_means)), (ga_sizeOf, .inl (cI, 40, .inl gc_sizeOf)), (ga_cells, .inl (cI, 480, .inl gc_cells))]) [0, 1, 2, 3] rfl
      have hD9 := hD.sub (ws' := [(gh, .inr (5, [.int g_acts, g_kind, g_na, g_nb, g_nc, g_nd, g_ne, g_dropped, g_live, g_low, g_high, g_sites, g_nulls, g_there, g_lanes, g_least, g_most, g_placeLow, g_placeHigh, g_reached, g_mayThrow, .int g_status, .int g_hasRun, .int g_threw, .int g_whereThrown, g_value, .ref ga_means, g_laneOf, .ref ga_sizeOf, .ref ga_cells, g_copied, .long g_state, .long g_joinedLow, .long g_joinedHigh, g_keptLow, g_keptHigh])), (ga_means, .inl (cI, 6, .inl gc_means)), (ga_sizeOf, .inl (cI, 40, .inl gc_sizeOf)), (ga_cells, .inl (cI, 480, .inl gc_cells))]) [0, 1, 2, 3] (by decide) rfl
      exact W.iret (v := 0) hx hb hr (fun t ht hW => ⟨⟨0, (), rfl, trivial, by rw [ht]; exact hP9, va_K.moved hW.alike hK, hD9⟩, hS.F ht⟩) hS.2.2 dX5_place_51
    · -- no
      have k_3 : (0 : Int32).toInt ≤ (-1 : Int32).toInt := ci_nlt c_3
      exfalso; omega
  · -- no
    have k_2 : ¬ r_1.toInt = (0 : Int32).toInt := ci_ne c_2
    have kt_2 : V6 ra := two_nz q_r_1 c_2
    refine lv_aload_n hx hb dX5_place_7 rfl (lv_at hl 0 rfl) ?_
    refine va_get (D := (dC, dI)) (ci := 5) (v := .ref ga_means) (C := RX5) (T := TX5) (N := 36) hx hb hts inv_X5_place_X5 hown hK hP 0 rfl rfl 26 (by decide) (hts (.fieldLink RX5 75 "ArraySegmentsModel" "means" "[I") (List.mem_of_getElem? (i := 4) rfl)) (fun _ h9 => h9) rfl dX5_place_8 ?_
    refine lv_iload_n hx hb dX5_place_11 rfl (lv_at hl 1 rfl) ?_
    refine sf_iald kSITE hx hb hK hP 1 0 rfl rfl h_gc_means (vp_in_iff.mpr ⟨by omega, by omega⟩) dX5_place_12 (fun v_4 q_v_4 e_v_4 => ?_)
    have et_v_4 : v_4.toInt = (gc_means (ra).toNatClampNeg).toInt := by rw [e_v_4]
    refine lv_goto (tgt := 17) hx hb dX5_place_13 (by decide) ?_
    refine lv_istore_n (lv' := [(3, .int v_4), (0, .ref gh), (1, .int ra), (2, .int ia)]) hx hb dX5_place_17 rfl hl (by decide) rfl (fun ls1 hl1 => ?_)
    replace hl := hl1; clear hl1
    refine lv_iload_n hx hb dX5_place_18 rfl (lv_at hl 0 rfl) ?_
    refine lv_if_lt (tgt := 50) hx hb dX5_place_19 (by decide) (fun c_5 => ?_) (fun c_5 => ?_)
    · -- yes
      have k_5 : v_4.toInt < (0 : Int32).toInt := ci_lt c_5
      refine lv_iconst (v := 0) hx hb dX5_place_50 (by decide) ?_
      have hP9 := hP.sub (ws' := [(gh, .inr (5, [.int g_acts, g_kind, g_na, g_nb, g_nc, g_nd, g_ne, g_dropped, g_live, g_low, g_high, g_sites, g_nulls, g_there, g_lanes, g_least, g_most, g_placeLow, g_placeHigh, g_reached, g_mayThrow, .int g_status, .int g_hasRun, .int g_threw, .int g_whereThrown, g_value, .ref ga_means, g_laneOf, .ref ga_sizeOf, .ref ga_cells, g_copied, .long g_state, .long g_joinedLow, .long g_joinedHigh, g_keptLow, g_keptHigh])), (ga_means, .inl (cI, 6, .inl gc_means)), (ga_sizeOf, .inl (cI, 40, .inl gc_sizeOf)), (ga_cells, .inl (cI, 480, .inl gc_cells))]) [0, 1, 2, 3] rfl
      have hD9 := hD.sub (ws' := [(gh, .inr (5, [.int g_acts, g_kind, g_na, g_nb, g_nc, g_nd, g_ne, g_dropped, g_live, g_low, g_high, g_sites, g_nulls, g_there, g_lanes, g_least, g_most, g_placeLow, g_placeHigh, g_reached, g_mayThrow, .int g_status, .int g_hasRun, .int g_threw, .int g_whereThrown, g_value, .ref ga_means, g_laneOf, .ref ga_sizeOf, .ref ga_cells, g_copied, .long g_state, .long g_joinedLow, .long g_joinedHigh, g_keptLow, g_keptHigh])), (ga_means, .inl (cI, 6, .inl gc_means)), (ga_sizeOf, .inl (cI, 40, .inl gc_sizeOf)), (ga_cells, .inl (cI, 480, .inl gc_cells))]) [0, 1, 2, 3] (by decide) rfl
      exact W.iret (v := 0) hx hb hr (fun t ht hW => ⟨⟨0, (), rfl, trivial, by rw [ht]; exact hP9, va_K.moved hW.alike hK, hD9⟩, hS.F ht⟩) hS.2.2 dX5_place_51
    · -- no
      have k_5 : (0 : Int32).toInt ≤ v_4.toInt := ci_nlt c_5
      refine lv_iload_n hx hb dX5_place_22 rfl (lv_at hl 3 rfl) ?_
      refine lv_if_lt (tgt := 50) hx hb dX5_place_23 (by decide) (fun c_6 => ?_) (fun c_6 => ?_)
      · -- yes
        have k_6 : ia.toInt < (0 : Int32).toInt := ci_lt c_6
        refine lv_iconst (v := 0) hx hb dX5_place_50 (by decide) ?_
        have hP9 := hP.sub (ws' := [(gh, .inr (5, [.int g_acts, g_kind, g_na, g_nb, g_nc, g_nd, g_ne, g_dropped, g_live, g_low, g_high, g_sites, g_nulls, g_there, g_lanes, g_least, g_most, g_placeLow, g_placeHigh, g_reached, g_mayThrow, .int g_status, .int g_hasRun, .int g_threw, .int g_whereThrown, g_value, .ref ga_means, g_laneOf, .ref ga_sizeOf, .ref ga_cells, g_copied, .long g_state, .long g_joinedLow, .long g_joinedHigh, g_keptLow, g_keptHigh])), (ga_means, .inl (cI, 6, .inl gc_means)), (ga_sizeOf, .inl (cI, 40, .inl gc_sizeOf)), (ga_cells, .inl (cI, 480, .inl gc_cells))]) [0, 1, 2, 3] rfl
        have hD9 := hD.sub (ws' := [(gh, .inr (5, [.int g_acts, g_kind, g_na, g_nb, g_nc, g_nd, g_ne, g_dropped, g_live, g_low, g_high, g_sites, g_nulls, g_there, g_lanes, g_least, g_most, g_placeLow, g_placeHigh, g_reached, g_mayThrow, .int g_status, .int g_hasRun, .int g_threw, .int g_whereThrown, g_value, .ref ga_means, g_laneOf, .ref ga_sizeOf, .ref ga_cells, g_copied, .long g_state, .long g_joinedLow, .long g_joinedHigh, g_keptLow, g_keptHigh])), (ga_means, .inl (cI, 6, .inl gc_means)), (ga_sizeOf, .inl (cI, 40, .inl gc_sizeOf)), (ga_cells, .inl (cI, 480, .inl gc_cells))]) [0, 1, 2, 3] (by decide) rfl
        exact W.iret (v := 0) hx hb hr (fun t ht hW => ⟨⟨0, (), rfl, trivial, by rw [ht]; exact hP9, va_K.moved hW.alike hK, hD9⟩, hS.F ht⟩) hS.2.2 dX5_place_51
      · -- no
        have k_6 : (0 : Int32).toInt ≤ ia.toInt := ci_nlt c_6
        refine lv_iload_n hx hb dX5_place_26 rfl (lv_at hl 3 rfl) ?_
        refine lv_aload_n hx hb dX5_place_27 rfl (lv_at hl 1 rfl) ?_
        refine va_get (D := (dC, dI)) (ci := 5) (v := .ref ga_sizeOf) (C := RX5) (T := TX5) (N := 36) hx hb hts inv_X5_place_X5 hown hK hP 0 rfl rfl 28 (by decide) (hts (.fieldLink RX5 81 "ArraySegmentsModel" "sizeOf" "[I") (List.mem_of_getElem? (i := 5) rfl)) (fun _ h9 => h9) rfl dX5_place_28 ?_
        refine lv_iload_n hx hb dX5_place_31 rfl (lv_at hl 0 rfl) ?_
        refine sf_iald kR012 hx hb hK hP 2 0 rfl rfl h_gc_sizeOf (vp_in_iff.mpr ⟨by omega, by omega⟩) dX5_place_32 (fun v_7 q_v_7 e_v_7 => ?_)
        have et_v_7 : v_7.toInt = (gc_sizeOf (v_4).toNatClampNeg).toInt := by rw [e_v_7]
        refine lv_icmp_ge (tgt := 50) hx hb dX5_place_33 (by decide) (fun c_8 => ?_) (fun c_8 => ?_)
        · -- yes
          have k_8 : v_7.toInt ≤ ia.toInt := ci_ge c_8
          refine lv_iconst (v := 0) hx hb dX5_place_50 (by decide) ?_
          have hP9 := hP.sub (ws' := [(gh, .inr (5, [.int g_acts, g_kind, g_na, g_nb, g_nc, g_nd, g_ne, g_dropped, g_live, g_low, g_high, g_sites, g_nulls, g_there, g_lanes, g_least, g_most, g_placeLow, g_placeHigh, g_reached, g_mayThrow, .int g_status, .int g_hasRun, .int g_threw, .int g_whereThrown, g_value, .ref ga_means, g_laneOf, .ref ga_sizeOf, .ref ga_cells, g_copied, .long g_state, .long g_joinedLow, .long g_joinedHigh, g_keptLow, g_keptHigh])), (ga_means, .inl (cI, 6, .inl gc_means)), (ga_sizeOf, .inl (cI, 40, .inl gc_sizeOf)), (ga_cells, .inl (cI, 480, .inl gc_cells))]) [0, 1, 2, 3] rfl
          have hD9 := hD.sub (ws' := [(gh, .inr (5, [.int g_acts, g_kind, g_na, g_nb, g_nc, g_nd, g_ne, g_dropped, g_live, g_low, g_high, g_sites, g_nulls, g_there, g_lanes, g_least, g_most, g_placeLow, g_placeHigh, g_reached, g_mayThrow, .int g_status, .int g_hasRun, .int g_threw, .int g_whereThrown, g_value, .ref ga_means, g_laneOf, .ref ga_sizeOf, .ref ga_cells, g_copied, .long g_state, .long g_joinedLow, .long g_joinedHigh, g_keptLow, g_keptHigh])), (ga_means, .inl (cI, 6, .inl gc_means)), (ga_sizeOf, .inl (cI, 40, .inl gc_sizeOf)), (ga_cells, .inl (cI, 480, .inl gc_cells))]) [0, 1, 2, 3] (by decide) rfl
          exact W.iret (v := 0) hx hb hr (fun t ht hW => ⟨⟨0, (), rfl, trivial, by rw [ht]; exact hP9, va_K.moved hW.alike hK, hD9⟩, hS.F ht⟩) hS.2.2 dX5_place_51
        · -- no
          have k_8 : ia.toInt < v_7.toInt := ci_nge c_8
          refine lv_aload_n hx hb dX5_place_36 rfl (lv_at hl 1 rfl) ?_
          refine va_get (D := (dC, dI)) (ci := 5) (v := .ref ga_cells) (C := RX5) (T := TX5) (N := 36) hx hb hts inv_X5_place_X5 hown hK hP 0 rfl rfl 29 (by decide) (hts (.fieldLink RX5 84 "ArraySegmentsModel" "cells" "[I") (List.mem_of_getElem? (i := 6) rfl)) (fun _ h9 => h9) rfl dX5_place_37 ?_
          refine lv_bipush (v := 12) hx hb dX5_place_40 (by decide) ?_
          refine lv_iload_n hx hb dX5_place_42 rfl (lv_at hl 0 rfl) ?_
          refine sf_imul (w := 12) (z := v_4.toInt) hx hb dX5_place_43 (by decide) rfl ⟨by omega, by omega⟩ (fun v_9 q_v_9 => ?_)
          refine lv_iload_n hx hb dX5_place_44 rfl (lv_at hl 3 rfl) ?_
          refine sf_iadd hx hb dX5_place_45 ⟨by omega, by omega⟩ (fun v_10 q_v_10 => ?_)
          refine sf_iald kT hx hb hK hP 3 0 rfl rfl (fun _ => trivial) (vp_in_iff.mpr ⟨by omega, by omega⟩) dX5_place_46 (fun v_11 q_v_11 e_v_11 => ?_)
          have et_v_11 : v_11.toInt = (gc_cells (v_10).toNatClampNeg).toInt := by rw [e_v_11]
          refine lv_goto (tgt := 51) hx hb dX5_place_47 (by decide) ?_
          have hP9 := hP.sub (ws' := [(gh, .inr (5, [.int g_acts, g_kind, g_na, g_nb, g_nc, g_nd, g_ne, g_dropped, g_live, g_low, g_high, g_sites, g_nulls, g_there, g_lanes, g_least, g_most, g_placeLow, g_placeHigh, g_reached, g_mayThrow, .int g_status, .int g_hasRun, .int g_threw, .int g_whereThrown, g_value, .ref ga_means, g_laneOf, .ref ga_sizeOf, .ref ga_cells, g_copied, .long g_state, .long g_joinedLow, .long g_joinedHigh, g_keptLow, g_keptHigh])), (ga_means, .inl (cI, 6, .inl gc_means)), (ga_sizeOf, .inl (cI, 40, .inl gc_sizeOf)), (ga_cells, .inl (cI, 480, .inl gc_cells))]) [0, 1, 2, 3] rfl
          have hD9 := hD.sub (ws' := [(gh, .inr (5, [.int g_acts, g_kind, g_na, g_nb, g_nc, g_nd, g_ne, g_dropped, g_live, g_low, g_high, g_sites, g_nulls, g_there, g_lanes, g_least, g_most, g_placeLow, g_placeHigh, g_reached, g_mayThrow, .int g_status, .int g_hasRun, .int g_threw, .int g_whereThrown, g_value, .ref ga_means, g_laneOf, .ref ga_sizeOf, .ref ga_cells, g_copied, .long g_state, .long g_joinedLow, .long g_joinedHigh, g_keptLow, g_keptHigh])), (ga_means, .inl (cI, 6, .inl gc_means)), (ga_sizeOf, .inl (cI, 40, .inl gc_sizeOf)), (ga_cells, .inl (cI, 480, .inl gc_cells))]) [0, 1, 2, 3] (by decide) rfl
          exact W.iret (v := v_11) hx hb hr (fun t ht hW => ⟨⟨v_11, (), rfl, trivial, by rw [ht]; exact hP9, va_K.moved hW.alike hK, hD9⟩, hS.F ht⟩) hS.2.2 dX5_place_51
