def v_X5_length : List Cond := .code yX5_length cX5_length 2 (some .int) :: ([.methodLink RX5 115 yX5_isName, .static yX5_isName, .initialized RX5, .fieldLink RX5 75 "ArraySegmentsModel" "means" "[I", .fieldLink RX5 81 "ArraySegmentsModel" "sizeOf" "[I"] ++ (wsX50 ++ (v_X5_isName)))
theorem inv_X5_length_X5 : ∀ w ∈ wsX50, w ∈ v_X5_length := fun _ h => List.mem_cons_of_mem _ (List.mem_append_right _ (List.mem_append_left _ h))
theorem im_X5_length_X5_isName : ∀ w ∈ v_X5_isName, w ∈ v_X5_length := fun _ h => List.mem_cons_of_mem _ (List.mem_append_right _ (List.mem_append_right _ (h)))
set_option maxRecDepth 20000 in
theorem gd_X5_length : gdL v_X5_length := gdC (gdW (by decide +kernel)) (gdA (gdW (by decide +kernel)) (gdA gd_wsX50 gd_X5_isName))
set_option maxRecDepth 20000 in
theorem h_X5_length_X5_isName_115 : GoodIn v_X5_length (va_wsS RX5 115 yX5_isName v_X5_isName) := gdI [1, 2, 3] rfl (by decide +kernel) (im_X5_length_X5_isName) gd_X5_isName
abbrev sw_X5_length (cI cJ cZ : ClassId) (gh : Nat) (g_acts : Int32) (g_kind : Value) (g_na : Value) (g_nb : Value) (g_nc : Value) (g_nd : Value) (g_ne : Value) (g_dropped : Value) (g_live : Value) (g_low : Value) (g_high : Value) (g_sites : Value) (g_nulls : Value) (g_there : Value) (g_lanes : Value) (g_least : Value) (g_most : Value) (g_placeLow : Value) (g_placeHigh : Value) (g_reached : Value) (g_mayThrow : Value) (g_status : Int32) (g_hasRun : Int32) (g_threw : Int32) (g_whereThrown : Int32) (g_value : Value) (ga_means : Nat) (g_laneOf : Value) (ga_sizeOf : Nat) (g_cells : Value) (g_copied : Value) (g_state : Int64) (g_joinedLow : Int64) (g_joinedHigh : Int64) (g_keptLow : Value) (g_keptHigh : Value) (gc_means : Nat → Int32) (gc_sizeOf : Nat → Int32) (ra : Int32) : va_W := [(gh, .inr (5, [.int g_acts, g_kind, g_na, g_nb, g_nc, g_nd, g_ne, g_dropped, g_live, g_low, g_high, g_sites, g_nulls, g_there, g_lanes, g_least, g_most, g_placeLow, g_placeHigh, g_reached, g_mayThrow, .int g_status, .int g_hasRun, .int g_threw, .int g_whereThrown, g_value, .ref ga_means, g_laneOf, .ref ga_sizeOf, g_cells, g_copied, .long g_state, .long g_joinedLow, .long g_joinedHigh, g_keptLow, g_keptHigh])), (ga_means, .inl (cI, 6, .inl gc_means)), (ga_sizeOf, .inl (cI, 40, .inl gc_sizeOf))]
set_option maxHeartbeats 8000000 in
set_option maxRecDepth 100000 in
theorem s_X5_length (l : Launch) (dC : Nat → ClassId) (dI : Nat → Nat → Nat) (cI cJ cZ : ClassId) (gh : Nat) (g_acts : Int32) (g_kind : Value) (g_na : Value) (g_nb : Value) (g_nc : Value) (g_nd : Value) (g_ne : Value) (g_dropped : Value) (g_live : Value) (g_low : Value) (g_high : Value) (g_sites : Value) (g_nulls : Value) (g_there : Value) (g_lanes : Value) (g_least : Value) (g_most : Value) (g_placeLow : Value) (g_placeHigh : Value) (g_reached : Value) (g_mayThrow : Value) (g_status : Int32) (g_hasRun : Int32) (g_threw : Int32) (g_whereThrown : Int32) (g_value : Value) (ga_means : Nat) (g_laneOf : Value) (ga_sizeOf : Nat) (g_cells : Value) (g_copied : Value) (g_state : Int64) (g_joinedLow : Int64) (g_joinedHigh : Int64) (g_keptLow : Value) (g_keptHigh : Value) (gc_means : Nat → Int32) (gc_sizeOf : Nat → Int32) (ra : Int32) (sz : Nat) (q_g_hasRun : kZ g_hasRun) (h_gc_means : ∀ j : Nat, kSITE (gc_means j)) (h_gc_sizeOf : ∀ j : Nat, kR012 (gc_sizeOf j)) : Met l yX5_length v_X5_length ({ frames := 1, cells := 0, slots := 0, locals := 20 }) (va_Pc [.ref gh, .int ra] (cPre dC dI cI cJ cZ sz (sw_X5_length cI cJ cZ gh g_acts g_kind g_na g_nb g_nc g_nd g_ne g_dropped g_live g_low g_high g_sites g_nulls g_there g_lanes g_least g_most g_placeLow g_placeHigh g_reached g_mayThrow g_status g_hasRun g_threw g_whereThrown g_value ga_means g_laneOf ga_sizeOf g_cells g_copied g_state g_joinedLow g_joinedHigh g_keptLow g_keptHigh gc_means gc_sizeOf ra))) (va_Qi (fun (r : Int32) (u : Unit) => True) (fun (u : Unit) => cPost dC dI cI cJ cZ (va_A (sw_X5_length cI cJ cZ gh g_acts g_kind g_na g_nb g_nc g_nd g_ne g_dropped g_live g_low g_high g_sites g_nulls g_there g_lanes g_least g_most g_placeLow g_placeHigh g_reached g_mayThrow g_status g_hasRun g_threw g_whereThrown g_value ga_means g_laneOf ga_sizeOf g_cells g_copied g_state g_joinedLow g_joinedHigh g_keptLow g_keptHigh gc_means gc_sizeOf ra) sz) [(gh, .inr (5, [.int g_acts, g_kind, g_na, g_nb, g_nc, g_nd, g_ne, g_dropped, g_live, g_low, g_high, g_sites, g_nulls, g_there, g_lanes, g_least, g_most, g_placeLow, g_placeHigh, g_reached, g_mayThrow, .int g_status, .int g_hasRun, .int g_threw, .int g_whereThrown, g_value, .ref ga_means, g_laneOf, .ref ga_sizeOf, g_cells, g_copied, .long g_state, .long g_joinedLow, .long g_joinedHigh, g_keptLow, g_keptHigh])), (ga_means, .inl (cI, 6, .inl gc_means)), (ga_sizeOf, .inl (cI, 40, .inl gc_sizeOf))]) (va_A (sw_X5_length cI cJ cZ gh g_acts g_kind g_na g_nb g_nc g_nd g_ne g_dropped g_live g_low g_high g_sites g_nulls g_there g_lanes g_least g_most g_placeLow g_placeHigh g_reached g_mayThrow g_status g_hasRun g_threw g_whereThrown g_value ga_means g_laneOf ga_sizeOf g_cells g_copied g_state g_joinedLow g_joinedHigh g_keptLow g_keptHigh gc_means gc_sizeOf ra) sz)) 0 0 (va_A (sw_X5_length cI cJ cZ gh g_acts g_kind g_na g_nb g_nc g_nd g_ne g_dropped g_live g_low g_high g_sites g_nulls g_there g_lanes g_least g_most g_placeLow g_placeHigh g_reached g_mayThrow g_status g_hasRun g_threw g_whereThrown g_value ga_means g_laneOf ga_sizeOf g_cells g_copied g_state g_joinedLow g_joinedHigh g_keptLow g_keptHigh gc_means gc_sizeOf ra) sz) := by
  refine Met.ofW (cc := cX5_length) (maxL := 2) (ret := (some .int)) (by decide) rfl ?_
  intro p e s m args below meth c s₁ B hml hv
  obtain ⟨rfl, hsz, hP, hK, hD0, hN⟩ := hv
  have hx := B.exec
  have hb := B.bytes
  have hr := B.returns
  have hts := atoms_spec (ws := v_X5_length) B.pre
  have hown : s.vm.findClass RX5 = some m.cls := findClass_of_methodNamed B.named
  have hlocks := B.notSynchronized
  subst hsz
  have hD := hD0.self (sz := s.heap.size)
  generalize hAe : va_A (sw_X5_length cI cJ cZ gh g_acts g_kind g_na g_nb g_nc g_nd g_ne g_dropped g_live g_low g_high g_sites g_nulls g_there g_lanes g_least g_most g_placeLow g_placeHigh g_reached g_mayThrow g_status g_hasRun g_threw g_whereThrown g_value ga_means g_laneOf ga_sizeOf g_cells g_copied g_state g_joinedLow g_joinedHigh g_keptLow g_keptHigh gc_means gc_sizeOf ra) s.heap.size = A at hD ⊢
  have hA : ∀ q : Nat, s.heap.size ≤ q → A q := fun q h => by rw [← hAe]; exact Or.inr h
  clear hAe hD0
  have hS : va_S A s.heap s.heap [] := va_S.rf
  replace hP : va_P (dC, dI) vwCl [(gh, .inr (5, [.int g_acts, g_kind, g_na, g_nb, g_nc, g_nd, g_ne, g_dropped, g_live, g_low, g_high, g_sites, g_nulls, g_there, g_lanes, g_least, g_most, g_placeLow, g_placeHigh, g_reached, g_mayThrow, .int g_status, .int g_hasRun, .int g_threw, .int g_whereThrown, g_value, .ref ga_means, g_laneOf, .ref ga_sizeOf, g_cells, g_copied, .long g_state, .long g_joinedLow, .long g_joinedHigh, g_keptLow, g_keptHigh])), (ga_means, .inl (cI, 6, .inl gc_means)), (ga_sizeOf, .inl (cI, 40, .inl gc_sizeOf))] s.heap := hP
  replace hD : va_D A [(gh, .inr (5, [.int g_acts, g_kind, g_na, g_nb, g_nc, g_nd, g_ne, g_dropped, g_live, g_low, g_high, g_sites, g_nulls, g_there, g_lanes, g_least, g_most, g_placeLow, g_placeHigh, g_reached, g_mayThrow, .int g_status, .int g_hasRun, .int g_threw, .int g_whereThrown, g_value, .ref ga_means, g_laneOf, .ref ga_sizeOf, g_cells, g_copied, .long g_state, .long g_joinedLow, .long g_joinedHigh, g_keptLow, g_keptHigh])), (ga_means, .inl (cI, 6, .inl gc_means)), (ga_sizeOf, .inl (cI, 40, .inl gc_sizeOf))] := hD
  have hl := lv_entry ([.ref gh, .int ra]) (n := 2) (Nat.le_of_ble_eq_true rfl)
  rw [lg_entry_eq]
  generalize (lg_sl ([.ref gh, .int ra]) ++ List.replicate (2 - (lg_sl ([.ref gh, .int ra])).length) Slot.unset).toArray = ls at hl ⊢
  replace hl : lv_has ls 2 [(0, .ref gh), (1, .int ra)] := hl
  have z_m2 : (-2 : Int32).toInt = -2 := by decide
  have z_m1 : (-1 : Int32).toInt = -1 := by decide
  have z_0 : (0 : Int32).toInt = 0 := by decide
  have z_1 : (1 : Int32).toInt = 1 := by decide
  refine lv_iload_n hx hb dX5_length_0 rfl (lv_at hl 1 rfl) ?_
  refine vp_callSi (va_runS (As := [.int ra]) (rest := []) ⟨hx, hb, hml, hown, hts⟩ (s_X5_isName l ra) (va_cwS 1 hts h_X5_length_X5_isName_115 rfl rfl rfl (by decide +kernel) ⟨Nat.le_of_ble_eq_true rfl, Nat.le_of_ble_eq_true rfl⟩) ⟨fun _ _ _ _ q => q, fun _ _ _ => ⟨rfl, trivial⟩⟩ rfl rfl hl.1 rfl (lv_room (Nat.le_of_ble_eq_true rfl)) dX5_length_1 ⟨Nat.le_of_ble_eq_true rfl, Nat.le_of_ble_eq_true rfl⟩).run (fun r_1 hw_1 => ?_)
  replace hw_1 : (two r_1 (V6 ra) 1 0) := hw_1
  have q_r_1 := hw_1
  refine my_join (S := Int32) (fun u => (-2 ≤ (u).toInt ∧ (u).toInt ≤ 12)) (fun u => [(gh, .inr (5, [.int g_acts, g_kind, g_na, g_nb, g_nc, g_nd, g_ne, g_dropped, g_live, g_low, g_high, g_sites, g_nulls, g_there, g_lanes, g_least, g_most, g_placeLow, g_placeHigh, g_reached, g_mayThrow, .int g_status, .int g_hasRun, .int g_threw, .int g_whereThrown, g_value, .ref ga_means, g_laneOf, .ref ga_sizeOf, g_cells, g_copied, .long g_state, .long g_joinedLow, .long g_joinedHigh, g_keptLow, g_keptHigh])), (ga_means, .inl (cI, 6, .inl gc_means)), (ga_sizeOf, .inl (cI, 40, .inl gc_sizeOf))]) (fun u => [(0, .ref gh), (1, .int ra)]) (fun u => [.int (u)]) (nL := 2) (H0 := s.heap) (A := A) (D := (dC, dI)) (cl := vwCl) 36 (fun u_3 hu_3 H_3 locs_3 ls1 hP1 hD1 hS1 hl1 => ?_) (fun jn_3 => ?_)
  · -- behind 36
    obtain ⟨v_4, rfl⟩ : ∃ z, z = u_3 := ⟨_, rfl⟩
    replace hu_3 : (-2 ≤ v_4.toInt ∧ v_4.toInt ≤ 12) := hu_3
    have q_v_4 := hu_3
    replace hP : va_P (dC, dI) vwCl [(gh, .inr (5, [.int g_acts, g_kind, g_na, g_nb, g_nc, g_nd, g_ne, g_dropped, g_live, g_low, g_high, g_sites, g_nulls, g_there, g_lanes, g_least, g_most, g_placeLow, g_placeHigh, g_reached, g_mayThrow, .int g_status, .int g_hasRun, .int g_threw, .int g_whereThrown, g_value, .ref ga_means, g_laneOf, .ref ga_sizeOf, g_cells, g_copied, .long g_state, .long g_joinedLow, .long g_joinedHigh, g_keptLow, g_keptHigh])), (ga_means, .inl (cI, 6, .inl gc_means)), (ga_sizeOf, .inl (cI, 40, .inl gc_sizeOf))] H_3 := hP1
    replace hD : va_D A [(gh, .inr (5, [.int g_acts, g_kind, g_na, g_nb, g_nc, g_nd, g_ne, g_dropped, g_live, g_low, g_high, g_sites, g_nulls, g_there, g_lanes, g_least, g_most, g_placeLow, g_placeHigh, g_reached, g_mayThrow, .int g_status, .int g_hasRun, .int g_threw, .int g_whereThrown, g_value, .ref ga_means, g_laneOf, .ref ga_sizeOf, g_cells, g_copied, .long g_state, .long g_joinedLow, .long g_joinedHigh, g_keptLow, g_keptHigh])), (ga_means, .inl (cI, 6, .inl gc_means)), (ga_sizeOf, .inl (cI, 40, .inl gc_sizeOf))] := hD1
    replace hS := hS1
    clear hP1 hD1 hS1
    replace hl : lv_has ls1 2 [(0, .ref gh), (1, .int ra)] := hl1
    clear hl1
    have hP9 := hP.sub (ws' := [(gh, .inr (5, [.int g_acts, g_kind, g_na, g_nb, g_nc, g_nd, g_ne, g_dropped, g_live, g_low, g_high, g_sites, g_nulls, g_there, g_lanes, g_least, g_most, g_placeLow, g_placeHigh, g_reached, g_mayThrow, .int g_status, .int g_hasRun, .int g_threw, .int g_whereThrown, g_value, .ref ga_means, g_laneOf, .ref ga_sizeOf, g_cells, g_copied, .long g_state, .long g_joinedLow, .long g_joinedHigh, g_keptLow, g_keptHigh])), (ga_means, .inl (cI, 6, .inl gc_means)), (ga_sizeOf, .inl (cI, 40, .inl gc_sizeOf))]) [0, 1, 2] rfl
    have hD9 := hD.sub (ws' := [(gh, .inr (5, [.int g_acts, g_kind, g_na, g_nb, g_nc, g_nd, g_ne, g_dropped, g_live, g_low, g_high, g_sites, g_nulls, g_there, g_lanes, g_least, g_most, g_placeLow, g_placeHigh, g_reached, g_mayThrow, .int g_status, .int g_hasRun, .int g_threw, .int g_whereThrown, g_value, .ref ga_means, g_laneOf, .ref ga_sizeOf, g_cells, g_copied, .long g_state, .long g_joinedLow, .long g_joinedHigh, g_keptLow, g_keptHigh])), (ga_means, .inl (cI, 6, .inl gc_means)), (ga_sizeOf, .inl (cI, 40, .inl gc_sizeOf))]) [0, 1, 2] (by decide) rfl
    exact W.iret (v := v_4) hx hb hr (fun t ht hW => ⟨⟨v_4, (), rfl, trivial, by rw [ht]; exact hP9, va_K.moved hW.alike hK, hD9⟩, hS.F ht⟩) hS.2.2 dX5_length_36
  · -- ahead of 36
    refine lv_if_ne (tgt := 12) hx hb dX5_length_4 (by decide) (fun c_5 => ?_) (fun c_5 => ?_)
    · -- yes
      have k_5 : ¬ r_1.toInt = (0 : Int32).toInt := ci_ne c_5
      have kt_5 : V6 ra := two_nz q_r_1 c_5
      refine lv_aload_n hx hb dX5_length_12 rfl (lv_at hl 0 rfl) ?_
      refine va_get (D := (dC, dI)) (ci := 5) (v := .ref ga_means) (C := RX5) (T := TX5) (N := 36) hx hb hts inv_X5_length_X5 hown hK hP 0 rfl rfl 26 (by decide) (hts (.fieldLink RX5 75 "ArraySegmentsModel" "means" "[I") (List.mem_of_getElem? (i := 4) rfl)) (fun _ h9 => h9) rfl dX5_length_13 ?_
      refine lv_iload_n hx hb dX5_length_16 rfl (lv_at hl 1 rfl) ?_
      refine sf_iald kSITE hx hb hK hP 1 0 rfl rfl h_gc_means (vp_in_iff.mpr ⟨by omega, by omega⟩) dX5_length_17 (fun v_6 q_v_6 e_v_6 => ?_)
      have et_v_6 : v_6.toInt = (gc_means (ra).toNatClampNeg).toInt := by rw [e_v_6]
      refine lv_if_ge (tgt := 25) hx hb dX5_length_18 (by decide) (fun c_7 => ?_) (fun c_7 => ?_)
      · -- yes
        have k_7 : (0 : Int32).toInt ≤ v_6.toInt := ci_ge c_7
        refine lv_aload_n hx hb dX5_length_25 rfl (lv_at hl 0 rfl) ?_
        refine va_get (D := (dC, dI)) (ci := 5) (v := .ref ga_sizeOf) (C := RX5) (T := TX5) (N := 36) hx hb hts inv_X5_length_X5 hown hK hP 0 rfl rfl 28 (by decide) (hts (.fieldLink RX5 81 "ArraySegmentsModel" "sizeOf" "[I") (List.mem_of_getElem? (i := 5) rfl)) (fun _ h9 => h9) rfl dX5_length_26 ?_
        refine lv_aload_n hx hb dX5_length_29 rfl (lv_at hl 0 rfl) ?_
        refine va_get (D := (dC, dI)) (ci := 5) (v := .ref ga_means) (C := RX5) (T := TX5) (N := 36) hx hb hts inv_X5_length_X5 hown hK hP 0 rfl rfl 26 (by decide) (hts (.fieldLink RX5 75 "ArraySegmentsModel" "means" "[I") (List.mem_of_getElem? (i := 4) rfl)) (fun _ h9 => h9) rfl dX5_length_30 ?_
        refine lv_iload_n hx hb dX5_length_33 rfl (lv_at hl 1 rfl) ?_
        refine sf_iald kSITE hx hb hK hP 1 0 rfl rfl h_gc_means (vp_in_iff.mpr ⟨by omega, by omega⟩) dX5_length_34 (fun v_8 q_v_8 e_v_8 => ?_)
        have et_v_8 : v_8.toInt = (gc_means (ra).toNatClampNeg).toInt := by rw [e_v_8]
        refine sf_iald kR012 hx hb hK hP 2 0 rfl rfl h_gc_sizeOf (vp_in_iff.mpr ⟨by omega, by omega⟩) dX5_length_35 (fun v_9 q_v_9 e_v_9 => ?_)
        have et_v_9 : v_9.toInt = (gc_sizeOf (v_8).toNatClampNeg).toInt := by rw [e_v_9]
        exact jn_3 v_9 (show (-2 ≤ v_9.toInt ∧ v_9.toInt ≤ 12) from ⟨by omega, by omega⟩) _ _ _ (hP.sub [0, 1, 2] rfl) (hD.sub [0, 1, 2] (by decide) rfl) hS (lv_sub hl [0, 1] rfl)
      · -- no
        have k_7 : v_6.toInt < (0 : Int32).toInt := ci_nge c_7
        refine lv_iconst (v := (-1)) hx hb dX5_length_21 (by decide) ?_
        refine lv_goto (tgt := 36) hx hb dX5_length_22 (by decide) ?_
        exact jn_3 ((-1) : Int32) (show (-2 ≤ ((-1) : Int32).toInt ∧ ((-1) : Int32).toInt ≤ 12) from ⟨by omega, by omega⟩) _ _ _ (hP.sub [0, 1, 2] rfl) (hD.sub [0, 1, 2] (by decide) rfl) hS (lv_sub hl [0, 1] rfl)
    · -- no
      have k_5 : r_1.toInt = (0 : Int32).toInt := ci_eq c_5
      have kt_5 : ¬ (V6 ra) := two_z q_r_1 c_5
      refine lv_bipush (v := (-2)) hx hb dX5_length_7 (by decide) ?_
      refine lv_goto (tgt := 36) hx hb dX5_length_9 (by decide) ?_
      exact jn_3 ((-2) : Int32) (show (-2 ≤ ((-2) : Int32).toInt ∧ ((-2) : Int32).toInt ≤ 12) from ⟨by omega, by omega⟩) _ _ _ (hP.sub [0, 1, 2] rfl) (hD.sub [0, 1, 2] (by decide) rfl) hS (lv_sub hl [0, 1] rfl)
