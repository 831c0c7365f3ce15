def v_X5_value : List Cond := .code yX5_value cX5_value 2 (some .int) :: ([.methodLink RX5 115 yX5_isName, .static yX5_isName, .initialized RX5, .fieldLink RX5 72 "ArraySegmentsModel" "value" "[I"] ++ (wsX50 ++ (v_X5_isName)))
theorem inv_X5_value_X5 : ∀ w ∈ wsX50, w ∈ v_X5_value := fun _ h => List.mem_cons_of_mem _ (List.mem_append_right _ (List.mem_append_left _ h))
theorem im_X5_value_X5_isName : ∀ w ∈ v_X5_isName, w ∈ v_X5_value := fun _ h => List.mem_cons_of_mem _ (List.mem_append_right _ (List.mem_append_right _ (h)))
set_option maxRecDepth 20000 in
theorem gd_X5_value : gdL v_X5_value := gdC (gdW (by decide +kernel)) (gdA (gdW (by decide +kernel)) (gdA gd_wsX50 gd_X5_isName))
set_option maxRecDepth 20000 in
theorem h_X5_value_X5_isName_115 : GoodIn v_X5_value (va_wsS RX5 115 yX5_isName v_X5_isName) := gdI [1, 2, 3] rfl (by decide +kernel) (im_X5_value_X5_isName) gd_X5_isName
abbrev sw_X5_value (cI cJ cZ : ClassId) (gh : Nat) (g_acts : Int32) (g_kind : Value) (g_na : Value) (g_nb : Value) (g_nc : Value) (g_nd : Value) (g_ne : Value) (g_dropped : Value) (g_live : Value) (g_low : Value) (g_high : Value) (g_sites : Value) (g_nulls : Value) (g_there : Value) (g_lanes : Value) (g_least : Value) (g_most : Value) (g_placeLow : Value) (g_placeHigh : Value) (g_reached : Value) (g_mayThrow : Value) (g_status : Int32) (g_hasRun : Int32) (g_threw : Int32) (g_whereThrown : Int32) (ga_value : Nat) (g_means : Value) (g_laneOf : Value) (g_sizeOf : Value) (g_cells : Value) (g_copied : Value) (g_state : Int64) (g_joinedLow : Int64) (g_joinedHigh : Int64) (g_keptLow : Value) (g_keptHigh : Value) (gc_value : Nat → Int32) (xa : Int32) : va_W := [(gh, .inr (5, [.int g_acts, g_kind, g_na, g_nb, g_nc, g_nd, g_ne, g_dropped, g_live, g_low, g_high, g_sites, g_nulls, g_there, g_lanes, g_least, g_most, g_placeLow, g_placeHigh, g_reached, g_mayThrow, .int g_status, .int g_hasRun, .int g_threw, .int g_whereThrown, .ref ga_value, g_means, g_laneOf, g_sizeOf, g_cells, g_copied, .long g_state, .long g_joinedLow, .long g_joinedHigh, g_keptLow, g_keptHigh])), (ga_value, .inl (cI, 6, .inl gc_value))]
set_option maxHeartbeats 8000000 in
set_option maxRecDepth 100000 in
theorem s_X5_value (l : Launch) (dC : Nat → ClassId) (dI : Nat → Nat → Nat) (cI cJ cZ : ClassId) (gh : Nat) (g_acts : Int32) (g_kind : Value) (g_na : Value) (g_nb : Value) (g_nc : Value) (g_nd : Value) (g_ne : Value) (g_dropped : Value) (g_live : Value) (g_low : Value) (g_high : Value) (g_sites : Value) (g_nulls : Value) (g_there : Value) (g_lanes : Value) (g_least : Value) (g_most : Value) (g_placeLow : Value) (g_placeHigh : Value) (g_reached : Value) (g_mayThrow : Value) (g_status : Int32) (g_hasRun : Int32) (g_threw : Int32) (g_whereThrown : Int32) (ga_value : Nat) (g_means : Value) (g_laneOf : Value) (g_sizeOf : Value) (g_cells : Value) (g_copied : Value) (g_state : Int64) (g_joinedLow : Int64) (g_joinedHigh : Int64) (g_keptLow : Value) (g_keptHigh : Value) (gc_value : Nat → Int32) (xa : Int32) (sz : Nat) (q_g_hasRun : kZ g_hasRun) : Met l yX5_value v_X5_value ({ frames := 1, cells := 0, slots := 0, locals := 20 }) (va_Pc [.ref gh, .int xa] (cPre dC dI cI cJ cZ sz (sw_X5_value cI cJ cZ gh g_acts g_kind g_na g_nb g_nc g_nd g_ne g_dropped g_live g_low g_high g_sites g_nulls g_there g_lanes g_least g_most g_placeLow g_placeHigh g_reached g_mayThrow g_status g_hasRun g_threw g_whereThrown ga_value g_means g_laneOf g_sizeOf g_cells g_copied g_state g_joinedLow g_joinedHigh g_keptLow g_keptHigh gc_value xa))) (va_Qi (fun (r : Int32) (u : Unit) => True) (fun (u : Unit) => cPost dC dI cI cJ cZ (va_A (sw_X5_value cI cJ cZ gh g_acts g_kind g_na g_nb g_nc g_nd g_ne g_dropped g_live g_low g_high g_sites g_nulls g_there g_lanes g_least g_most g_placeLow g_placeHigh g_reached g_mayThrow g_status g_hasRun g_threw g_whereThrown ga_value g_means g_laneOf g_sizeOf g_cells g_copied g_state g_joinedLow g_joinedHigh g_keptLow g_keptHigh gc_value xa) sz) [(gh, .inr (5, [.int g_acts, g_kind, g_na, g_nb, g_nc, g_nd, g_ne, g_dropped, g_live, g_low, g_high, g_sites, g_nulls, g_there, g_lanes, g_least, g_most, g_placeLow, g_placeHigh, g_reached, g_mayThrow, .int g_status, .int g_hasRun, .int g_threw, .int g_whereThrown, .ref ga_value, g_means, g_laneOf, g_sizeOf, g_cells, g_copied, .long g_state, .long g_joinedLow, .long g_joinedHigh, g_keptLow, g_keptHigh])), (ga_value, .inl (cI, 6, .inl gc_value))]) (va_A (sw_X5_value cI cJ cZ gh g_acts g_kind g_na g_nb g_nc g_nd g_ne g_dropped g_live g_low g_high g_sites g_nulls g_there g_lanes g_least g_most g_placeLow g_placeHigh g_reached g_mayThrow g_status g_hasRun g_threw g_whereThrown ga_value g_means g_laneOf g_sizeOf g_cells g_copied g_state g_joinedLow g_joinedHigh g_keptLow g_keptHigh gc_value xa) sz)) 0 0 (va_A (sw_X5_value cI cJ cZ gh g_acts g_kind g_na g_nb g_nc g_nd g_ne g_dropped g_live g_low g_high g_sites g_nulls g_there g_lanes g_least g_most g_placeLow g_placeHigh g_reached g_mayThrow g_status g_hasRun g_threw g_whereThrown ga_value g_means g_laneOf g_sizeOf g_cells g_copied g_state g_joinedLow g_joinedHigh g_keptLow g_keptHigh gc_value xa) sz) := by
  refine Met.ofW (cc := cX5_value) (maxL := 2) (ret := (some .int)) (by decide) rfl ?_
  intro p e s m args below meth c s₁ B hml hv
  obtain ⟨rfl, hsz, hP, hK, hD0, hN⟩ := hv
  have hx := B.exec
  have hb := B.bytes
  have hr := B.returns
  have hts := atoms_spec (ws := v_X5_value) B.pre
  have hown : s.vm.findClass RX5 = some m.cls := findClass_of_methodNamed B.named
  have hlocks := B.notSynchronized
  subst hsz
  have hD := hD0.self (sz := s.heap.size)
  generalize hAe : va_A (sw_X5_value cI cJ cZ gh g_acts g_kind g_na g_nb g_nc g_nd g_ne g_dropped g_live g_low g_high g_sites g_nulls g_there g_lanes g_least g_most g_placeLow g_placeHigh g_reached g_mayThrow g_status g_hasRun g_threw g_whereThrown ga_value g_means g_laneOf g_sizeOf g_cells g_copied g_state g_joinedLow g_joinedHigh g_keptLow g_keptHigh gc_value xa) s.heap.size = A at hD ⊢
  have hA : ∀ q : Nat, s.heap.size ≤ q → A q := fun q h => by rw [← hAe]; exact Or.inr h
  clear hAe hD0
  have hS : va_S A s.heap s.heap [] := va_S.rf
  replace hP : va_P (dC, dI) vwCl [(gh, .inr (5, [.int g_acts, g_kind, g_na, g_nb, g_nc, g_nd, g_ne, g_dropped, g_live, g_low, g_high, g_sites, g_nulls, g_there, g_lanes, g_least, g_most, g_placeLow, g_placeHigh, g_reached, g_mayThrow, .int g_status, .int g_hasRun, .int g_threw, .int g_whereThrown, .ref ga_value, g_means, g_laneOf, g_sizeOf, g_cells, g_copied, .long g_state, .long g_joinedLow, .long g_joinedHigh, g_keptLow, g_keptHigh])), (ga_value, .inl (cI, 6, .inl gc_value))] s.heap := hP
  replace hD : va_D A [(gh, .inr (5, [.int g_acts, g_kind, g_na, g_nb, g_nc, g_nd, g_ne, g_dropped, g_live, g_low, g_high, g_sites, g_nulls, g_there, g_lanes, g_least, g_most, g_placeLow, g_placeHigh, g_reached, g_mayThrow, .int g_status, .int g_hasRun, .int g_threw, .int g_whereThrown, .ref ga_value, g_means, g_laneOf, g_sizeOf, g_cells, g_copied, .long g_state, .long g_joinedLow, .long g_joinedHigh, g_keptLow, g_keptHigh])), (ga_value, .inl (cI, 6, .inl gc_value))] := hD
  have hl := lv_entry ([.ref gh, .int xa]) (n := 2) (Nat.le_of_ble_eq_true rfl)
  rw [lg_entry_eq]
  generalize (lg_sl ([.ref gh, .int xa]) ++ List.replicate (2 - (lg_sl ([.ref gh, .int xa])).length) Slot.unset).toArray = ls at hl ⊢
  replace hl : lv_has ls 2 [(0, .ref gh), (1, .int xa)] := hl
  have z_0 : (0 : Int32).toInt = 0 := by decide
  have z_1 : (1 : Int32).toInt = 1 := by decide
  refine lv_iload_n hx hb dX5_value_0 rfl (lv_at hl 1 rfl) ?_
  refine vp_callSi (va_runS (As := [.int xa]) (rest := []) ⟨hx, hb, hml, hown, hts⟩ (s_X5_isName l xa) (va_cwS 1 hts h_X5_value_X5_isName_115 rfl rfl rfl (by decide +kernel) ⟨Nat.le_of_ble_eq_true rfl, Nat.le_of_ble_eq_true rfl⟩) ⟨fun _ _ _ _ q => q, fun _ _ _ => ⟨rfl, trivial⟩⟩ rfl rfl hl.1 rfl (lv_room (Nat.le_of_ble_eq_true rfl)) dX5_value_1 ⟨Nat.le_of_ble_eq_true rfl, Nat.le_of_ble_eq_true rfl⟩).run (fun r_1 hw_1 => ?_)
  replace hw_1 : (two r_1 (V6 xa) 1 0) := hw_1
  have q_r_1 := hw_1
  refine my_join (S := Int32) (fun u => True) (fun u => [(gh, .inr (5, [.int g_acts, g_kind, g_na, g_nb, g_nc, g_nd, g_ne, g_dropped, g_live, g_low, g_high, g_sites, g_nulls, g_there, g_lanes, g_least, g_most, g_placeLow, g_placeHigh, g_reached, g_mayThrow, .int g_status, .int g_hasRun, .int g_threw, .int g_whereThrown, .ref ga_value, g_means, g_laneOf, g_sizeOf, g_cells, g_copied, .long g_state, .long g_joinedLow, .long g_joinedHigh, g_keptLow, g_keptHigh])), (ga_value, .inl (cI, 6, .inl gc_value))]) (fun u => [(0, .ref gh), (1, .int xa)]) (fun u => [.int (u)]) (nL := 2) (H0 := s.heap) (A := A) (D := (dC, dI)) (cl := vwCl) 17 (fun u_3 hu_3 H_3 locs_3 ls1 hP1 hD1 hS1 hl1 => ?_) (fun jn_3 => ?_)
  · -- behind 17
    obtain ⟨v_4, rfl⟩ : ∃ z, z = u_3 := ⟨_, rfl⟩
    replace hP : va_P (dC, dI) vwCl [(gh, .inr (5, [.int g_acts, g_kind, g_na, g_nb, g_nc, g_nd, g_ne, g_dropped, g_live, g_low, g_high, g_sites, g_nulls, g_there, g_lanes, g_least, g_most, g_placeLow, g_placeHigh, g_reached, g_mayThrow, .int g_status, .int g_hasRun, .int g_threw, .int g_whereThrown, .ref ga_value, g_means, g_laneOf, g_sizeOf, g_cells, g_copied, .long g_state, .long g_joinedLow, .long g_joinedHigh, g_keptLow, g_keptHigh])), (ga_value, .inl (cI, 6, .inl gc_value))] H_3 := hP1
    replace hD : va_D A [(gh, .inr (5, [.int g_acts, g_kind, g_na, g_nb, g_nc, g_nd, g_ne, g_dropped, g_live, g_low, g_high, g_sites, g_nulls, g_there, g_lanes, g_least, g_most, g_placeLow, g_placeHigh, g_reached, g_mayThrow, .int g_status, .int g_hasRun, .int g_threw, .int g_whereThrown, .ref ga_value, g_means, g_laneOf, g_sizeOf, g_cells, g_copied, .long g_state, .long g_joinedLow, .long g_joinedHigh, g_keptLow, g_keptHigh])), (ga_value, .inl (cI, 6, .inl gc_value))] := hD1
    replace hS := hS1
    clear hP1 hD1 hS1
    replace hl : lv_has ls1 2 [(0, .ref gh), (1, .int xa)] := hl1
    clear hl1
    have hP9 := hP.sub (ws' := [(gh, .inr (5, [.int g_acts, g_kind, g_na, g_nb, g_nc, g_nd, g_ne, g_dropped, g_live, g_low, g_high, g_sites, g_nulls, g_there, g_lanes, g_least, g_most, g_placeLow, g_placeHigh, g_reached, g_mayThrow, .int g_status, .int g_hasRun, .int g_threw, .int g_whereThrown, .ref ga_value, g_means, g_laneOf, g_sizeOf, g_cells, g_copied, .long g_state, .long g_joinedLow, .long g_joinedHigh, g_keptLow, g_keptHigh])), (ga_value, .inl (cI, 6, .inl gc_value))]) [0, 1] rfl
    have hD9 := hD.sub (ws' := [(gh, .inr (5, [.int g_acts, g_kind, g_na, g_nb, g_nc, g_nd, g_ne, g_dropped, g_live, g_low, g_high, g_sites, g_nulls, g_there, g_lanes, g_least, g_most, g_placeLow, g_placeHigh, g_reached, g_mayThrow, .int g_status, .int g_hasRun, .int g_threw, .int g_whereThrown, .ref ga_value, g_means, g_laneOf, g_sizeOf, g_cells, g_copied, .long g_state, .long g_joinedLow, .long g_joinedHigh, g_keptLow, g_keptHigh])), (ga_value, .inl (cI, 6, .inl gc_value))]) [0, 1] (by decide) rfl
    exact W.iret (v := v_4) hx hb hr (fun t ht hW => ⟨⟨v_4, (), rfl, trivial, by rw [ht]; exact hP9, va_K.moved hW.alike hK, hD9⟩, hS.F ht⟩) hS.2.2 dX5_value_17
  · -- ahead of 17
    refine lv_if_eq (tgt := 16) hx hb dX5_value_4 (by decide) (fun c_5 => ?_) (fun c_5 => ?_)
    · -- yes
      have k_5 : r_1.toInt = (0 : Int32).toInt := ci_eq c_5
      have kt_5 : ¬ (V6 xa) := two_z q_r_1 c_5
      refine lv_iconst (v := 0) hx hb dX5_value_16 (by decide) ?_
      exact jn_3 (0 : Int32) (show True from trivial) _ _ _ (hP.sub [0, 1] rfl) (hD.sub [0, 1] (by decide) rfl) hS (lv_sub hl [0, 1] rfl)
    · -- no
      have k_5 : ¬ r_1.toInt = (0 : Int32).toInt := ci_ne c_5
      have kt_5 : V6 xa := two_nz q_r_1 c_5
      refine lv_aload_n hx hb dX5_value_7 rfl (lv_at hl 0 rfl) ?_
      refine va_get (D := (dC, dI)) (ci := 5) (v := .ref ga_value) (C := RX5) (T := TX5) (N := 36) hx hb hts inv_X5_value_X5 hown hK hP 0 rfl rfl 25 (by decide) (hts (.fieldLink RX5 72 "ArraySegmentsModel" "value" "[I") (List.mem_of_getElem? (i := 4) rfl)) (fun _ h9 => h9) rfl dX5_value_8 ?_
      refine lv_iload_n hx hb dX5_value_11 rfl (lv_at hl 1 rfl) ?_
      refine sf_iald kT hx hb hK hP 1 0 rfl rfl (fun _ => trivial) (vp_in_iff.mpr ⟨by omega, by omega⟩) dX5_value_12 (fun v_6 q_v_6 e_v_6 => ?_)
      refine lv_goto (tgt := 17) hx hb dX5_value_13 (by decide) ?_
      exact jn_3 v_6 (show True from trivial) _ _ _ (hP.sub [0, 1] rfl) (hD.sub [0, 1] (by decide) rfl) hS (lv_sub hl [0, 1] rfl)
