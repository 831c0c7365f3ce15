def v_X5_same : List Cond := .code yX5_same cX5_same 3 (some .int) :: ([.methodLink RX5 115 yX5_isName, .static yX5_isName, .initialized RX5, .fieldLink RX5 99 "ArraySegmentsModel" "hasRun" "Z", .fieldLink RX5 75 "ArraySegmentsModel" "means" "[I"] ++ (wsX50 ++ (v_X5_isName)))
theorem inv_X5_same_X5 : ∀ w ∈ wsX50, w ∈ v_X5_same := fun _ h => List.mem_cons_of_mem _ (List.mem_append_right _ (List.mem_append_left _ h))
theorem im_X5_same_X5_isName : ∀ w ∈ v_X5_isName, w ∈ v_X5_same := fun _ h => List.mem_cons_of_mem _ (List.mem_append_right _ (List.mem_append_right _ (h)))
set_option maxRecDepth 20000 in
theorem gd_X5_same : gdL v_X5_same := gdC (gdW (by decide +kernel)) (gdA (gdW (by decide +kernel)) (gdA gd_wsX50 gd_X5_isName))
set_option maxRecDepth 20000 in
theorem h_X5_same_X5_isName_115 : GoodIn v_X5_same (va_wsS RX5 115 yX5_isName v_X5_isName) := gdI [1, 2, 3] rfl (by decide +kernel) (im_X5_same_X5_isName) gd_X5_isName
abbrev sw_X5_same (cI cJ cZ : ClassId) (gh : Nat) (g_acts : Int32) (g_kind : Value) (g_na : Value) (g_nb : Value) (g_nc : Value) (g_nd : Value) (g_ne : Value) (g_dropped : Value) (g_live : Value) (g_low : Value) (g_high : Value) (g_sites : Value) (g_nulls : Value) (g_there : Value) (g_lanes : Value) (g_least : Value) (g_most : Value) (g_placeLow : Value) (g_placeHigh : Value) (g_reached : Value) (g_mayThrow : Value) (g_status : Int32) (g_hasRun : Int32) (g_threw : Int32) (g_whereThrown : Int32) (g_value : Value) (ga_means : Nat) (g_laneOf : Value) (g_sizeOf : Value) (g_cells : Value) (g_copied : Value) (g_state : Int64) (g_joinedLow : Int64) (g_joinedHigh : Int64) (g_keptLow : Value) (g_keptHigh : Value) (gc_means : Nat → Int32) (ra : Int32) (sa : Int32) : va_W := [(gh, .inr (5, [.int g_acts, g_kind, g_na, g_nb, g_nc, g_nd, g_ne, g_dropped, g_live, g_low, g_high, g_sites, g_nulls, g_there, g_lanes, g_least, g_most, g_placeLow, g_placeHigh, g_reached, g_mayThrow, .int g_status, .int g_hasRun, .int g_threw, .int g_whereThrown, g_value, .ref ga_means, g_laneOf, g_sizeOf, g_cells, g_copied, .long g_state, .long g_joinedLow, .long g_joinedHigh, g_keptLow, g_keptHigh])), (ga_means, .inl (cI, 6, .inl gc_means))]
set_option maxHeartbeats 8000000 in
set_option maxRecDepth 100000 in
theorem s_X5_same (l : Launch) (dC : Nat → ClassId) (dI : Nat → Nat → Nat) (cI cJ cZ : ClassId) (gh : Nat) (g_acts : Int32) (g_kind : Value) (g_na : Value) (g_nb : Value) (g_nc : Value) (g_nd : Value) (g_ne : Value) (g_dropped : Value) (g_live : Value) (g_low : Value) (g_high : Value) (g_sites : Value) (g_nulls : Value) (g_there : Value) (g_lanes : Value) (g_least : Value) (g_most : Value) (g_placeLow : Value) (g_placeHigh : Value) (g_reached : Value) (g_mayThrow : Value) (g_status : Int32) (g_hasRun : Int32) (g_threw : Int32) (g_whereThrown : Int32) (g_value : Value) (ga_means : Nat) (g_laneOf : Value) (g_sizeOf : Value) (g_cells : Value) (g_copied : Value) (g_state : Int64) (g_joinedLow : Int64) (g_joinedHigh : Int64) (g_keptLow : Value) (g_keptHigh : Value) (gc_means : Nat → Int32) (ra : Int32) (sa : Int32) (sz : Nat) (q_g_hasRun : kZ g_hasRun) (h_gc_means : ∀ j : Nat, kSITE (gc_means j)) : Met l yX5_same v_X5_same ({ frames := 1, cells := 0, slots := 0, locals := 20 }) (va_Pc [.ref gh, .int ra, .int sa] (cPre dC dI cI cJ cZ sz (sw_X5_same cI cJ cZ gh g_acts g_kind g_na g_nb g_nc g_nd g_ne g_dropped g_live g_low g_high g_sites g_nulls g_there g_lanes g_least g_most g_placeLow g_placeHigh g_reached g_mayThrow g_status g_hasRun g_threw g_whereThrown g_value ga_means g_laneOf g_sizeOf g_cells g_copied g_state g_joinedLow g_joinedHigh g_keptLow g_keptHigh gc_means ra sa))) (va_Qi (fun (r : Int32) (u : Unit) => True) (fun (u : Unit) => cPost dC dI cI cJ cZ (va_A (sw_X5_same cI cJ cZ gh g_acts g_kind g_na g_nb g_nc g_nd g_ne g_dropped g_live g_low g_high g_sites g_nulls g_there g_lanes g_least g_most g_placeLow g_placeHigh g_reached g_mayThrow g_status g_hasRun g_threw g_whereThrown g_value ga_means g_laneOf g_sizeOf g_cells g_copied g_state g_joinedLow g_joinedHigh g_keptLow g_keptHigh gc_means ra sa) sz) [(gh, .inr (5, [.int g_acts, g_kind, g_na, g_nb, g_nc, g_nd, g_ne, g_dropped, g_live, g_low, g_high, g_sites, g_nulls, g_there, g_lanes, g_least, g_most, g_placeLow, g_placeHigh, g_reached, g_mayThrow, .int g_status, .int g_hasRun, .int g_threw, .int g_whereThrown, g_value, .ref ga_means, g_laneOf, g_sizeOf, g_cells, g_copied, .long g_state, .long g_joinedLow, .long g_joinedHigh, g_keptLow, g_keptHigh])), (ga_means, .inl (cI, 6, .inl gc_means))]) (va_A (sw_X5_same cI cJ cZ gh g_acts g_kind g_na g_nb g_nc g_nd g_ne g_dropped g_live g_low g_high g_sites g_nulls g_there g_lanes g_least g_most g_placeLow g_placeHigh g_reached g_mayThrow g_status g_hasRun g_threw g_whereThrown g_value ga_means g_laneOf g_sizeOf g_cells g_copied g_state g_joinedLow g_joinedHigh g_keptLow g_keptHigh gc_means ra sa) sz)) 0 0 (va_A (sw_X5_same cI cJ cZ gh g_acts g_kind g_na g_nb g_nc g_nd g_ne g_dropped g_live g_low g_high g_sites g_nulls g_there g_lanes g_least g_most g_placeLow g_placeHigh g_reached g_mayThrow g_status g_hasRun g_threw g_whereThrown g_value ga_means g_laneOf g_sizeOf g_cells g_copied g_state g_joinedLow g_joinedHigh g_keptLow g_keptHigh gc_means ra sa) sz) := by
  refine Met.ofW (cc := cX5_same) (maxL := 3) (ret := (some .int)) (by decide) rfl ?_
  intro p e s m args below meth c s₁ B hml hv
  obtain ⟨rfl, hsz, hP, hK, hD0, hN⟩ := hv
  have hx := B.exec
  have hb := B.bytes
  have hr := B.returns
  have hts := atoms_spec (ws := v_X5_same) B.pre
  have hown : s.vm.findClass RX5 = some m.cls := findClass_of_methodNamed B.named
  have hlocks := B.notSynchronized
  subst hsz
  have hD := hD0.self (sz := s.heap.size)
  generalize hAe : va_A (sw_X5_same cI cJ cZ gh g_acts g_kind g_na g_nb g_nc g_nd g_ne g_dropped g_live g_low g_high g_sites g_nulls g_there g_lanes g_least g_most g_placeLow g_placeHigh g_reached g_mayThrow g_status g_hasRun g_threw g_whereThrown g_value ga_means g_laneOf g_sizeOf g_cells g_copied g_state g_joinedLow g_joinedHigh g_keptLow g_keptHigh gc_means ra sa) s.heap.size = A at hD ⊢
  have hA : ∀ q : Nat, s.heap.size ≤ q → A q := fun q h => by rw [← hAe]; exact Or.inr h
  clear hAe hD0
  have hS : va_S A s.heap s.heap [] := va_S.rf
  replace hP : va_P (dC, dI) vwCl [(gh, .inr (5, [.int g_acts, g_kind, g_na, g_nb, g_nc, g_nd, g_ne, g_dropped, g_live, g_low, g_high, g_sites, g_nulls, g_there, g_lanes, g_least, g_most, g_placeLow, g_placeHigh, g_reached, g_mayThrow, .int g_status, .int g_hasRun, .int g_threw, .int g_whereThrown, g_value, .ref ga_means, g_laneOf, g_sizeOf, g_cells, g_copied, .long g_state, .long g_joinedLow, .long g_joinedHigh, g_keptLow, g_keptHigh])), (ga_means, .inl (cI, 6, .inl gc_means))] s.heap := hP
  replace hD : va_D A [(gh, .inr (5, [.int g_acts, g_kind, g_na, g_nb, g_nc, g_nd, g_ne, g_dropped, g_live, g_low, g_high, g_sites, g_nulls, g_there, g_lanes, g_least, g_most, g_placeLow, g_placeHigh, g_reached, g_mayThrow, .int g_status, .int g_hasRun, .int g_threw, .int g_whereThrown, g_value, .ref ga_means, g_laneOf, g_sizeOf, g_cells, g_copied, .long g_state, .long g_joinedLow, .long g_joinedHigh, g_keptLow, g_keptHigh])), (ga_means, .inl (cI, 6, .inl gc_means))] := hD
  have hl := lv_entry ([.ref gh, .int ra, .int sa]) (n := 3) (Nat.le_of_ble_eq_true rfl)
  rw [lg_entry_eq]
  generalize (lg_sl ([.ref gh, .int ra, .int sa]) ++ List.replicate (3 - (lg_sl ([.ref gh, .int ra, .int sa])).length) Slot.unset).toArray = ls at hl ⊢
  replace hl : lv_has ls 3 [(0, .ref gh), (1, .int ra), (2, .int sa)] := hl
  have z_m3 : (-3 : Int32).toInt = -3 := by decide
  have z_m2 : (-2 : Int32).toInt = -2 := by decide
  have z_0 : (0 : Int32).toInt = 0 := by decide
  have z_1 : (1 : Int32).toInt = 1 := by decide
  refine lv_iload_n hx hb dX5_same_0 rfl (lv_at hl 1 rfl) ?_
  refine vp_callSi (va_runS (As := [.int ra]) (rest := []) ⟨hx, hb, hml, hown, hts⟩ (s_X5_isName l ra) (va_cwS 1 hts h_X5_same_X5_isName_115 rfl rfl rfl (by decide +kernel) ⟨Nat.le_of_ble_eq_true rfl, Nat.le_of_ble_eq_true rfl⟩) ⟨fun _ _ _ _ q => q, fun _ _ _ => ⟨rfl, trivial⟩⟩ rfl rfl hl.1 rfl (lv_room (Nat.le_of_ble_eq_true rfl)) dX5_same_1 ⟨Nat.le_of_ble_eq_true rfl, Nat.le_of_ble_eq_true rfl⟩).run (fun r_1 hw_1 => ?_)
  replace hw_1 : (two r_1 (V6 ra) 1 0) := hw_1
  have q_r_1 := hw_1
  refine lv_if_eq (tgt := 14) hx hb dX5_same_4 (by decide) (fun c_2 => ?_) (fun c_2 => ?_)
  · -- yes
    have k_2 : r_1.toInt = (0 : Int32).toInt := ci_eq c_2
    have kt_2 : ¬ (V6 ra) := two_z q_r_1 c_2
    refine lv_bipush (v := (-2)) hx hb dX5_same_14 (by decide) ?_
    have hP9 := hP.sub (ws' := [(gh, .inr (5, [.int g_acts, g_kind, g_na, g_nb, g_nc, g_nd, g_ne, g_dropped, g_live, g_low, g_high, g_sites, g_nulls, g_there, g_lanes, g_least, g_most, g_placeLow, g_placeHigh, g_reached, g_mayThrow, .int g_status, .int g_hasRun, .int g_threw, .int g_whereThrown, g_value, .ref ga_means, g_laneOf, g_sizeOf, g_cells, g_copied, .long g_state, .long g_joinedLow, .long g_joinedHigh, g_keptLow, g_keptHigh])), (ga_means, .inl (cI, 6, .inl gc_means))]) [0, 1] rfl
    have hD9 := hD.sub (ws' := [(gh, .inr (5, [.int g_acts, g_kind, g_na, g_nb, g_nc, g_nd, g_ne, g_dropped, g_live, g_low, g_high, g_sites, g_nulls, g_there, g_lanes, g_least, g_most, g_placeLow, g_placeHigh, g_reached, g_mayThrow, .int g_status, .int g_hasRun, .int g_threw, .int g_whereThrown, g_value, .ref ga_means, g_laneOf, g_sizeOf, g_cells, g_copied, .long g_state, .long g_joinedLow, .long g_joinedHigh, g_keptLow, g_keptHigh])), (ga_means, .inl (cI, 6, .inl gc_means))]) [0, 1] (by decide) rfl
    exact W.iret (v := (-2)) hx hb hr (fun t ht hW => ⟨⟨(-2), (), rfl, trivial, by rw [ht]; exact hP9, va_K.moved hW.alike hK, hD9⟩, hS.F ht⟩) hS.2.2 dX5_same_16
  · -- no
    have k_2 : ¬ r_1.toInt = (0 : Int32).toInt := ci_ne c_2
    have kt_2 : V6 ra := two_nz q_r_1 c_2
    refine lv_iload_n hx hb dX5_same_7 rfl (lv_at hl 2 rfl) ?_
    refine vp_callSi (va_runS (As := [.int sa]) (rest := []) ⟨hx, hb, hml, hown, hts⟩ (s_X5_isName l sa) (va_cwS 1 hts h_X5_same_X5_isName_115 rfl rfl rfl (by decide +kernel) ⟨Nat.le_of_ble_eq_true rfl, Nat.le_of_ble_eq_true rfl⟩) ⟨fun _ _ _ _ q => q, fun _ _ _ => ⟨rfl, trivial⟩⟩ rfl rfl hl.1 rfl (lv_room (Nat.le_of_ble_eq_true rfl)) dX5_same_8 ⟨Nat.le_of_ble_eq_true rfl, Nat.le_of_ble_eq_true rfl⟩).run (fun r_3 hw_3 => ?_)
    replace hw_3 : (two r_3 (V6 sa) 1 0) := hw_3
    have q_r_3 := hw_3
    refine lv_if_ne (tgt := 17) hx hb dX5_same_11 (by decide) (fun c_4 => ?_) (fun c_4 => ?_)
    · -- yes
      have k_4 : ¬ r_3.toInt = (0 : Int32).toInt := ci_ne c_4
      have kt_4 : V6 sa := two_nz q_r_3 c_4
      refine lv_aload_n hx hb dX5_same_17 rfl (lv_at hl 0 rfl) ?_
      refine va_get (D := (dC, dI)) (ci := 5) (v := .int g_hasRun) (C := RX5) (T := TX5) (N := 36) hx hb hts inv_X5_same_X5 hown hK hP 0 rfl rfl 22 (by decide) (hts (.fieldLink RX5 99 "ArraySegmentsModel" "hasRun" "Z") (List.mem_of_getElem? (i := 4) rfl)) (fun _ h9 => h9) rfl dX5_same_18 ?_
      refine my_join (S := Int32) (fun u => (-3 ≤ (u).toInt ∧ (u).toInt ≤ 1)) (fun u => [(gh, .inr (5, [.int g_acts, g_kind, g_na, g_nb, g_nc, g_nd, g_ne, g_dropped, g_live, g_low, g_high, g_sites, g_nulls, g_there, g_lanes, g_least, g_most, g_placeLow, g_placeHigh, g_reached, g_mayThrow, .int g_status, .int g_hasRun, .int g_threw, .int g_whereThrown, g_value, .ref ga_means, g_laneOf, g_sizeOf, g_cells, g_copied, .long g_state, .long g_joinedLow, .long g_joinedHigh, g_keptLow, g_keptHigh])), (ga_means, .inl (cI, 6, .inl gc_means))]) (fun u => [(0, .ref gh), (1, .int ra), (2, .int sa)]) (fun u => [.int (u)]) (nL := 3) (H0 := s.heap) (A := A) (D := (dC, dI)) (cl := vwCl) 49 (fun u_6 hu_6 H_6 locs_6 ls1 hP1 hD1 hS1 hl1 => ?_) (fun jn_6 => ?_)
      · -- behind 49
        obtain ⟨v_7, rfl⟩ : ∃ z, z = u_6 := ⟨_, rfl⟩
        replace hu_6 : (-3 ≤ v_7.toInt ∧ v_7.toInt ≤ 1) := hu_6
        have q_v_7 := hu_6
        replace hP : va_P (dC, dI) vwCl [(gh, .inr (5, [.int g_acts, g_kind, g_na, g_nb, g_nc, g_nd, g_ne, g_dropped, g_live, g_low, g_high, g_sites, g_nulls, g_there, g_lanes, g_least, g_most, g_placeLow, g_placeHigh, g_reached, g_mayThrow, .int g_status, .int g_hasRun, .int g_threw, .int g_whereThrown, g_value, .ref ga_means, g_laneOf, g_sizeOf, g_cells, g_copied, .long g_state, .long g_joinedLow, .long g_joinedHigh, g_keptLow, g_keptHigh])), (ga_means, .inl (cI, 6, .inl gc_means))] H_6 := hP1
        replace hD : va_D A [(gh, .inr (5, [.int g_acts, g_kind, g_na, g_nb, g_nc, g_nd, g_ne, g_dropped, g_live, g_low, g_high, g_sites, g_nulls, g_there, g_lanes, g_least, g_most, g_placeLow, g_placeHigh, g_reached, g_mayThrow, .int g_status, .int g_hasRun, .int g_threw, .int g_whereThrown, g_value, .ref ga_means, g_laneOf, g_sizeOf, g_cells, g_copied, .long g_state, .long g_joinedLow, .long g_joinedHigh, g_keptLow, g_keptHigh])), (ga_means, .inl (cI, 6, .inl gc_means))] := hD1
        replace hS := hS1
        clear hP1 hD1 hS1
        replace hl : lv_has ls1 3 [(0, .ref gh), (1, .int ra), (2, .int sa)] := hl1
        clear hl1
        have hP9 := hP.sub (ws' := [(gh, .inr (5, [.int g_acts, g_kind, g_na, g_nb, g_nc, g_nd, g_ne, g_dropped, g_live, g_low, g_high, g_sites, g_nulls, g_there, g_lanes, g_least, g_most, g_placeLow, g_placeHigh, g_reached, g_mayThrow, .int g_status, .int g_hasRun, .int g_threw, .int g_whereThrown, g_value, .ref ga_means, g_laneOf, g_sizeOf, g_cells, g_copied, .long g_state, .long g_joinedLow, .long g_joinedHigh, g_keptLow, g_keptHigh])), (ga_means, .inl (cI, 6, .inl gc_means))]) [0, 1] rfl
        have hD9 := hD.sub (ws' := [(gh, .inr (5, [.int g_acts, g_kind, g_na, g_nb, g_nc, g_nd, g_ne, g_dropped, g_live, g_low, g_high, g_sites, g_nulls, g_there, g_lanes, g_least, g_most, g_placeLow, g_placeHigh, g_reached, g_mayThrow, .int g_status, .int g_hasRun, .int g_threw, .int g_whereThrown, g_value, .ref ga_means, g_laneOf, g_sizeOf, g_cells, g_copied, .long g_state, .long g_joinedLow, .long g_joinedHigh, g_keptLow, g_keptHigh])), (ga_means, .inl (cI, 6, .inl gc_means))]) [0, 1] (by decide) rfl
        exact W.iret (v := v_7) hx hb hr (fun t ht hW => ⟨⟨v_7, (), rfl, trivial, by rw [ht]; exact hP9, va_K.moved hW.alike hK, hD9⟩, hS.F ht⟩) hS.2.2 dX5_same_49
      · -- ahead of 49
        refine lv_if_ne (tgt := 29) hx hb dX5_same_21 (by decide) (fun c_8 => ?_) (fun c_8 => ?_)
        · -- yes
          have k_8 : ¬ g_hasRun.toInt = (0 : Int32).toInt := ci_ne c_8
          refine lv_aload_n hx hb dX5_same_29 rfl (lv_at hl 0 rfl) ?_
          refine va_get (D := (dC, dI)) (ci := 5) (v := .ref ga_means) (C := RX5) (T := TX5) (N := 36) hx hb hts inv_X5_same_X5 hown hK hP 0 rfl rfl 26 (by decide) (hts (.fieldLink RX5 75 "ArraySegmentsModel" "means" "[I") (List.mem_of_getElem? (i := 5) rfl)) (fun _ h9 => h9) rfl dX5_same_30 ?_
          refine lv_iload_n hx hb dX5_same_33 rfl (lv_at hl 1 rfl) ?_
          refine sf_iald kSITE hx hb hK hP 1 0 rfl rfl h_gc_means (vp_in_iff.mpr ⟨by omega, by omega⟩) dX5_same_34 (fun v_9 q_v_9 e_v_9 => ?_)
          refine lv_aload_n hx hb dX5_same_35 rfl (lv_at hl 0 rfl) ?_
          refine va_get (D := (dC, dI)) (ci := 5) (v := .ref ga_means) (C := RX5) (T := TX5) (N := 36) hx hb hts inv_X5_same_X5 hown hK hP 0 rfl rfl 26 (by decide) (hts (.fieldLink RX5 75 "ArraySegmentsModel" "means" "[I") (List.mem_of_getElem? (i := 5) rfl)) (fun _ h9 => h9) rfl dX5_same_36 ?_
          refine lv_iload_n hx hb dX5_same_39 rfl (lv_at hl 2 rfl) ?_
          refine sf_iald kSITE hx hb hK hP 1 0 rfl rfl h_gc_means (vp_in_iff.mpr ⟨by omega, by omega⟩) dX5_same_40 (fun v_10 q_v_10 e_v_10 => ?_)
          refine lv_icmp_ne (tgt := 48) hx hb dX5_same_41 (by decide) (fun c_11 => ?_) (fun c_11 => ?_)
          · -- yes
            have k_11 : ¬ v_9.toInt = v_10.toInt := ci_ne c_11
            refine lv_iconst (v := 0) hx hb dX5_same_48 (by decide) ?_
            exact jn_6 (0 : Int32) (show (-3 ≤ (0 : Int32).toInt ∧ (0 : Int32).toInt ≤ 1) from ⟨by omega, by omega⟩) _ _ _ (hP.sub [0, 1] rfl) (hD.sub [0, 1] (by decide) rfl) hS (lv_sub hl [0, 1, 2] rfl)
          · -- no
            have k_11 : v_9.toInt = v_10.toInt := ci_eq c_11
            refine lv_iconst (v := 1) hx hb dX5_same_44 (by decide) ?_
            refine lv_goto (tgt := 49) hx hb dX5_same_45 (by decide) ?_
            exact jn_6 (1 : Int32) (show (-3 ≤ (1 : Int32).toInt ∧ (1 : Int32).toInt ≤ 1) from ⟨by omega, by omega⟩) _ _ _ (hP.sub [0, 1] rfl) (hD.sub [0, 1] (by decide) rfl) hS (lv_sub hl [0, 1, 2] rfl)
        · -- no
          have k_8 : g_hasRun.toInt = (0 : Int32).toInt := ci_eq c_8
          refine lv_bipush (v := (-3)) hx hb dX5_same_24 (by decide) ?_
          refine lv_goto (tgt := 49) hx hb dX5_same_26 (by decide) ?_
          exact jn_6 ((-3) : Int32) (show (-3 ≤ ((-3) : Int32).toInt ∧ ((-3) : Int32).toInt ≤ 1) from ⟨by omega, by omega⟩) _ _ _ (hP.sub [0, 1] rfl) (hD.sub [0, 1] (by decide) rfl) hS (lv_sub hl [0, 1, 2] rfl)
    · -- no
      have k_4 : r_3.toInt = (0 : Int32).toInt := ci_eq c_4
      have kt_4 : ¬ (V6 sa) := two_z q_r_3 c_4
      refine lv_bipush (v := (-2)) hx hb dX5_same_14 (by decide) ?_
      have hP9 := hP.sub (ws' := [(gh, .inr (5, [.int g_acts, g_kind, g_na, g_nb, g_nc, g_nd, g_ne, g_dropped, g_live, g_low, g_high, g_sites, g_nulls, g_there, g_lanes, g_least, g_most, g_placeLow, g_placeHigh, g_reached, g_mayThrow, .int g_status, .int g_hasRun, .int g_threw, .int g_whereThrown, g_value, .ref ga_means, g_laneOf, g_sizeOf, g_cells, g_copied, .long g_state, .long g_joinedLow, .long g_joinedHigh, g_keptLow, g_keptHigh])), (ga_means, .inl (cI, 6, .inl gc_means))]) [0, 1] rfl
      have hD9 := hD.sub (ws' := [(gh, .inr (5, [.int g_acts, g_kind, g_na, g_nb, g_nc, g_nd, g_ne, g_dropped, g_live, g_low, g_high, g_sites, g_nulls, g_there, g_lanes, g_least, g_most, g_placeLow, g_placeHigh, g_reached, g_mayThrow, .int g_status, .int g_hasRun, .int g_threw, .int g_whereThrown, g_value, .ref ga_means, g_laneOf, g_sizeOf, g_cells, g_copied, .long g_state, .long g_joinedLow, .long g_joinedHigh, g_keptLow, g_keptHigh])), (ga_means, .inl (cI, 6, .inl gc_means))]) [0, 1] (by decide) rfl
      exact W.iret (v := (-2)) hx hb hr (fun t ht hW => ⟨⟨(-2), (), rfl, trivial, by rw [ht]; exact hP9, va_K.moved hW.alike hK, hD9⟩, hS.F ht⟩) hS.2.2 dX5_same_16
