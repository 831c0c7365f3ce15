def v_X5_draw : List Cond := .code yX5_draw cX5_draw 3 (some .long) :: ([.fieldLink RX5 278 "ArraySegmentsModel" "state" "J", .constantLong RX5 281 (-7046029254386353131), .constantLong RX5 283 (-4658895280553007687), .constantLong RX5 285 (-7723592293110705685)] ++ (wsX50))
theorem inv_X5_draw_X5 : ∀ w ∈ wsX50, w ∈ v_X5_draw := fun _ h => List.mem_cons_of_mem _ (List.mem_append_right _ (h))
set_option maxRecDepth 20000 in
theorem gd_X5_draw : gdL v_X5_draw := gdC (gdW (by decide +kernel)) (gdA (gdW (by decide +kernel)) gd_wsX50)
abbrev sw_X5_draw (cI cJ cZ : ClassId) (gh : Nat) (g_acts : Int32) (g_kind : Value) (g_na : Value) (g_nb : Value) (g_nc : Value) (g_nd : Value) (g_ne : Value) (g_dropped : Value) (g_live : Value) (g_low : Value) (g_high : Value) (g_sites : Value) (g_nulls : Value) (g_there : Value) (g_lanes : Value) (g_least : Value) (g_most : Value) (g_placeLow : Value) (g_placeHigh : Value) (g_reached : Value) (g_mayThrow : Value) (g_status : Int32) (g_hasRun : Int32) (g_threw : Int32) (g_whereThrown : Int32) (g_value : Value) (g_means : Value) (g_laneOf : Value) (g_sizeOf : Value) (g_cells : Value) (g_copied : Value) (g_state : Int64) (g_joinedLow : Int64) (g_joinedHigh : Int64) (g_keptLow : Value) (g_keptHigh : Value) : va_W := [(gh, .inr (5, [.int g_acts, g_kind, g_na, g_nb, g_nc, g_nd, g_ne, g_dropped, g_live, g_low, g_high, g_sites, g_nulls, g_there, g_lanes, g_least, g_most, g_placeLow, g_placeHigh, g_reached, g_mayThrow, .int g_status, .int g_hasRun, .int g_threw, .int g_whereThrown, g_value, g_means, g_laneOf, g_sizeOf, g_cells, g_copied, .long g_state, .long g_joinedLow, .long g_joinedHigh, g_keptLow, g_keptHigh]))]
set_option maxHeartbeats 8000000 in
set_option maxRecDepth 100000 in
theorem s_X5_draw (l : Launch) (dC : Nat → ClassId) (dI : Nat → Nat → Nat) (cI cJ cZ : ClassId) (gh : Nat) (g_acts : Int32) (g_kind : Value) (g_na : Value) (g_nb : Value) (g_nc : Value) (g_nd : Value) (g_ne : Value) (g_dropped : Value) (g_live : Value) (g_low : Value) (g_high : Value) (g_sites : Value) (g_nulls : Value) (g_there : Value) (g_lanes : Value) (g_least : Value) (g_most : Value) (g_placeLow : Value) (g_placeHigh : Value) (g_reached : Value) (g_mayThrow : Value) (g_status : Int32) (g_hasRun : Int32) (g_threw : Int32) (g_whereThrown : Int32) (g_value : Value) (g_means : Value) (g_laneOf : Value) (g_sizeOf : Value) (g_cells : Value) (g_copied : Value) (g_state : Int64) (g_joinedLow : Int64) (g_joinedHigh : Int64) (g_keptLow : Value) (g_keptHigh : Value) (sz : Nat) (q_g_hasRun : kZ g_hasRun) : Met l yX5_draw v_X5_draw ({ frames := 0, cells := 0, slots := 0, locals := 0 }) (va_Pc [.ref gh] (cPre dC dI cI cJ cZ sz (sw_X5_draw cI cJ cZ gh g_acts g_kind g_na g_nb g_nc g_nd g_ne g_dropped g_live g_low g_high g_sites g_nulls g_there g_lanes g_least g_most g_placeLow g_placeHigh g_reached g_mayThrow g_status g_hasRun g_threw g_whereThrown g_value g_means g_laneOf g_sizeOf g_cells g_copied g_state g_joinedLow g_joinedHigh g_keptLow g_keptHigh))) (va_Ql (fun (r : Int64) (u : Int64) => True) (fun (u : Int64) => cPost dC dI cI cJ cZ (va_A (sw_X5_draw cI cJ cZ gh g_acts g_kind g_na g_nb g_nc g_nd g_ne g_dropped g_live g_low g_high g_sites g_nulls g_there g_lanes g_least g_most g_placeLow g_placeHigh g_reached g_mayThrow g_status g_hasRun g_threw g_whereThrown g_value g_means g_laneOf g_sizeOf g_cells g_copied g_state g_joinedLow g_joinedHigh g_keptLow g_keptHigh) sz) [(gh, .inr (5, [.int g_acts, g_kind, g_na, g_nb, g_nc, g_nd, g_ne, g_dropped, g_live, g_low, g_high, g_sites, g_nulls, g_there, g_lanes, g_least, g_most, g_placeLow, g_placeHigh, g_reached, g_mayThrow, .int g_status, .int g_hasRun, .int g_threw, .int g_whereThrown, g_value, g_means, g_laneOf, g_sizeOf, g_cells, g_copied, .long (u), .long g_joinedLow, .long g_joinedHigh, g_keptLow, g_keptHigh]))]) (va_A (sw_X5_draw cI cJ cZ gh g_acts g_kind g_na g_nb g_nc g_nd g_ne g_dropped g_live g_low g_high g_sites g_nulls g_there g_lanes g_least g_most g_placeLow g_placeHigh g_reached g_mayThrow g_status g_hasRun g_threw g_whereThrown g_value g_means g_laneOf g_sizeOf g_cells g_copied g_state g_joinedLow g_joinedHigh g_keptLow g_keptHigh) sz)) 0 0 (va_A (sw_X5_draw cI cJ cZ gh g_acts g_kind g_na g_nb g_nc g_nd g_ne g_dropped g_live g_low g_high g_sites g_nulls g_there g_lanes g_least g_most g_placeLow g_placeHigh g_reached g_mayThrow g_status g_hasRun g_threw g_whereThrown g_value g_means g_laneOf g_sizeOf g_cells g_copied g_state g_joinedLow g_joinedHigh g_keptLow g_keptHigh) sz) := by
  refine Met.ofW (cc := cX5_draw) (maxL := 3) (ret := (some .long)) (by decide) rfl ?_
  intro p e s m args below meth c s₁ B hml hv
  obtain ⟨rfl, hsz, hP, hK, hD0, hN⟩ := hv
  have hx := B.exec
  have hb := B.bytes
  have hr := B.returns
  have hts := atoms_spec (ws := v_X5_draw) B.pre
  have hown : s.vm.findClass RX5 = some m.cls := findClass_of_methodNamed B.named
  have hlocks := B.notSynchronized
  subst hsz
  have hD := hD0.self (sz := s.heap.size)
  generalize hAe : va_A (sw_X5_draw cI cJ cZ gh g_acts g_kind g_na g_nb g_nc g_nd g_ne g_dropped g_live g_low g_high g_sites g_nulls g_there g_lanes g_least g_most g_placeLow g_placeHigh g_reached g_mayThrow g_status g_hasRun g_threw g_whereThrown g_value g_means g_laneOf g_sizeOf g_cells g_copied g_state g_joinedLow g_joinedHigh g_keptLow g_keptHigh) s.heap.size = A at hD ⊢
  have hA : ∀ q : Nat, s.heap.size ≤ q → A q := fun q h => by rw [← hAe]; exact Or.inr h
  clear hAe hD0
  have hS : va_S A s.heap s.heap [] := va_S.rf
  replace hP : va_P (dC, dI) vwCl [(gh, .inr (5, [.int g_acts, g_kind, g_na, g_nb, g_nc, g_nd, g_ne, g_dropped, g_live, g_low, g_high, g_sites, g_nulls, g_there, g_lanes, g_least, g_most, g_placeLow, g_placeHigh, g_reached, g_mayThrow, .int g_status, .int g_hasRun, .int g_threw, .int g_whereThrown, g_value, g_means, g_laneOf, g_sizeOf, g_cells, g_copied, .long g_state, .long g_joinedLow, .long g_joinedHigh, g_keptLow, g_keptHigh]))] s.heap := hP
  replace hD : va_D A [(gh, .inr (5, [.int g_acts, g_kind, g_na, g_nb, g_nc, g_nd, g_ne, g_dropped, g_live, g_low, g_high, g_sites, g_nulls, g_there, g_lanes, g_least, g_most, g_placeLow, g_placeHigh, g_reached, g_mayThrow, .int g_status, .int g_hasRun, .int g_threw, .int g_whereThrown, g_value, g_means, g_laneOf, g_sizeOf, g_cells, g_copied, .long g_state, .long g_joinedLow, .long g_joinedHigh, g_keptLow, g_keptHigh]))] := hD
  have hl := lv_entry ([.ref gh]) (n := 3) (Nat.le_of_ble_eq_true rfl)
  rw [lg_entry_eq]
  generalize (lg_sl ([.ref gh]) ++ List.replicate (3 - (lg_sl ([.ref gh])).length) Slot.unset).toArray = ls at hl ⊢
  replace hl : lv_has ls 3 [(0, .ref gh)] := hl
  have z_0 : (0 : Int32).toInt = 0 := by decide
  have z_1 : (1 : Int32).toInt = 1 := by decide
  refine lv_aload_n hx hb dX5_draw_0 rfl (lv_at hl 0 rfl) ?_
  refine lv_dup hx hb dX5_draw_1 rfl ?_
  refine va_get (D := (dC, dI)) (ci := 5) (v := .long g_state) (C := RX5) (T := TX5) (N := 36) hx hb hts inv_X5_draw_X5 hown hK hP 0 rfl rfl 31 (by decide) (hts (.fieldLink RX5 278 "ArraySegmentsModel" "state" "J") (List.mem_of_getElem? (i := 1) rfl)) (fun _ h9 => h9) rfl dX5_draw_2 ?_
  refine lv_ldc2 hx hb hown (hts (.constantLong RX5 281 (-7046029254386353131)) (List.mem_of_getElem? (i := 2) rfl)) dX5_draw_5 ?_
  refine lv_ladd hx hb dX5_draw_8 ?_
  refine lv_topl (fun v_1 e_v_1 => ?_)
  refine va_put (D := (dC, dI)) (ci := 5) (v := .long v_1) (ty := .long) (C := RX5) (T := TX5) (N := 36) hx hb hts inv_X5_draw_X5 tyX5 tyX5_ok nmX5 hown hK hP hD hS 0 rfl rfl 31 (by decide) (hts (.fieldLink RX5 278 "ArraySegmentsModel" "state" "J") (List.mem_of_getElem? (i := 1) rfl)) (fun _ h9 => h9) rfl (by decide +kernel) rfl rfl (Nat.le_of_ble_eq_true rfl) dX5_draw_9 (fun H_2 locs_2 hP1 hD1 hS1 => ?_)
  replace hP : va_P (dC, dI) vwCl [(gh, .inr (5, [.int g_acts, g_kind, g_na, g_nb, g_nc, g_nd, g_ne, g_dropped, g_live, g_low, g_high, g_sites, g_nulls, g_there, g_lanes, g_least, g_most, g_placeLow, g_placeHigh, g_reached, g_mayThrow, .int g_status, .int g_hasRun, .int g_threw, .int g_whereThrown, g_value, g_means, g_laneOf, g_sizeOf, g_cells, g_copied, .long v_1, .long g_joinedLow, .long g_joinedHigh, g_keptLow, g_keptHigh]))] H_2 := hP1
  replace hD : va_D A [(gh, .inr (5, [.int g_acts, g_kind, g_na, g_nb, g_nc, g_nd, g_ne, g_dropped, g_live, g_low, g_high, g_sites, g_nulls, g_there, g_lanes, g_least, g_most, g_placeLow, g_placeHigh, g_reached, g_mayThrow, .int g_status, .int g_hasRun, .int g_threw, .int g_whereThrown, g_value, g_means, g_laneOf, g_sizeOf, g_cells, g_copied, .long v_1, .long g_joinedLow, .long g_joinedHigh, g_keptLow, g_keptHigh]))] := hD1
  replace hS := hS1
  clear hP1 hD1 hS1
  refine lv_aload_n hx hb dX5_draw_12 rfl (lv_at hl 0 rfl) ?_
  refine va_get (D := (dC, dI)) (ci := 5) (v := .long v_1) (C := RX5) (T := TX5) (N := 36) hx hb hts inv_X5_draw_X5 hown hK hP 0 rfl rfl 31 (by decide) (hts (.fieldLink RX5 278 "ArraySegmentsModel" "state" "J") (List.mem_of_getElem? (i := 1) rfl)) (fun _ h9 => h9) rfl dX5_draw_13 ?_
  refine lv_lstore_n (lv' := [(1, .long v_1), (0, .ref gh)]) hx hb dX5_draw_16 rfl hl (by decide) rfl (fun ls1 hl1 => ?_)
  replace hl := hl1; clear hl1
  refine lv_lload_n hx hb dX5_draw_17 rfl (lv_at hl 0 rfl) ?_
  refine lv_lload_n hx hb dX5_draw_18 rfl (lv_at hl 0 rfl) ?_
  refine lv_bipush (v := 30) hx hb dX5_draw_19 (by decide) ?_
  refine lv_lushr (v := _) hx hb dX5_draw_21 rfl ?_
  refine lv_topl (fun v_3 e_v_3 => ?_)
  refine lv_lxor hx hb dX5_draw_22 ?_
  refine lv_topl (fun v_4 e_v_4 => ?_)
  refine lv_ldc2 hx hb hown (hts (.constantLong RX5 283 (-4658895280553007687)) (List.mem_of_getElem? (i := 3) rfl)) dX5_draw_23 ?_
  refine lv_lmul hx hb dX5_draw_26 ?_
  refine lv_topl (fun v_5 e_v_5 => ?_)
  refine lv_lstore_n (lv' := [(1, .long v_5), (0, .ref gh)]) hx hb dX5_draw_27 rfl hl (by decide) rfl (fun ls1 hl1 => ?_)
  replace hl := hl1; clear hl1
  refine lv_lload_n hx hb dX5_draw_28 rfl (lv_at hl 0 rfl) ?_
  refine lv_lload_n hx hb dX5_draw_29 rfl (lv_at hl 0 rfl) ?_
  refine lv_bipush (v := 27) hx hb dX5_draw_30 (by decide) ?_
  refine lv_lushr (v := _) hx hb dX5_draw_32 rfl ?_
  refine lv_topl (fun v_6 e_v_6 => ?_)
  refine lv_lxor hx hb dX5_draw_33 ?_
  refine lv_topl (fun v_7 e_v_7 => ?_)
  refine lv_ldc2 hx hb hown (hts (.constantLong RX5 285 (-7723592293110705685)) (List.mem_of_getElem? (i := 4) rfl)) dX5_draw_34 ?_
  refine lv_lmul hx hb dX5_draw_37 ?_
  refine lv_topl (fun v_8 e_v_8 => ?_)
  refine lv_lstore_n (lv' := [(1, .long v_8), (0, .ref gh)]) hx hb dX5_draw_38 rfl hl (by decide) rfl (fun ls1 hl1 => ?_)
  replace hl := hl1; clear hl1
  refine lv_lload_n hx hb dX5_draw_39 rfl (lv_at hl 0 rfl) ?_
  refine lv_lload_n hx hb dX5_draw_40 rfl (lv_at hl 0 rfl) ?_
  refine lv_bipush (v := 31) hx hb dX5_draw_41 (by decide) ?_
  refine lv_lushr (v := _) hx hb dX5_draw_43 rfl ?_
  refine lv_topl (fun v_9 e_v_9 => ?_)
  refine lv_lxor hx hb dX5_draw_44 ?_
  refine lv_topl (fun v_10 e_v_10 => ?_)
  have hP9 := hP.sub (ws' := [(gh, .inr (5, [.int g_acts, g_kind, g_na, g_nb, g_nc, g_nd, g_ne, g_dropped, g_live, g_low, g_high, g_sites, g_nulls, g_there, g_lanes, g_least, g_most, g_placeLow, g_placeHigh, g_reached, g_mayThrow, .int g_status, .int g_hasRun, .int g_threw, .int g_whereThrown, g_value, g_means, g_laneOf, g_sizeOf, g_cells, g_copied, .long v_1, .long g_joinedLow, .long g_joinedHigh, g_keptLow, g_keptHigh]))]) [0] rfl
  have hD9 := hD.sub (ws' := [(gh, .inr (5, [.int g_acts, g_kind, g_na, g_nb, g_nc, g_nd, g_ne, g_dropped, g_live, g_low, g_high, g_sites, g_nulls, g_there, g_lanes, g_least, g_most, g_placeLow, g_placeHigh, g_reached, g_mayThrow, .int g_status, .int g_hasRun, .int g_threw, .int g_whereThrown, g_value, g_means, g_laneOf, g_sizeOf, g_cells, g_copied, .long v_1, .long g_joinedLow, .long g_joinedHigh, g_keptLow, g_keptHigh]))]) [0] (by decide) rfl
  exact W.lret (v := v_10) hx hb hr (fun t ht hW => ⟨⟨v_10, v_1, rfl, trivial, by rw [ht]; exact hP9, va_K.moved hW.alike hK, hD9⟩, hS.F ht⟩) hS.2.2 dX5_draw_45
