def v_X5_setSpan : List Cond := .code yX5_setSpan cX5_setSpan 7 none :: ([.constantLong RX5 131 (-2147483648), .fieldLink RX5 35 "ArraySegmentsModel" "low" "[J", .fieldLink RX5 39 "ArraySegmentsModel" "high" "[J", .constantLong RX5 137 (2147483647)] ++ (wsX50))
theorem inv_X5_setSpan_X5 : ∀ w ∈ wsX50, w ∈ v_X5_setSpan := fun _ h => List.mem_cons_of_mem _ (List.mem_append_right _ (h))
set_option maxRecDepth 20000 in
theorem gd_X5_setSpan : gdL v_X5_setSpan := gdC (gdW (by decide +kernel)) (gdA (gdW (by decide +kernel)) gd_wsX50)
abbrev sw_X5_setSpan (cI cJ cZ : ClassId) (gh : Nat) (g_acts : Int32) (g_kind : Value) (g_na : Value) (g_nb : Value) (g_nc : Value) (g_nd : Value) (g_ne : Value) (g_dropped : Value) (g_live : Value) (ga_low : Nat) (ga_high : Nat) (g_sites : Value) (g_nulls : Value) (g_there : Value) (g_lanes : Value) (g_least : Value) (g_most : Value) (g_placeLow : Value) (g_placeHigh : Value) (g_reached : Value) (g_mayThrow : Value) (g_status : Int32) (g_hasRun : Int32) (g_threw : Int32) (g_whereThrown : Int32) (g_value : Value) (g_means : Value) (g_laneOf : Value) (g_sizeOf : Value) (g_cells : Value) (g_copied : Value) (g_state : Int64) (g_joinedLow : Int64) (g_joinedHigh : Int64) (g_keptLow : Value) (g_keptHigh : Value) (gc_low : Nat → Int64) (gc_high : Nat → Int64) (xa : Int32) (loa : Int64) (hia : Int64) : va_W := [(gh, .inr (5, [.int g_acts, g_kind, g_na, g_nb, g_nc, g_nd, g_ne, g_dropped, g_live, .ref ga_low, .ref ga_high, g_sites, g_nulls, g_there, g_lanes, g_least, g_most, g_placeLow, g_placeHigh, g_reached, g_mayThrow, .int g_status, .int g_hasRun, .int g_threw, .int g_whereThrown, g_value, g_means, g_laneOf, g_sizeOf, g_cells, g_copied, .long g_state, .long g_joinedLow, .long g_joinedHigh, g_keptLow, g_keptHigh])), (ga_low, .inl (cJ, 12, .inr (.inl gc_low))), (ga_high, .inl (cJ, 12, .inr (.inl gc_high)))]
set_option maxHeartbeats 8000000 in
set_option maxRecDepth 100000 in
theorem s_X5_setSpan (l : Launch) (dC : Nat → ClassId) (dI : Nat → Nat → Nat) (cI cJ cZ : ClassId) (gh : Nat) (g_acts : Int32) (g_kind : Value) (g_na : Value) (g_nb : Value) (g_nc : Value) (g_nd : Value) (g_ne : Value) (g_dropped : Value) (g_live : Value) (ga_low : Nat) (ga_high : Nat) (g_sites : Value) (g_nulls : Value) (g_there : Value) (g_lanes : Value) (g_least : Value) (g_most : Value) (g_placeLow : Value) (g_placeHigh : Value) (g_reached : Value) (g_mayThrow : Value) (g_status : Int32) (g_hasRun : Int32) (g_threw : Int32) (g_whereThrown : Int32) (g_value : Value) (g_means : Value) (g_laneOf : Value) (g_sizeOf : Value) (g_cells : Value) (g_copied : Value) (g_state : Int64) (g_joinedLow : Int64) (g_joinedHigh : Int64) (g_keptLow : Value) (g_keptHigh : Value) (gc_low : Nat → Int64) (gc_high : Nat → Int64) (xa : Int32) (loa : Int64) (hia : Int64) (sz : Nat) (q_g_hasRun : kZ g_hasRun) (h_gc_low : ∀ j : Nat, lGE (gc_low j)) (h_gc_high : ∀ j : Nat, lLE (gc_high j)) (hy_xa : V6 xa) : Met l yX5_setSpan v_X5_setSpan ({ frames := 0, cells := 0, slots := 0, locals := 0 }) (va_Pc [.ref gh, .int xa, .long loa, .long hia] (cPre dC dI cI cJ cZ sz (sw_X5_setSpan cI cJ cZ gh g_acts g_kind g_na g_nb g_nc g_nd g_ne g_dropped g_live ga_low ga_high g_sites g_nulls g_there g_lanes g_least g_most g_placeLow g_placeHigh g_reached g_mayThrow g_status g_hasRun g_threw g_whereThrown g_value g_means g_laneOf g_sizeOf g_cells g_copied g_state g_joinedLow g_joinedHigh g_keptLow g_keptHigh gc_low gc_high xa loa hia))) (va_Qv (fun (u : (Nat → Int64) × (Nat → Int64)) => (∀ j : Nat, lGE ((u.1) j)) ∧ (∀ j : Nat, lLE ((u.2) j)) ∧ ((-2147483648 ≤ loa.toInt ∧ hia.toInt ≤ 2147483647 ∧ upZ (fun j => (gc_low j).toInt) (xa).toNatClampNeg loa.toInt (fun j => ((u.1) j).toInt) ∧ upZ (fun j => (gc_high j).toInt) (xa).toNatClampNeg hia.toInt (fun j => ((u.2) j).toInt)) ∨ (upZ (fun j => (gc_low j).toInt) (xa).toNatClampNeg (-2147483648) (fun j => ((u.1) j).toInt) ∧ upZ (fun j => (gc_high j).toInt) (xa).toNatClampNeg 2147483647 (fun j => ((u.2) j).toInt))) ∧ (∀ j : Nat, ¬ j = (xa).toNatClampNeg → ((u.1) j).toInt = (gc_low j).toInt ∧ ((u.2) j).toInt = (gc_high j).toInt)) (fun (u : (Nat → Int64) × (Nat → Int64)) => cPost dC dI cI cJ cZ (va_A (sw_X5_setSpan cI cJ cZ gh g_acts g_kind g_na g_nb g_nc g_nd g_ne g_dropped g_live ga_low ga_high g_sites g_nulls g_there g_lanes g_least g_most g_placeLow g_placeHigh g_reached g_mayThrow g_status g_hasRun g_threw g_whereThrown g_value g_means g_laneOf g_sizeOf g_cells g_copied g_state g_joinedLow g_joinedHigh g_keptLow g_keptHigh gc_low gc_high xa loa hia) sz) [(gh, .inr (5, [.int g_acts, g_kind, g_na, g_nb, g_nc, g_nd, g_ne, g_dropped, g_live, .ref ga_low, .ref ga_high, g_sites, g_nulls, g_there, g_lanes, g_least, g_most, g_placeLow, g_placeHigh, g_reached, g_mayThrow, .int g_status, .int g_hasRun, .int g_threw, .int g_whereThrown, g_value, g_means, g_laneOf, g_sizeOf, g_cells, g_copied, .long g_state, .long g_joinedLow, .long g_joinedHigh, g_keptLow, g_keptHigh])), (ga_low, .inl (cJ, 12, .inr (.inl (u.1)))), (ga_high, .inl (cJ, 12, .inr (.inl (u.2))))]) (va_A (sw_X5_setSpan cI cJ cZ gh g_acts g_kind g_na g_nb g_nc g_nd g_ne g_dropped g_live ga_low ga_high g_sites g_nulls g_there g_lanes g_least g_most g_placeLow g_placeHigh g_reached g_mayThrow g_status g_hasRun g_threw g_whereThrown g_value g_means g_laneOf g_sizeOf g_cells g_copied g_state g_joinedLow g_joinedHigh g_keptLow g_keptHigh gc_low gc_high xa loa hia) sz)) 0 0 (va_A (sw_X5_setSpan cI cJ cZ gh g_acts g_kind g_na g_nb g_nc g_nd g_ne g_dropped g_live ga_low ga_high g_sites g_nulls g_there g_lanes g_least g_most g_placeLow g_placeHigh g_reached g_mayThrow g_status g_hasRun g_threw g_whereThrown g_value g_means g_laneOf g_sizeOf g_cells g_copied g_state g_joinedLow g_joinedHigh g_keptLow g_keptHigh gc_low gc_high xa loa hia) sz) := by
  refine Met.ofW (cc := cX5_setSpan) (maxL := 7) (ret := none) (by decide) rfl ?_
  intro p e s m args below meth c s₁ B hml hv
  obtain ⟨rfl, hsz, hP, hK, hD0, hN⟩ := hv
  have hx := B.exec
  have hb := B.bytes
  have hr := B.returns
  have hts := atoms_spec (ws := v_X5_setSpan) B.pre
  have hown : s.vm.findClass RX5 = some m.cls := findClass_of_methodNamed B.named
  have hlocks := B.notSynchronized
  subst hsz
  have hD := hD0.self (sz := s.heap.size)
  generalize hAe : va_A (sw_X5_setSpan cI cJ cZ gh g_acts g_kind g_na g_nb g_nc g_nd g_ne g_dropped g_live ga_low ga_high g_sites g_nulls g_there g_lanes g_least g_most g_placeLow g_placeHigh g_reached g_mayThrow g_status g_hasRun g_threw g_whereThrown g_value g_means g_laneOf g_sizeOf g_cells g_copied g_state g_joinedLow g_joinedHigh g_keptLow g_keptHigh gc_low gc_high xa loa hia) s.heap.size = A at hD ⊢
  have hA : ∀ q : Nat, s.heap.size ≤ q → A q := fun q h => by rw [← hAe]; exact Or.inr h
  clear hAe hD0
  have hS : va_S A s.heap s.heap [] := va_S.rf
  replace hP : va_P (dC, dI) vwCl [(gh, .inr (5, [.int g_acts, g_kind, g_na, g_nb, g_nc, g_nd, g_ne, g_dropped, g_live, .ref ga_low, .ref ga_high, g_sites, g_nulls, g_there, g_lanes, g_least, g_most, g_placeLow, g_placeHigh, g_reached, g_mayThrow, .int g_status, .int g_hasRun, .int g_threw, .int g_whereThrown, g_value, g_means, g_laneOf, g_sizeOf, g_cells, g_copied, .long g_state, .long g_joinedLow, .long g_joinedHigh, g_keptLow, g_keptHigh])), (ga_low, .inl (cJ, 12, .inr (.inl gc_low))), (ga_high, .inl (cJ, 12, .inr (.inl gc_high)))] s.heap := hP
  replace hD : va_D A [(gh, .inr (5, [.int g_acts, g_kind, g_na, g_nb, g_nc, g_nd, g_ne, g_dropped, g_live, .ref ga_low, .ref ga_high, g_sites, g_nulls, g_there, g_lanes, g_least, g_most, g_placeLow, g_placeHigh, g_reached, g_mayThrow, .int g_status, .int g_hasRun, .int g_threw, .int g_whereThrown, g_value, g_means, g_laneOf, g_sizeOf, g_cells, g_copied, .long g_state, .long g_joinedLow, .long g_joinedHigh, g_keptLow, g_keptHigh])), (ga_low, .inl (cJ, 12, .inr (.inl gc_low))), (ga_high, .inl (cJ, 12, .inr (.inl gc_high)))] := hD
  have hl := lv_entry ([.ref gh, .int xa, .long loa, .long hia]) (n := 7) (Nat.le_of_ble_eq_true rfl)
  rw [lg_entry_eq]
  generalize (lg_sl ([.ref gh, .int xa, .long loa, .long hia]) ++ List.replicate (7 - (lg_sl ([.ref gh, .int xa, .long loa, .long hia])).length) Slot.unset).toArray = ls at hl ⊢
  replace hl : lv_has ls 7 [(0, .ref gh), (1, .int xa), (2, .long loa), (4, .long hia)] := hl
  have z_0 : (0 : Int32).toInt = 0 := by decide
  have z_1 : (1 : Int32).toInt = 1 := by decide
  have zl_m2147483648 : (-2147483648 : Int64).toInt = -2147483648 := by decide
  have zl_2147483647 : (2147483647 : Int64).toInt = 2147483647 := by decide
  refine lv_lload_n hx hb dX5_setSpan_0 rfl (lv_at hl 2 rfl) ?_
  refine lv_ldc2 hx hb hown (hts (.constantLong RX5 131 (-2147483648)) (List.mem_of_getElem? (i := 1) rfl)) dX5_setSpan_1 ?_
  refine W.lcmp hx hb dX5_setSpan_4 ?_
  refine lv_if_lt (tgt := 17) hx hb dX5_setSpan_5 (by decide) (fun c_1 => ?_) (fun c_1 => ?_)
  · -- yes
    have k_1 : loa.toInt < (-2147483648 : Int64).toInt := lc_lt c_1
    refine lv_iconst (v := 1) hx hb dX5_setSpan_17 (by decide) ?_
    refine lv_goto (tgt := 22) hx hb dX5_setSpan_18 (by decide) ?_
    refine lv_istore (lv' := [(6, .int 1), (0, .ref gh), (1, .int xa), (2, .long loa), (4, .long hia)]) hx hb dX5_setSpan_22 hl (by decide) rfl (fun ls1 hl1 => ?_)
    replace hl := hl1; clear hl1
    refine lv_aload_n hx hb dX5_setSpan_24 rfl (lv_at hl 1 rfl) ?_
    refine va_get (D := (dC, dI)) (ci := 5) (v := .ref ga_low) (C := RX5) (T := TX5) (N := 36) hx hb hts inv_X5_setSpan_X5 hown hK hP 0 rfl rfl 9 (by decide) (hts (.fieldLink RX5 35 "ArraySegmentsModel" "low" "[J") (List.mem_of_getElem? (i := 2) rfl)) (fun _ h9 => h9) rfl dX5_setSpan_25 ?_
    refine lv_iload_n hx hb dX5_setSpan_28 rfl (lv_at hl 2 rfl) ?_
    refine lv_iload hx hb dX5_setSpan_29 (lv_at hl 0 rfl) ?_
    refine lv_if_eq (tgt := 40) hx hb dX5_setSpan_31 (by decide) (fun c_2 => ?_) (fun c_2 => ?_)
    · -- yes
      have k_2 : (1 : Int32).toInt = (0 : Int32).toInt := ci_eq c_2
      exfalso; omega
    · -- no
      have k_2 : ¬ (1 : Int32).toInt = (0 : Int32).toInt := ci_ne c_2
      refine lv_ldc2 hx hb hown (hts (.constantLong RX5 131 (-2147483648)) (List.mem_of_getElem? (i := 1) rfl)) dX5_setSpan_34 ?_
      refine lv_goto (tgt := 41) hx hb dX5_setSpan_37 (by decide) ?_
      have ni_5 := nn_cl (z := xa) (by omega)
      refine sf_lastU2 lGE hx hb hK hP hD hS 1 1 rfl rfl h_gc_low (show lGE ((-2147483648) : Int64) from by omega) (vp_in_iff.mpr ⟨by omega, by omega⟩) dX5_setSpan_41 (fun f_3 h_f_3 u_f_3 H_4 locs_4 hP1 hD1 hS1 => ?_)
      replace hP : va_P (dC, dI) vwCl [(gh, .inr (5, [.int g_acts, g_kind, g_na, g_nb, g_nc, g_nd, g_ne, g_dropped, g_live, .ref ga_low, .ref ga_high, g_sites, g_nulls, g_there, g_lanes, g_least, g_most, g_placeLow, g_placeHigh, g_reached, g_mayThrow, .int g_status, .int g_hasRun, .int g_threw, .int g_whereThrown, g_value, g_means, g_laneOf, g_sizeOf, g_cells, g_copied, .long g_state, .long g_joinedLow, .long g_joinedHigh, g_keptLow, g_keptHigh])), (ga_low, .inl (cJ, 12, .inr (.inl f_3))), (ga_high, .inl (cJ, 12, .inr (.inl gc_high)))] H_4 := hP1
      replace hD : va_D A [(gh, .inr (5, [.int g_acts, g_kind, g_na, g_nb, g_nc, g_nd, g_ne, g_dropped, g_live, .ref ga_low, .ref ga_high, g_sites, g_nulls, g_there, g_lanes, g_least, g_most, g_placeLow, g_placeHigh, g_reached, g_mayThrow, .int g_status, .int g_hasRun, .int g_threw, .int g_whereThrown, g_value, g_means, g_laneOf, g_sizeOf, g_cells, g_copied, .long g_state, .long g_joinedLow, .long g_joinedHigh, g_keptLow, g_keptHigh])), (ga_low, .inl (cJ, 12, .inr (.inl f_3))), (ga_high, .inl (cJ, 12, .inr (.inl gc_high)))] := hD1
      replace hS := hS1
      clear hP1 hD1 hS1
      have w_f_3 : ∀ j : Nat, (j = (xa).toNatClampNeg → (f_3 j).toInt = (-2147483648 : Int64).toInt) ∧ (¬ j = (xa).toNatClampNeg → (f_3 j).toInt = (gc_low j).toInt) := fun j => ⟨fun h => by rw [(u_f_3 j).1 h], fun h => by rw [(u_f_3 j).2 h]⟩
      refine lv_aload_n hx hb dX5_setSpan_42 rfl (lv_at hl 1 rfl) ?_
      refine va_get (D := (dC, dI)) (ci := 5) (v := .ref ga_high) (C := RX5) (T := TX5) (N := 36) hx hb hts inv_X5_setSpan_X5 hown hK hP 0 rfl rfl 10 (by decide) (hts (.fieldLink RX5 39 "ArraySegmentsModel" "high" "[J") (List.mem_of_getElem? (i := 3) rfl)) (fun _ h9 => h9) rfl dX5_setSpan_43 ?_
      refine lv_iload_n hx hb dX5_setSpan_46 rfl (lv_at hl 2 rfl) ?_
      refine lv_iload hx hb dX5_setSpan_47 (lv_at hl 0 rfl) ?_
      refine lv_if_eq (tgt := 58) hx hb dX5_setSpan_49 (by decide) (fun c_6 => ?_) (fun c_6 => ?_)
      · -- yes
        have k_6 : (1 : Int32).toInt = (0 : Int32).toInt := ci_eq c_6
        exfalso; omega
      · -- no
        have k_6 : ¬ (1 : Int32).toInt = (0 : Int32).toInt := ci_ne c_6
        refine lv_ldc2 hx hb hown (hts (.constantLong RX5 137 (2147483647)) (List.mem_of_getElem? (i := 4) rfl)) dX5_setSpan_52 ?_
        refine lv_goto (tgt := 60) hx hb dX5_setSpan_55 (by decide) ?_
        have ni_9 := nn_cl (z := xa) (by omega)
        refine sf_lastU2 lLE hx hb hK hP hD hS 2 1 rfl rfl h_gc_high (show lLE (2147483647 : Int64) from by omega) (vp_in_iff.mpr ⟨by omega, by omega⟩) dX5_setSpan_60 (fun f_7 h_f_7 u_f_7 H_8 locs_8 hP1 hD1 hS1 => ?_)
        replace hP : va_P (dC, dI) vwCl [(gh, .inr (5, [.int g_acts, g_kind, g_na, g_nb, g_nc, g_nd, g_ne, g_dropped, g_live, .ref ga_low, .ref ga_high, g_sites, g_nulls, g_there, g_lanes, g_least, g_most, g_placeLow, g_placeHigh, g_reached, g_mayThrow, .int g_status, .int g_hasRun, .int g_threw, .int g_whereThrown, g_value, g_means, g_laneOf, g_sizeOf, g_cells, g_copied, .long g_state, .long g_joinedLow, .long g_joinedHigh, g_keptLow, g_keptHigh])), (ga_low, .inl (cJ, 12, .inr (.inl f_3))), (ga_high, .inl (cJ, 12, .inr (.inl f_7)))] H_8 := hP1
        replace hD : va_D A [(gh, .inr (5, [.int g_acts, g_kind, g_na, g_nb, g_nc, g_nd, g_ne, g_dropped, g_live, .ref ga_low, .ref ga_high, g_sites, g_nulls, g_there, g_lanes, g_least, g_most, g_placeLow, g_placeHigh, g_reached, g_mayThrow, .int g_status, .int g_hasRun, .int g_threw, .int g_whereThrown, g_value, g_means, g_laneOf, g_sizeOf, g_cells, g_copied, .long g_state, .long g_joinedLow, .long g_joinedHigh, g_keptLow, g_keptHigh])), (ga_low, .inl (cJ, 12, .inr (.inl f_3))), (ga_high, .inl (cJ, 12, .inr (.inl f_7)))] := hD1
        replace hS := hS1
        clear hP1 hD1 hS1
        have w_f_7 : ∀ j : Nat, (j = (xa).toNatClampNeg → (f_7 j).toInt = (2147483647 : Int64).toInt) ∧ (¬ j = (xa).toNatClampNeg → (f_7 j).toInt = (gc_high j).toInt) := fun j => ⟨fun h => by rw [(u_f_7 j).1 h], fun h => by rw [(u_f_7 j).2 h]⟩
        have hP9 := hP.sub (ws' := [(gh, .inr (5, [.int g_acts, g_kind, g_na, g_nb, g_nc, g_nd, g_ne, g_dropped, g_live, .ref ga_low, .ref ga_high, g_sites, g_nulls, g_there, g_lanes, g_least, g_most, g_placeLow, g_placeHigh, g_reached, g_mayThrow, .int g_status, .int g_hasRun, .int g_threw, .int g_whereThrown, g_value, g_means, g_laneOf, g_sizeOf, g_cells, g_copied, .long g_state, .long g_joinedLow, .long g_joinedHigh, g_keptLow, g_keptHigh])), (ga_low, .inl (cJ, 12, .inr (.inl f_3))), (ga_high, .inl (cJ, 12, .inr (.inl f_7)))]) [0, 1, 2] rfl
        have hD9 := hD.sub (ws' := [(gh, .inr (5, [.int g_acts, g_kind, g_na, g_nb, g_nc, g_nd, g_ne, g_dropped, g_live, .ref ga_low, .ref ga_high, g_sites, g_nulls, g_there, g_lanes, g_least, g_most, g_placeLow, g_placeHigh, g_reached, g_mayThrow, .int g_status, .int g_hasRun, .int g_threw, .int g_whereThrown, g_value, g_means, g_laneOf, g_sizeOf, g_cells, g_copied, .long g_state, .long g_joinedLow, .long g_joinedHigh, g_keptLow, g_keptHigh])), (ga_low, .inl (cJ, 12, .inr (.inl f_3))), (ga_high, .inl (cJ, 12, .inr (.inl f_7)))]) [0, 1, 2] (by decide) rfl
        exact W.vret hx hb hr (fun t ht hW => ⟨⟨(f_3, f_7), rfl, ⟨(show ∀ j : Nat, lGE (f_3 j) from h_f_3), (show ∀ j : Nat, lLE (f_7 j) from h_f_7), (show (-2147483648 ≤ loa.toInt ∧ hia.toInt ≤ 2147483647 ∧ upZ (fun j => (gc_low j).toInt) (xa).toNatClampNeg loa.toInt (fun j => (f_3 j).toInt) ∧ upZ (fun j => (gc_high j).toInt) (xa).toNatClampNeg hia.toInt (fun j => (f_7 j).toInt)) ∨ (upZ (fun j => (gc_low j).toInt) (xa).toNatClampNeg (-2147483648) (fun j => (f_3 j).toInt) ∧ upZ (fun j => (gc_high j).toInt) (xa).toNatClampNeg 2147483647 (fun j => (f_7 j).toInt)) from (Or.inr ⟨fun j => ⟨fun h => by dsimp only; rw [(w_f_3 j).1 h]; decide, (w_f_3 j).2⟩, fun j => ⟨fun h => by dsimp only; rw [(w_f_7 j).1 h]; decide, (w_f_7 j).2⟩⟩)), (show ∀ j : Nat, ¬ j = (xa).toNatClampNeg → (f_3 j).toInt = (gc_low j).toInt ∧ (f_7 j).toInt = (gc_high j).toInt from (fun j hj => ⟨(w_f_3 j).2 hj, (w_f_7 j).2 hj⟩))⟩, by rw [ht]; exact hP9, va_K.moved hW.alike hK, hD9⟩, hS.F ht⟩) hS.2.2 dX5_setSpan_61
  · -- no
    have k_1 : (-2147483648 : Int64).toInt ≤ loa.toInt := lc_nlt c_1
    refine lv_lload hx hb dX5_setSpan_8 (lv_at hl 3 rfl) ?_
    refine lv_ldc2 hx hb hown (hts (.constantLong RX5 137 (2147483647)) (List.mem_of_getElem? (i := 4) rfl)) dX5_setSpan_10 ?_
    refine W.lcmp hx hb dX5_setSpan_13 ?_
    refine lv_if_le (tgt := 21) hx hb dX5_setSpan_14 (by decide) (fun c_10 => ?_) (fun c_10 => ?_)
    · -- yes
      have k_10 : hia.toInt ≤ (2147483647 : Int64).toInt := lc_le c_10
      refine lv_iconst (v := 0) hx hb dX5_setSpan_21 (by decide) ?_
      refine lv_istore (lv' := [(6, .int 0), (0, .ref gh), (1, .int xa), (2, .long loa), (4, .long hia)]) hx hb dX5_setSpan_22 hl (by decide) rfl (fun ls1 hl1 => ?_)
      replace hl := hl1; clear hl1
      refine lv_aload_n hx hb dX5_setSpan_24 rfl (lv_at hl 1 rfl) ?_
      refine va_get (D := (dC, dI)) (ci := 5) (v := .ref ga_low) (C := RX5) (T := TX5) (N := 36) hx hb hts inv_X5_setSpan_X5 hown hK hP 0 rfl rfl 9 (by decide) (hts (.fieldLink RX5 35 "ArraySegmentsModel" "low" "[J") (List.mem_of_getElem? (i := 2) rfl)) (fun _ h9 => h9) rfl dX5_setSpan_25 ?_
      refine lv_iload_n hx hb dX5_setSpan_28 rfl (lv_at hl 2 rfl) ?_
      refine lv_iload hx hb dX5_setSpan_29 (lv_at hl 0 rfl) ?_
      refine lv_if_eq (tgt := 40) hx hb dX5_setSpan_31 (by decide) (fun c_11 => ?_) (fun c_11 => ?_)
      · -- yes
        have k_11 : (0 : Int32).toInt = (0 : Int32).toInt := ci_eq c_11
        refine lv_lload_n hx hb dX5_setSpan_40 rfl (lv_at hl 3 rfl) ?_
        have ni_14 := nn_cl (z := xa) (by omega)
        refine sf_lastU2 lGE hx hb hK hP hD hS 1 1 rfl rfl h_gc_low (show lGE loa from by omega) (vp_in_iff.mpr ⟨by omega, by omega⟩) dX5_setSpan_41 (fun f_12 h_f_12 u_f_12 H_13 locs_13 hP1 hD1 hS1 => ?_)
        replace hP : va_P (dC, dI) vwCl [(gh, .inr (5, [.int g_acts, g_kind, g_na, g_nb, g_nc, g_nd, g_ne, g_dropped, g_live, .ref ga_low, .ref ga_high, g_sites, g_nulls, g_there, g_lanes, g_least, g_most, g_placeLow, g_placeHigh, g_reached, g_mayThrow, .int g_status, .int g_hasRun, .int g_threw, .int g_whereThrown, g_value, g_means, g_laneOf, g_sizeOf, g_cells, g_copied, .long g_state, .long g_joinedLow, .long g_joinedHigh, g_keptLow, g_keptHigh])), (ga_low, .inl (cJ, 12, .inr (.inl f_12))), (ga_high, .inl (cJ, 12, .inr (.inl gc_high)))] H_13 := hP1
        replace hD : va_D A [(gh, .inr (5, [.int g_acts, g_kind, g_na, g_nb, g_nc, g_nd, g_ne, g_dropped, g_live, .ref ga_low, .ref ga_high, g_sites, g_nulls, g_there, g_lanes, g_least, g_most, g_placeLow, g_placeHigh, g_reached, g_mayThrow, .int g_status, .int g_hasRun, .int g_threw, .int g_whereThrown, g_value, g_means, g_laneOf, g_sizeOf, g_cells, g_copied, .long g_state, .long g_joinedLow, .long g_joinedHigh, g_keptLow, g_keptHigh])), (ga_low, .inl (cJ, 12, .inr (.inl f_12))), (ga_high, .inl (cJ, 12, .inr (.inl gc_high)))] := hD1
        replace hS := hS1
        clear hP1 hD1 hS1
        have w_f_12 : ∀ j : Nat, (j = (xa).toNatClampNeg → (f_12 j).toInt = loa.toInt) ∧ (¬ j = (xa).toNatClampNeg → (f_12 j).toInt = (gc_low j).toInt) := fun j => ⟨fun h => by rw [(u_f_12 j).1 h], fun h => by rw [(u_f_12 j).2 h]⟩
        refine lv_aload_n hx hb dX5_setSpan_42 rfl (lv_at hl 1 rfl) ?_
        refine va_get (D := (dC, dI)) (ci := 5) (v := .ref ga_high) (C := RX5) (T := TX5) (N := 36) hx hb hts inv_X5_setSpan_X5 hown hK hP 0 rfl rfl 10 (by decide) (hts (.fieldLink RX5 39 "ArraySegmentsModel" "high" "[J") (List.mem_of_getElem? (i := 3) rfl)) (fun _ h9 => h9) rfl dX5_setSpan_43 ?_
        refine lv_iload_n hx hb dX5_setSpan_46 rfl (lv_at hl 2 rfl) ?_
        refine lv_iload hx hb dX5_setSpan_47 (lv_at hl 0 rfl) ?_
        refine lv_if_eq (tgt := 58) hx hb dX5_setSpan_49 (by decide) (fun c_15 => ?_) (fun c_15 => ?_)
        · -- yes
          have k_15 : (0 : Int32).toInt = (0 : Int32).toInt := ci_eq c_15
          refine lv_lload hx hb dX5_setSpan_58 (lv_at hl 4 rfl) ?_
          have ni_18 := nn_cl (z := xa) (by omega)
          refine sf_lastU2 lLE hx hb hK hP hD hS 2 1 rfl rfl h_gc_high (show lLE hia from by omega) (vp_in_iff.mpr ⟨by omega, by omega⟩) dX5_setSpan_60 (fun f_16 h_f_16 u_f_16 H_17 locs_17 hP1 hD1 hS1 => ?_)
          replace hP : va_P (dC, dI) vwCl [(gh, .inr (5, [.int g_acts, g_kind, g_na, g_nb, g_nc, g_nd, g_ne, g_dropped, g_live, .ref ga_low, .ref ga_high, g_sites, g_nulls, g_there, g_lanes, g_least, g_most, g_placeLow, g_placeHigh, g_reached, g_mayThrow, .int g_status, .int g_hasRun, .int g_threw, .int g_whereThrown, g_value, g_means, g_laneOf, g_sizeOf, g_cells, g_copied, .long g_state, .long g_joinedLow, .long g_joinedHigh, g_keptLow, g_keptHigh])), (ga_low, .inl (cJ, 12, .inr (.inl f_12))), (ga_high, .inl (cJ, 12, .inr (.inl f_16)))] H_17 := hP1
          replace hD : va_D A [(gh, .inr (5, [.int g_acts, g_kind, g_na, g_nb, g_nc, g_nd, g_ne, g_dropped, g_live, .ref ga_low, .ref ga_high, g_sites, g_nulls, g_there, g_lanes, g_least, g_most, g_placeLow, g_placeHigh, g_reached, g_mayThrow, .int g_status, .int g_hasRun, .int g_threw, .int g_whereThrown, g_value, g_means, g_laneOf, g_sizeOf, g_cells, g_copied, .long g_state, .long g_joinedLow, .long g_joinedHigh, g_keptLow, g_keptHigh])), (ga_low, .inl (cJ, 12, .inr (.inl f_12))), (ga_high, .inl (cJ, 12, .inr (.inl f_16)))] := hD1
          replace hS := hS1
          clear hP1 hD1 hS1
          have w_f_16 : ∀ j : Nat, (j = (xa).toNatClampNeg → (f_16 j).toInt = hia.toInt) ∧ (¬ j = (xa).toNatClampNeg → (f_16 j).toInt = (gc_high j).toInt) := fun j => ⟨fun h => by rw [(u_f_16 j).1 h], fun h => by rw [(u_f_16 j).2 h]⟩
          have hP9 := hP.sub (ws' := [(gh, .inr (5, [.int g_acts, g_kind, g_na, g_nb, g_nc, g_nd, g_ne, g_dropped, g_live, .ref ga_low, .ref ga_high, g_sites, g_nulls, g_there, g_lanes, g_least, g_most, g_placeLow, g_placeHigh, g_reached, g_mayThrow, .int g_status, .int g_hasRun, .int g_threw, .int g_whereThrown, g_value, g_means, g_laneOf, g_sizeOf, g_cells, g_copied, .long g_state, .long g_joinedLow, .long g_joinedHigh, g_keptLow, g_keptHigh])), (ga_low, .inl (cJ, 12, .inr (.inl f_12))), (ga_high, .inl (cJ, 12, .inr (.inl f_16)))]) [0, 1, 2] rfl
          have hD9 := hD.sub (ws' := [(gh, .inr (5, [.int g_acts, g_kind, g_na, g_nb, g_nc, g_nd, g_ne, g_dropped, g_live, .ref ga_low, .ref ga_high, g_sites, g_nulls, g_there, g_lanes, g_least, g_most, g_placeLow, g_placeHigh, g_reached, g_mayThrow, .int g_status, .int g_hasRun, .int g_threw, .int g_whereThrown, g_value, g_means, g_laneOf, g_sizeOf, g_cells, g_copied, .long g_state, .long g_joinedLow, .long g_joinedHigh, g_keptLow, g_keptHigh])), (ga_low, .inl (cJ, 12, .inr (.inl f_12))), (ga_high, .inl (cJ, 12, .inr (.inl f_16)))]) [0, 1, 2] (by decide) rfl
          exact W.vret hx hb hr (fun t ht hW => ⟨⟨(f_12, f_16), rfl, ⟨(show ∀ j : Nat, lGE (f_12 j) from h_f_12), (show ∀ j : Nat, lLE (f_16 j) from h_f_16), (show (-2147483648 ≤ loa.toInt ∧ hia.toInt ≤ 2147483647 ∧ upZ (fun j => (gc_low j).toInt) (xa).toNatClampNeg loa.toInt (fun j => (f_12 j).toInt) ∧ upZ (fun j => (gc_high j).toInt) (xa).toNatClampNeg hia.toInt (fun j => (f_16 j).toInt)) ∨ (upZ (fun j => (gc_low j).toInt) (xa).toNatClampNeg (-2147483648) (fun j => (f_12 j).toInt) ∧ upZ (fun j => (gc_high j).toInt) (xa).toNatClampNeg 2147483647 (fun j => (f_16 j).toInt)) from (Or.inl ⟨by omega, by omega, w_f_12, w_f_16⟩)), (show ∀ j : Nat, ¬ j = (xa).toNatClampNeg → (f_12 j).toInt = (gc_low j).toInt ∧ (f_16 j).toInt = (gc_high j).toInt from (fun j hj => ⟨(w_f_12 j).2 hj, (w_f_16 j).2 hj⟩))⟩, by rw [ht]; exact hP9, va_K.moved hW.alike hK, hD9⟩, hS.F ht⟩) hS.2.2 dX5_setSpan_61
        · -- no
          have k_15 : ¬ (0 : Int32).toInt = (0 : Int32).toInt := ci_ne c_15
          exfalso; omega
      · -- no
        have k_11 : ¬ (0 : Int32).toInt = (0 : Int32).toInt := ci_ne c_11
        exfalso; omega
    · -- no
      have k_10 : (2147483647 : Int64).toInt < hia.toInt := lc_nle c_10
      refine lv_iconst (v := 1) hx hb dX5_setSpan_17 (by decide) ?_
      refine lv_goto (tgt := 22) hx hb dX5_setSpan_18 (by decide) ?_
      refine lv_istore (lv' := [(6, .int 1), (0, .ref gh), (1, .int xa), (2, .long loa), (4, .long hia)]) hx hb dX5_setSpan_22 hl (by decide) rfl (fun ls1 hl1 => ?_)
      replace hl := hl1; clear hl1
      refine lv_aload_n hx hb dX5_setSpan_24 rfl (lv_at hl 1 rfl) ?_
      refine va_get (D := (dC, dI)) (ci := 5) (v := .ref ga_low) (C := RX5) (T := TX5) (N := 36) hx hb hts inv_X5_setSpan_X5 hown hK hP 0 rfl rfl 9 (by decide) (hts (.fieldLink RX5 35 "ArraySegmentsModel" "low" "[J") (List.mem_of_getElem? (i := 2) rfl)) (fun _ h9 => h9) rfl dX5_setSpan_25 ?_
      refine lv_iload_n hx hb dX5_setSpan_28 rfl (lv_at hl 2 rfl) ?_
      refine lv_iload hx hb dX5_setSpan_29 (lv_at hl 0 rfl) ?_
      refine lv_if_eq (tgt := 40) hx hb dX5_setSpan_31 (by decide) (fun c_19 => ?_) (fun c_19 => ?_)
      · -- yes
        have k_19 : (1 : Int32).toInt = (0 : Int32).toInt := ci_eq c_19
        exfalso; omega
      · -- no
        have k_19 : ¬ (1 : Int32).toInt = (0 : Int32).toInt := ci_ne c_19
        refine lv_ldc2 hx hb hown (hts (.constantLong RX5 131 (-2147483648)) (List.mem_of_getElem? (i := 1) rfl)) dX5_setSpan_34 ?_
        refine lv_goto (tgt := 41) hx hb dX5_setSpan_37 (by decide) ?_
        have ni_22 := nn_cl (z := xa) (by omega)
        refine sf_lastU2 lGE hx hb hK hP hD hS 1 1 rfl rfl h_gc_low (show lGE ((-2147483648) : Int64) from by omega) (vp_in_iff.mpr ⟨by omega, by omega⟩) dX5_setSpan_41 (fun f_20 h_f_20 u_f_20 H_21 locs_21 hP1 hD1 hS1 => ?_)
        replace hP : va_P (dC, dI) vwCl [(gh, .inr (5, [.int g_acts, g_kind, g_na, g_nb, g_nc, g_nd, g_ne, g_dropped, g_live, .ref ga_low, .ref ga_high, g_sites, g_nulls, g_there, g_lanes, g_least, g_most, g_placeLow, g_placeHigh, g_reached, g_mayThrow, .int g_status, .int g_hasRun, .int g_threw, .int g_whereThrown, g_value, g_means, g_laneOf, g_sizeOf, g_cells, g_copied, .long g_state, .long g_joinedLow, .long g_joinedHigh, g_keptLow, g_keptHigh])), (ga_low, .inl (cJ, 12, .inr (.inl f_20))), (ga_high, .inl (cJ, 12, .inr (.inl gc_high)))] H_21 := hP1
        replace hD : va_D A [(gh, .inr (5, [.int g_acts, g_kind, g_na, g_nb, g_nc, g_nd, g_ne, g_dropped, g_live, .ref ga_low, .ref ga_high, g_sites, g_nulls, g_there, g_lanes, g_least, g_most, g_placeLow, g_placeHigh, g_reached, g_mayThrow, .int g_status, .int g_hasRun, .int g_threw, .int g_whereThrown, g_value, g_means, g_laneOf, g_sizeOf, g_cells, g_copied, .long g_state, .long g_joinedLow, .long g_joinedHigh, g_keptLow, g_keptHigh])), (ga_low, .inl (cJ, 12, .inr (.inl f_20))), (ga_high, .inl (cJ, 12, .inr (.inl gc_high)))] := hD1
        replace hS := hS1
        clear hP1 hD1 hS1
        have w_f_20 : ∀ j : Nat, (j = (xa).toNatClampNeg → (f_20 j).toInt = (-2147483648 : Int64).toInt) ∧ (¬ j = (xa).toNatClampNeg → (f_20 j).toInt = (gc_low j).toInt) := fun j => ⟨fun h => by rw [(u_f_20 j).1 h], fun h => by rw [(u_f_20 j).2 h]⟩
        refine lv_aload_n hx hb dX5_setSpan_42 rfl (lv_at hl 1 rfl) ?_
        refine va_get (D := (dC, dI)) (ci := 5) (v := .ref ga_high) (C := RX5) (T := TX5) (N := 36) hx hb hts inv_X5_setSpan_X5 hown hK hP 0 rfl rfl 10 (by decide) (hts (.fieldLink RX5 39 "ArraySegmentsModel" "high" "[J") (List.mem_of_getElem? (i := 3) rfl)) (fun _ h9 => h9) rfl dX5_setSpan_43 ?_
        refine lv_iload_n hx hb dX5_setSpan_46 rfl (lv_at hl 2 rfl) ?_
        refine lv_iload hx hb dX5_setSpan_47 (lv_at hl 0 rfl) ?_
        refine lv_if_eq (tgt := 58) hx hb dX5_setSpan_49 (by decide) (fun c_23 => ?_) (fun c_23 => ?_)
        · -- yes
          have k_23 : (1 : Int32).toInt = (0 : Int32).toInt := ci_eq c_23
          exfalso; omega
        · -- no
          have k_23 : ¬ (1 : Int32).toInt = (0 : Int32).toInt := ci_ne c_23
          refine lv_ldc2 hx hb hown (hts (.constantLong RX5 137 (2147483647)) (List.mem_of_getElem? (i := 4) rfl)) dX5_setSpan_52 ?_
          refine lv_goto (tgt := 60) hx hb dX5_setSpan_55 (by decide) ?_
          have ni_26 := nn_cl (z := xa) (by omega)
          refine sf_lastU2 lLE hx hb hK hP hD hS 2 1 rfl rfl h_gc_high (show lLE (2147483647 : Int64) from by omega) (vp_in_iff.mpr ⟨by omega, by omega⟩) dX5_setSpan_60 (fun f_24 h_f_24 u_f_24 H_25 locs_25 hP1 hD1 hS1 => ?_)
          replace hP : va_P (dC, dI) vwCl [(gh, .inr (5, [.int g_acts, g_kind, g_na, g_nb, g_nc, g_nd, g_ne, g_dropped, g_live, .ref ga_low, .ref ga_high, g_sites, g_nulls, g_there, g_lanes, g_least, g_most, g_placeLow, g_placeHigh, g_reached, g_mayThrow, .int g_status, .int g_hasRun, .int g_threw, .int g_whereThrown, g_value, g_means, g_laneOf, g_sizeOf, g_cells, g_copied, .long g_state, .long g_joinedLow, .long g_joinedHigh, g_keptLow, g_keptHigh])), (ga_low, .inl (cJ, 12, .inr (.inl f_20))), (ga_high, .inl (cJ, 12, .inr (.inl f_24)))] H_25 := hP1
          replace hD : va_D A [(gh, .inr (5, [.int g_acts, g_kind, g_na, g_nb, g_nc, g_nd, g_ne, g_dropped, g_live, .ref ga_low, .ref ga_high, g_sites, g_nulls, g_there, g_lanes, g_least, g_most, g_placeLow, g_placeHigh, g_reached, g_mayThrow, .int g_status, .int g_hasRun, .int g_threw, .int g_whereThrown, g_value, g_means, g_laneOf, g_sizeOf, g_cells, g_copied, .long g_state, .long g_joinedLow, .long g_joinedHigh, g_keptLow, g_keptHigh])), (ga_low, .inl (cJ, 12, .inr (.inl f_20))), (ga_high, .inl (cJ, 12, .inr (.inl f_24)))] := hD1
          replace hS := hS1
          clear hP1 hD1 hS1
          have w_f_24 : ∀ j : Nat, (j = (xa).toNatClampNeg → (f_24 j).toInt = (2147483647 : Int64).toInt) ∧ (¬ j = (xa).toNatClampNeg → (f_24 j).toInt = (gc_high j).toInt) := fun j => ⟨fun h => by rw [(u_f_24 j).1 h], fun h => by rw [(u_f_24 j).2 h]⟩
          have hP9 := hP.sub (ws' := [(gh, .inr (5, [.int g_acts, g_kind, g_na, g_nb, g_nc, g_nd, g_ne, g_dropped, g_live, .ref ga_low, .ref ga_high, g_sites, g_nulls, g_there, g_lanes, g_least, g_most, g_placeLow, g_placeHigh, g_reached, g_mayThrow, .int g_status, .int g_hasRun, .int g_threw, .int g_whereThrown, g_value, g_means, g_laneOf, g_sizeOf, g_cells, g_copied, .long g_state, .long g_joinedLow, .long g_joinedHigh, g_keptLow, g_keptHigh])), (ga_low, .inl (cJ, 12, .inr (.inl f_20))), (ga_high, .inl (cJ, 12, .inr (.inl f_24)))]) [0, 1, 2] rfl
          have hD9 := hD.sub (ws' := [(gh, .inr (5, [.int g_acts, g_kind, g_na, g_nb, g_nc, g_nd, g_ne, g_dropped, g_live, .ref ga_low, .ref ga_high, g_sites, g_nulls, g_there, g_lanes, g_least, g_most, g_placeLow, g_placeHigh, g_reached, g_mayThrow, .int g_status, .int g_hasRun, .int g_threw, .int g_whereThrown, g_value, g_means, g_laneOf, g_sizeOf, g_cells, g_copied, .long g_state, .long g_joinedLow, .long g_joinedHigh, g_keptLow, g_keptHigh])), (ga_low, .inl (cJ, 12, .inr (.inl f_20))), (ga_high, .inl (cJ, 12, .inr (.inl f_24)))]) [0, 1, 2] (by decide) rfl
          exact W.vret hx hb hr (fun t ht hW => ⟨⟨(f_20, f_24), rfl, ⟨(show ∀ j : Nat, lGE (f_20 j) from h_f_20), (show ∀ j : Nat, lLE (f_24 j) from h_f_24), (show (-2147483648 ≤ loa.toInt ∧ hia.toInt ≤ 2147483647 ∧ upZ (fun j => (gc_low j).toInt) (xa).toNatClampNeg loa.toInt (fun j => (f_20 j).toInt) ∧ upZ (fun j => (gc_high j).toInt) (xa).toNatClampNeg hia.toInt (fun j => (f_24 j).toInt)) ∨ (upZ (fun j => (gc_low j).toInt) (xa).toNatClampNeg (-2147483648) (fun j => (f_20 j).toInt) ∧ upZ (fun j => (gc_high j).toInt) (xa).toNatClampNeg 2147483647 (fun j => (f_24 j).toInt)) from (Or.inr ⟨fun j => ⟨fun h => by dsimp only; rw [(w_f_20 j).1 h]; decide, (w_f_20 j).2⟩, fun j => ⟨fun h => by dsimp only; rw [(w_f_24 j).1 h]; decide, (w_f_24 j).2⟩⟩)), (show ∀ j : Nat, ¬ j = (xa).toNatClampNeg → (f_20 j).toInt = (gc_low j).toInt ∧ (f_24 j).toInt = (gc_high j).toInt from (fun j hj => ⟨(w_f_20 j).2 hj, (w_f_24 j).2 hj⟩))⟩, by rw [ht]; exact hP9, va_K.moved hW.alike hK, hD9⟩, hS.F ht⟩) hS.2.2 dX5_setSpan_61
