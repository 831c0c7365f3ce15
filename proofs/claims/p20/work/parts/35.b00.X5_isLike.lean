def v_X5_isLike : List Cond := .code yX5_isLike cX5_isLike 4 (some .boolean) :: ([.fieldLink RX5 60 "ArraySegmentsModel" "placeLow" "[J", .fieldLink RX5 63 "ArraySegmentsModel" "placeHigh" "[J"] ++ (wsX50))
theorem inv_X5_isLike_X5 : ∀ w ∈ wsX50, w ∈ v_X5_isLike := fun _ h => List.mem_cons_of_mem _ (List.mem_append_right _ (h))
set_option maxRecDepth 20000 in
theorem gd_X5_isLike : gdL v_X5_isLike := gdC (gdW (by decide +kernel)) (gdA (gdW (by decide +kernel)) gd_wsX50)
abbrev sw_X5_isLike (cI cJ cZ : ClassId) (gh : Nat) (g_acts : Int32) (g_kind : Value) (g_na : Value) (g_nb : Value) (g_nc : Value) (g_nd : Value) (g_ne : Value) (g_dropped : Value) (g_live : Value) (g_low : Value) (g_high : Value) (g_sites : Value) (g_nulls : Value) (g_there : Value) (g_lanes : Value) (g_least : Value) (g_most : Value) (ga_placeLow : Nat) (ga_placeHigh : Nat) (g_reached : Value) (g_mayThrow : Value) (g_status : Int32) (g_hasRun : Int32) (g_threw : Int32) (g_whereThrown : Int32) (g_value : Value) (g_means : Value) (g_laneOf : Value) (g_sizeOf : Value) (g_cells : Value) (g_copied : Value) (g_state : Int64) (g_joinedLow : Int64) (g_joinedHigh : Int64) (g_keptLow : Value) (g_keptHigh : Value) (gc_placeLow : Nat → Int64) (gc_placeHigh : Nat → Int64) (ia : Int32) (pa : Int32) : va_W := [(gh, .inr (5, [.int g_acts, g_kind, g_na, g_nb, g_nc, g_nd, g_ne, g_dropped, g_live, g_low, g_high, g_sites, g_nulls, g_there, g_lanes, g_least, g_most, .ref ga_placeLow, .ref ga_placeHigh, g_reached, g_mayThrow, .int g_status, .int g_hasRun, .int g_threw, .int g_whereThrown, g_value, g_means, g_laneOf, g_sizeOf, g_cells, g_copied, .long g_state, .long g_joinedLow, .long g_joinedHigh, g_keptLow, g_keptHigh])), (ga_placeLow, .inl (cJ, 960, .inr (.inl gc_placeLow))), (ga_placeHigh, .inl (cJ, 960, .inr (.inl gc_placeHigh)))]
set_option maxHeartbeats 8000000 in
set_option maxRecDepth 100000 in
theorem s_X5_isLike (l : Launch) (dC : Nat → ClassId) (dI : Nat → Nat → Nat) (cI cJ cZ : ClassId) (gh : Nat) (g_acts : Int32) (g_kind : Value) (g_na : Value) (g_nb : Value) (g_nc : Value) (g_nd : Value) (g_ne : Value) (g_dropped : Value) (g_live : Value) (g_low : Value) (g_high : Value) (g_sites : Value) (g_nulls : Value) (g_there : Value) (g_lanes : Value) (g_least : Value) (g_most : Value) (ga_placeLow : Nat) (ga_placeHigh : Nat) (g_reached : Value) (g_mayThrow : Value) (g_status : Int32) (g_hasRun : Int32) (g_threw : Int32) (g_whereThrown : Int32) (g_value : Value) (g_means : Value) (g_laneOf : Value) (g_sizeOf : Value) (g_cells : Value) (g_copied : Value) (g_state : Int64) (g_joinedLow : Int64) (g_joinedHigh : Int64) (g_keptLow : Value) (g_keptHigh : Value) (gc_placeLow : Nat → Int64) (gc_placeHigh : Nat → Int64) (ia : Int32) (pa : Int32) (sz : Nat) (q_g_hasRun : kZ g_hasRun) (h_gc_placeLow : ∀ j : Nat, lGE (gc_placeLow j)) (h_gc_placeHigh : ∀ j : Nat, lLE (gc_placeHigh j)) (hy_ia : 0 ≤ ia.toInt ∧ ia.toInt ≤ 39) (hy_pa : 1 ≤ pa.toInt ∧ pa.toInt ≤ 400) : Met l yX5_isLike v_X5_isLike ({ frames := 0, cells := 0, slots := 0, locals := 0 }) (va_Pc [.ref gh, .int ia, .int pa] (cPre dC dI cI cJ cZ sz (sw_X5_isLike cI cJ cZ gh g_acts g_kind g_na g_nb g_nc g_nd g_ne g_dropped g_live g_low g_high g_sites g_nulls g_there g_lanes g_least g_most ga_placeLow ga_placeHigh g_reached g_mayThrow g_status g_hasRun g_threw g_whereThrown g_value g_means g_laneOf g_sizeOf g_cells g_copied g_state g_joinedLow g_joinedHigh g_keptLow g_keptHigh gc_placeLow gc_placeHigh ia pa))) (va_Qi (fun (r : Int32) (u : Unit) => (two r (like gc_placeLow gc_placeHigh ia.toInt.toNat pa.toInt.toNat) 1 0)) (fun (u : Unit) => cPost dC dI cI cJ cZ (va_A (sw_X5_isLike cI cJ cZ gh g_acts g_kind g_na g_nb g_nc g_nd g_ne g_dropped g_live g_low g_high g_sites g_nulls g_there g_lanes g_least g_most ga_placeLow ga_placeHigh g_reached g_mayThrow g_status g_hasRun g_threw g_whereThrown g_value g_means g_laneOf g_sizeOf g_cells g_copied g_state g_joinedLow g_joinedHigh g_keptLow g_keptHigh gc_placeLow gc_placeHigh ia pa) sz) [(gh, .inr (5, [.int g_acts, g_kind, g_na, g_nb, g_nc, g_nd, g_ne, g_dropped, g_live, g_low, g_high, g_sites, g_nulls, g_there, g_lanes, g_least, g_most, .ref ga_placeLow, .ref ga_placeHigh, g_reached, g_mayThrow, .int g_status, .int g_hasRun, .int g_threw, .int g_whereThrown, g_value, g_means, g_laneOf, g_sizeOf, g_cells, g_copied, .long g_state, .long g_joinedLow, .long g_joinedHigh, g_keptLow, g_keptHigh])), (ga_placeLow, .inl (cJ, 960, .inr (.inl gc_placeLow))), (ga_placeHigh, .inl (cJ, 960, .inr (.inl gc_placeHigh)))]) (va_A (sw_X5_isLike cI cJ cZ gh g_acts g_kind g_na g_nb g_nc g_nd g_ne g_dropped g_live g_low g_high g_sites g_nulls g_there g_lanes g_least g_most ga_placeLow ga_placeHigh g_reached g_mayThrow g_status g_hasRun g_threw g_whereThrown g_value g_means g_laneOf g_sizeOf g_cells g_copied g_state g_joinedLow g_joinedHigh g_keptLow g_keptHigh gc_placeLow gc_placeHigh ia pa) sz)) 0 0 (va_A (sw_X5_isLike cI cJ cZ gh g_acts g_kind g_na g_nb g_nc g_nd g_ne g_dropped g_live g_low g_high g_sites g_nulls g_there g_lanes g_least g_most ga_placeLow ga_placeHigh g_reached g_mayThrow g_status g_hasRun g_threw g_whereThrown g_value g_means g_laneOf g_sizeOf g_cells g_copied g_state g_joinedLow g_joinedHigh g_keptLow g_keptHigh gc_placeLow gc_placeHigh ia pa) sz) := by
  refine Met.ofW (cc := cX5_isLike) (maxL := 4) (ret := (some .boolean)) (by decide) rfl ?_
  intro p e s m args below meth c s₁ B hml hv
  obtain ⟨rfl, hsz, hP, hK, hD0, hN⟩ := hv
  have hx := B.exec
  have hb := B.bytes
  have hr := B.returns
  have hts := atoms_spec (ws := v_X5_isLike) B.pre
  have hown : s.vm.findClass RX5 = some m.cls := findClass_of_methodNamed B.named
  have hlocks := B.notSynchronized
  subst hsz
  have hD := hD0.self (sz := s.heap.size)
  generalize hAe : va_A (sw_X5_isLike cI cJ cZ gh g_acts g_kind g_na g_nb g_nc g_nd g_ne g_dropped g_live g_low g_high g_sites g_nulls g_there g_lanes g_least g_most ga_placeLow ga_placeHigh g_reached g_mayThrow g_status g_hasRun g_threw g_whereThrown g_value g_means g_laneOf g_sizeOf g_cells g_copied g_state g_joinedLow g_joinedHigh g_keptLow g_keptHigh gc_placeLow gc_placeHigh ia pa) s.heap.size = A at hD ⊢
  have hA : ∀ q : Nat, s.heap.size ≤ q → A q := fun q h => by rw [← hAe]; exact Or.inr h
  clear hAe hD0
  have hS : va_S A s.heap s.heap [] := va_S.rf
  replace hP : va_P (dC, dI) vwCl [(gh, .inr (5, [.int g_acts, g_kind, g_na, g_nb, g_nc, g_nd, g_ne, g_dropped, g_live, g_low, g_high, g_sites, g_nulls, g_there, g_lanes, g_least, g_most, .ref ga_placeLow, .ref ga_placeHigh, g_reached, g_mayThrow, .int g_status, .int g_hasRun, .int g_threw, .int g_whereThrown, g_value, g_means, g_laneOf, g_sizeOf, g_cells, g_copied, .long g_state, .long g_joinedLow, .long g_joinedHigh, g_keptLow, g_keptHigh])), (ga_placeLow, .inl (cJ, 960, .inr (.inl gc_placeLow))), (ga_placeHigh, .inl (cJ, 960, .inr (.inl gc_placeHigh)))] s.heap := hP
  replace hD : va_D A [(gh, .inr (5, [.int g_acts, g_kind, g_na, g_nb, g_nc, g_nd, g_ne, g_dropped, g_live, g_low, g_high, g_sites, g_nulls, g_there, g_lanes, g_least, g_most, .ref ga_placeLow, .ref ga_placeHigh, g_reached, g_mayThrow, .int g_status, .int g_hasRun, .int g_threw, .int g_whereThrown, g_value, g_means, g_laneOf, g_sizeOf, g_cells, g_copied, .long g_state, .long g_joinedLow, .long g_joinedHigh, g_keptLow, g_keptHigh])), (ga_placeLow, .inl (cJ, 960, .inr (.inl gc_placeLow))), (ga_placeHigh, .inl (cJ, 960, .inr (.inl gc_placeHigh)))] := hD
  have hl := lv_entry ([.ref gh, .int ia, .int pa]) (n := 4) (Nat.le_of_ble_eq_true rfl)
  rw [lg_entry_eq]
  generalize (lg_sl ([.ref gh, .int ia, .int pa]) ++ List.replicate (4 - (lg_sl ([.ref gh, .int ia, .int pa])).length) Slot.unset).toArray = ls at hl ⊢
  replace hl : lv_has ls 4 [(0, .ref gh), (1, .int ia), (2, .int pa)] := hl
  have z_0 : (0 : Int32).toInt = 0 := by decide
  have z_1 : (1 : Int32).toInt = 1 := by decide
  refine lv_bipush (v := 12) hx hb dX5_isLike_0 (by decide) ?_
  refine lv_iload_n hx hb dX5_isLike_2 rfl (lv_at hl 1 rfl) ?_
  refine sf_imul (w := 12) (z := ia.toInt) hx hb dX5_isLike_3 (by decide) rfl ⟨by omega, by omega⟩ (fun v_1 q_v_1 => ?_)
  refine lv_iload_n hx hb dX5_isLike_4 rfl (lv_at hl 2 rfl) ?_
  refine sf_iadd hx hb dX5_isLike_5 ⟨by omega, by omega⟩ (fun v_2 q_v_2 => ?_)
  refine lv_istore_n (lv' := [(3, .int v_2), (0, .ref gh), (1, .int ia), (2, .int pa)]) hx hb dX5_isLike_6 rfl hl (by decide) rfl (fun ls1 hl1 => ?_)
  replace hl := hl1; clear hl1
  refine lv_aload_n hx hb dX5_isLike_7 rfl (lv_at hl 1 rfl) ?_
  refine va_get (D := (dC, dI)) (ci := 5) (v := .ref ga_placeLow) (C := RX5) (T := TX5) (N := 36) hx hb hts inv_X5_isLike_X5 hown hK hP 0 rfl rfl 17 (by decide) (hts (.fieldLink RX5 60 "ArraySegmentsModel" "placeLow" "[J") (List.mem_of_getElem? (i := 1) rfl)) (fun _ h9 => h9) rfl dX5_isLike_8 ?_
  refine lv_iload_n hx hb dX5_isLike_11 rfl (lv_at hl 0 rfl) ?_
  refine sf_lald lGE hx hb hK hP 1 1 rfl rfl h_gc_placeLow (vp_in_iff.mpr ⟨by omega, by omega⟩) dX5_isLike_12 (fun v_3 q_v_3 e_v_3 => ?_)
  have et_v_3 : v_3.toInt = (gc_placeLow (v_2).toNatClampNeg).toInt := by rw [e_v_3]
  have ei_v_3 : v_3.toInt = (gc_placeLow (12 * ia.toInt.toNat + pa.toInt.toNat)).toInt := by rw [et_v_3, show (v_2).toNatClampNeg = 12 * ia.toInt.toNat + pa.toInt.toNat from by have h9 := nn_cl (z := v_2) (by omega); omega]
  refine lv_aload_n hx hb dX5_isLike_13 rfl (lv_at hl 1 rfl) ?_
  refine va_get (D := (dC, dI)) (ci := 5) (v := .ref ga_placeLow) (C := RX5) (T := TX5) (N := 36) hx hb hts inv_X5_isLike_X5 hown hK hP 0 rfl rfl 17 (by decide) (hts (.fieldLink RX5 60 "ArraySegmentsModel" "placeLow" "[J") (List.mem_of_getElem? (i := 1) rfl)) (fun _ h9 => h9) rfl dX5_isLike_14 ?_
  refine lv_iload_n hx hb dX5_isLike_17 rfl (lv_at hl 0 rfl) ?_
  refine lv_iconst (v := 1) hx hb dX5_isLike_18 (by decide) ?_
  refine sf_isub hx hb dX5_isLike_19 ⟨by omega, by omega⟩ (fun v_4 q_v_4 => ?_)
  refine sf_lald lGE hx hb hK hP 1 1 rfl rfl h_gc_placeLow (vp_in_iff.mpr ⟨by omega, by omega⟩) dX5_isLike_20 (fun v_5 q_v_5 e_v_5 => ?_)
  have et_v_5 : v_5.toInt = (gc_placeLow (v_4).toNatClampNeg).toInt := by rw [e_v_5]
  have ei_v_5 : v_5.toInt = (gc_placeLow (12 * ia.toInt.toNat + pa.toInt.toNat - 1)).toInt := by rw [et_v_5, show (v_4).toNatClampNeg = 12 * ia.toInt.toNat + pa.toInt.toNat - 1 from by have h9 := nn_cl (z := v_4) (by omega); omega]
  refine W.lcmp hx hb dX5_isLike_21 ?_
  refine lv_if_ne (tgt := 47) hx hb dX5_isLike_22 (by decide) (fun c_6 => ?_) (fun c_6 => ?_)
  · -- yes
    have k_6 : ¬ v_3.toInt = v_5.toInt := lc_ne c_6
    refine lv_iconst (v := 0) hx hb dX5_isLike_47 (by decide) ?_
    have hP9 := hP.sub (ws' := [(gh, .inr (5, [.int g_acts, g_kind, g_na, g_nb, g_nc, g_nd, g_ne, g_dropped, g_live, g_low, g_high, g_sites, g_nulls, g_there, g_lanes, g_least, g_most, .ref ga_placeLow, .ref ga_placeHigh, g_reached, g_mayThrow, .int g_status, .int g_hasRun, .int g_threw, .int g_whereThrown, g_value, g_means, g_laneOf, g_sizeOf, g_cells, g_copied, .long g_state, .long g_joinedLow, .long g_joinedHigh, g_keptLow, g_keptHigh])), (ga_placeLow, .inl (cJ, 960, .inr (.inl gc_placeLow))), (ga_placeHigh, .inl (cJ, 960, .inr (.inl gc_placeHigh)))]) [0, 1, 2] rfl
    have hD9 := hD.sub (ws' := [(gh, .inr (5, [.int g_acts, g_kind, g_na, g_nb, g_nc, g_nd, g_ne, g_dropped, g_live, g_low, g_high, g_sites, g_nulls, g_there, g_lanes, g_least, g_most, .ref ga_placeLow, .ref ga_placeHigh, g_reached, g_mayThrow, .int g_status, .int g_hasRun, .int g_threw, .int g_whereThrown, g_value, g_means, g_laneOf, g_sizeOf, g_cells, g_copied, .long g_state, .long g_joinedLow, .long g_joinedHigh, g_keptLow, g_keptHigh])), (ga_placeLow, .inl (cJ, 960, .inr (.inl gc_placeLow))), (ga_placeHigh, .inl (cJ, 960, .inr (.inl gc_placeHigh)))]) [0, 1, 2] (by decide) rfl
    exact W.zret (v := 0) (ty := .boolean) hx hb hr rfl (fun t ht hW => ⟨⟨0, (), rfl, (show two (0 : Int32) (like gc_placeLow gc_placeHigh ia.toInt.toNat pa.toInt.toNat) 1 0 from (by first | (refine Or.inl ⟨rfl, ?_⟩; omega) | (refine Or.inr ⟨rfl, ?_⟩; omega))), by rw [ht]; exact hP9, va_K.moved hW.alike hK, hD9⟩, hS.F ht⟩) hS.2.2 dX5_isLike_48
  · -- no
    have k_6 : v_3.toInt = v_5.toInt := lc_eq c_6
    refine lv_aload_n hx hb dX5_isLike_25 rfl (lv_at hl 1 rfl) ?_
    refine va_get (D := (dC, dI)) (ci := 5) (v := .ref ga_placeHigh) (C := RX5) (T := TX5) (N := 36) hx hb hts inv_X5_isLike_X5 hown hK hP 0 rfl rfl 18 (by decide) (hts (.fieldLink RX5 63 "ArraySegmentsModel" "placeHigh" "[J") (List.mem_of_getElem? (i := 2) rfl)) (fun _ h9 => h9) rfl dX5_isLike_26 ?_
    refine lv_iload_n hx hb dX5_isLike_29 rfl (lv_at hl 0 rfl) ?_
    refine sf_lald lLE hx hb hK hP 2 1 rfl rfl h_gc_placeHigh (vp_in_iff.mpr ⟨by omega, by omega⟩) dX5_isLike_30 (fun v_7 q_v_7 e_v_7 => ?_)
    have et_v_7 : v_7.toInt = (gc_placeHigh (v_2).toNatClampNeg).toInt := by rw [e_v_7]
    have ei_v_7 : v_7.toInt = (gc_placeHigh (12 * ia.toInt.toNat + pa.toInt.toNat)).toInt := by rw [et_v_7, show (v_2).toNatClampNeg = 12 * ia.toInt.toNat + pa.toInt.toNat from by have h9 := nn_cl (z := v_2) (by omega); omega]
    refine lv_aload_n hx hb dX5_isLike_31 rfl (lv_at hl 1 rfl) ?_
    refine va_get (D := (dC, dI)) (ci := 5) (v := .ref ga_placeHigh) (C := RX5) (T := TX5) (N := 36) hx hb hts inv_X5_isLike_X5 hown hK hP 0 rfl rfl 18 (by decide) (hts (.fieldLink RX5 63 "ArraySegmentsModel" "placeHigh" "[J") (List.mem_of_getElem? (i := 2) rfl)) (fun _ h9 => h9) rfl dX5_isLike_32 ?_
    refine lv_iload_n hx hb dX5_isLike_35 rfl (lv_at hl 0 rfl) ?_
    refine lv_iconst (v := 1) hx hb dX5_isLike_36 (by decide) ?_
    refine sf_isub hx hb dX5_isLike_37 ⟨by omega, by omega⟩ (fun v_8 q_v_8 => ?_)
    refine sf_lald lLE hx hb hK hP 2 1 rfl rfl h_gc_placeHigh (vp_in_iff.mpr ⟨by omega, by omega⟩) dX5_isLike_38 (fun v_9 q_v_9 e_v_9 => ?_)
    have et_v_9 : v_9.toInt = (gc_placeHigh (v_8).toNatClampNeg).toInt := by rw [e_v_9]
    have ei_v_9 : v_9.toInt = (gc_placeHigh (12 * ia.toInt.toNat + pa.toInt.toNat - 1)).toInt := by rw [et_v_9, show (v_8).toNatClampNeg = 12 * ia.toInt.toNat + pa.toInt.toNat - 1 from by have h9 := nn_cl (z := v_8) (by omega); omega]
    refine W.lcmp hx hb dX5_isLike_39 ?_
    refine lv_if_ne (tgt := 47) hx hb dX5_isLike_40 (by decide) (fun c_10 => ?_) (fun c_10 => ?_)
    · -- yes
      have k_10 : ¬ v_7.toInt = v_9.toInt := lc_ne c_10
      refine lv_iconst (v := 0) hx hb dX5_isLike_47 (by decide) ?_
      have hP9 := hP.sub (ws' := [(gh, .inr (5, [.int g_acts, g_kind, g_na, g_nb, g_nc, g_nd, g_ne, g_dropped, g_live, g_low, g_high, g_sites, g_nulls, g_there, g_lanes, g_least, g_most, .ref ga_placeLow, .ref ga_placeHigh, g_reached, g_mayThrow, .int g_status, .int g_hasRun, .int g_threw, .int g_whereThrown, g_value, g_means, g_laneOf, g_sizeOf, g_cells, g_copied, .long g_state, .long g_joinedLow, .long g_joinedHigh, g_keptLow, g_keptHigh])), (ga_placeLow, .inl (cJ, 960, .inr (.inl gc_placeLow))), (ga_placeHigh, .inl (cJ, 960, .inr (.inl gc_placeHigh)))]) [0, 1, 2] rfl
      have hD9 := hD.sub (ws' := [(gh, .inr (5, [.int g_acts, g_kind, g_na, g_nb, g_nc, g_nd, g_ne, g_dropped, g_live, g_low, g_high, g_sites, g_nulls, g_there, g_lanes, g_least, g_most, .ref ga_placeLow, .ref ga_placeHigh, g_reached, g_mayThrow, .int g_status, .int g_hasRun, .int g_threw, .int g_whereThrown, g_value, g_means, g_laneOf, g_sizeOf, g_cells, g_copied, .long g_state, .long g_joinedLow, .long g_joinedHigh, g_keptLow, g_keptHigh])), (ga_placeLow, .inl (cJ, 960, .inr (.inl gc_placeLow))), (ga_placeHigh, .inl (cJ, 960, .inr (.inl gc_placeHigh)))]) [0, 1, 2] (by decide) rfl
      exact W.zret (v := 0) (ty := .boolean) hx hb hr rfl (fun t ht hW => ⟨⟨0, (), rfl, (show two (0 : Int32) (like gc_placeLow gc_placeHigh ia.toInt.toNat pa.toInt.toNat) 1 0 from (by first | (refine Or.inl ⟨rfl, ?_⟩; omega) | (refine Or.inr ⟨rfl, ?_⟩; omega))), by rw [ht]; exact hP9, va_K.moved hW.alike hK, hD9⟩, hS.F ht⟩) hS.2.2 dX5_isLike_48
    · -- no
      have k_10 : v_7.toInt = v_9.toInt := lc_eq c_10
      refine lv_iconst (v := 1) hx hb dX5_isLike_43 (by decide) ?_
      refine lv_goto (tgt := 48) hx hb dX5_isLike_44 (by decide) ?_
      have hP9 := hP.sub (ws' := [(gh, .inr (5, [.int g_acts, g_kind, g_na, g_nb, g_nc, g_nd, g_ne, g_dropped, g_live, g_low, g_high, g_sites, g_nulls, g_there, g_lanes, g_least, g_most, .ref ga_placeLow, .ref ga_placeHigh, g_reached, g_mayThrow, .int g_status, .int g_hasRun, .int g_threw, .int g_whereThrown, g_value, g_means, g_laneOf, g_sizeOf, g_cells, g_copied, .long g_state, .long g_joinedLow, .long g_joinedHigh, g_keptLow, g_keptHigh])), (ga_placeLow, .inl (cJ, 960, .inr (.inl gc_placeLow))), (ga_placeHigh, .inl (cJ, 960, .inr (.inl gc_placeHigh)))]) [0, 1, 2] rfl
      have hD9 := hD.sub (ws' := [(gh, .inr (5, [.int g_acts, g_kind, g_na, g_nb, g_nc, g_nd, g_ne, g_dropped, g_live, g_low, g_high, g_sites, g_nulls, g_there, g_lanes, g_least, g_most, .ref ga_placeLow, .ref ga_placeHigh, g_reached, g_mayThrow, .int g_status, .int g_hasRun, .int g_threw, .int g_whereThrown, g_value, g_means, g_laneOf, g_sizeOf, g_cells, g_copied, .long g_state, .long g_joinedLow, .long g_joinedHigh, g_keptLow, g_keptHigh])), (ga_placeLow, .inl (cJ, 960, .inr (.inl gc_placeLow))), (ga_placeHigh, .inl (cJ, 960, .inr (.inl gc_placeHigh)))]) [0, 1, 2] (by decide) rfl
      exact W.zret (v := 1) (ty := .boolean) hx hb hr rfl (fun t ht hW => ⟨⟨1, (), rfl, (show two (1 : Int32) (like gc_placeLow gc_placeHigh ia.toInt.toNat pa.toInt.toNat) 1 0 from (by first | (refine Or.inl ⟨rfl, ?_⟩; omega) | (refine Or.inr ⟨rfl, ?_⟩; omega))), by rw [ht]; exact hP9, va_K.moved hW.alike hK, hD9⟩, hS.F ht⟩) hS.2.2 dX5_isLike_48
