def v_X5_isSorted : List Cond := .code yX5_isSorted cX5_isSorted 4 (some .boolean) :: ([.fieldLink RX5 57 "ArraySegmentsModel" "most" "[J", .fieldLink RX5 63 "ArraySegmentsModel" "placeHigh" "[J", .fieldLink RX5 60 "ArraySegmentsModel" "placeLow" "[J"] ++ (wsX50))
theorem inv_X5_isSorted_X5 : ∀ w ∈ wsX50, w ∈ v_X5_isSorted := fun _ h => List.mem_cons_of_mem _ (List.mem_append_right _ (h))
set_option maxRecDepth 20000 in
theorem gd_X5_isSorted : gdL v_X5_isSorted := gdC (gdW (by decide +kernel)) (gdA (gdW (by decide +kernel)) gd_wsX50)
abbrev sw_X5_isSorted (cI cJ cZ : ClassId) (gh : Nat) (g_acts : Int32) (g_kind : Value) (g_na : Value) (g_nb : Value) (g_nc : Value) (g_nd : Value) (g_ne : Value) (g_dropped : Value) (g_live : Value) (g_low : Value) (g_high : Value) (g_sites : Value) (g_nulls : Value) (g_there : Value) (g_lanes : Value) (g_least : Value) (ga_most : Nat) (ga_placeLow : Nat) (ga_placeHigh : Nat) (g_reached : Value) (g_mayThrow : Value) (g_status : Int32) (g_hasRun : Int32) (g_threw : Int32) (g_whereThrown : Int32) (g_value : Value) (g_means : Value) (g_laneOf : Value) (g_sizeOf : Value) (g_cells : Value) (g_copied : Value) (g_state : Int64) (g_joinedLow : Int64) (g_joinedHigh : Int64) (g_keptLow : Value) (g_keptHigh : Value) (gc_most : Nat → Int64) (gc_placeLow : Nat → Int64) (gc_placeHigh : Nat → Int64) (ia : Int32) : va_W := [(gh, .inr (5, [.int g_acts, g_kind, g_na, g_nb, g_nc, g_nd, g_ne, g_dropped, g_live, g_low, g_high, g_sites, g_nulls, g_there, g_lanes, g_least, .ref ga_most, .ref ga_placeLow, .ref ga_placeHigh, g_reached, g_mayThrow, .int g_status, .int g_hasRun, .int g_threw, .int g_whereThrown, g_value, g_means, g_laneOf, g_sizeOf, g_cells, g_copied, .long g_state, .long g_joinedLow, .long g_joinedHigh, g_keptLow, g_keptHigh])), (ga_most, .inl (cJ, 80, .inr (.inl gc_most))), (ga_placeLow, .inl (cJ, 960, .inr (.inl gc_placeLow))), (ga_placeHigh, .inl (cJ, 960, .inr (.inl gc_placeHigh)))]
set_option maxHeartbeats 8000000 in
set_option maxRecDepth 100000 in
theorem s_X5_isSorted (l : Launch) (dC : Nat → ClassId) (dI : Nat → Nat → Nat) (cI cJ cZ : ClassId) (gh : Nat) (g_acts : Int32) (g_kind : Value) (g_na : Value) (g_nb : Value) (g_nc : Value) (g_nd : Value) (g_ne : Value) (g_dropped : Value) (g_live : Value) (g_low : Value) (g_high : Value) (g_sites : Value) (g_nulls : Value) (g_there : Value) (g_lanes : Value) (g_least : Value) (ga_most : Nat) (ga_placeLow : Nat) (ga_placeHigh : Nat) (g_reached : Value) (g_mayThrow : Value) (g_status : Int32) (g_hasRun : Int32) (g_threw : Int32) (g_whereThrown : Int32) (g_value : Value) (g_means : Value) (g_laneOf : Value) (g_sizeOf : Value) (g_cells : Value) (g_copied : Value) (g_state : Int64) (g_joinedLow : Int64) (g_joinedHigh : Int64) (g_keptLow : Value) (g_keptHigh : Value) (gc_most : Nat → Int64) (gc_placeLow : Nat → Int64) (gc_placeHigh : Nat → Int64) (ia : Int32) (sz : Nat) (q_g_hasRun : kZ g_hasRun) (h_gc_most : ∀ j : Nat, l12 (gc_most j)) (h_gc_placeLow : ∀ j : Nat, lGE (gc_placeLow j)) (h_gc_placeHigh : ∀ j : Nat, lLE (gc_placeHigh j)) (hy_ia : 0 ≤ ia.toInt ∧ ia.toInt ≤ 39) : Met l yX5_isSorted v_X5_isSorted ({ frames := 0, cells := 0, slots := 0, locals := 0 }) (va_Pc [.ref gh, .int ia] (cPre dC dI cI cJ cZ sz (sw_X5_isSorted cI cJ cZ gh g_acts g_kind g_na g_nb g_nc g_nd g_ne g_dropped g_live g_low g_high g_sites g_nulls g_there g_lanes g_least ga_most ga_placeLow ga_placeHigh g_reached g_mayThrow g_status g_hasRun g_threw g_whereThrown g_value g_means g_laneOf g_sizeOf g_cells g_copied g_state g_joinedLow g_joinedHigh g_keptLow g_keptHigh gc_most gc_placeLow gc_placeHigh ia))) (va_Qi (fun (r : Int32) (u : Unit) => (kZ r)) (fun (u : Unit) => cPost dC dI cI cJ cZ (va_A (sw_X5_isSorted cI cJ cZ gh g_acts g_kind g_na g_nb g_nc g_nd g_ne g_dropped g_live g_low g_high g_sites g_nulls g_there g_lanes g_least ga_most ga_placeLow ga_placeHigh g_reached g_mayThrow g_status g_hasRun g_threw g_whereThrown g_value g_means g_laneOf g_sizeOf g_cells g_copied g_state g_joinedLow g_joinedHigh g_keptLow g_keptHigh gc_most gc_placeLow gc_placeHigh ia) sz) [(gh, .inr (5, [.int g_acts, g_kind, g_na, g_nb, g_nc, g_nd, g_ne, g_dropped, g_live, g_low, g_high, g_sites, g_nulls, g_there, g_lanes, g_least, .ref ga_most, .ref ga_placeLow, .ref ga_placeHigh, g_reached, g_mayThrow, .int g_status, .int g_hasRun, .int g_threw, .int g_whereThrown, g_value, g_means, g_laneOf, g_sizeOf, g_cells, g_copied, .long g_state, .long g_joinedLow, .long g_joinedHigh, g_keptLow, g_keptHigh])), (ga_most, .inl (cJ, 80, .inr (.inl gc_most))), (ga_placeLow, .inl (cJ, 960, .inr (.inl gc_placeLow))), (ga_placeHigh, .inl (cJ, 960, .inr (.inl gc_placeHigh)))]) (va_A (sw_X5_isSorted cI cJ cZ gh g_acts g_kind g_na g_nb g_nc g_nd g_ne g_dropped g_live g_low g_high g_sites g_nulls g_there g_lanes g_least ga_most ga_placeLow ga_placeHigh g_reached g_mayThrow g_status g_hasRun g_threw g_whereThrown g_value g_means g_laneOf g_sizeOf g_cells g_copied g_state g_joinedLow g_joinedHigh g_keptLow g_keptHigh gc_most gc_placeLow gc_placeHigh ia) sz)) 0 0 (va_A (sw_X5_isSorted cI cJ cZ gh g_acts g_kind g_na g_nb g_nc g_nd g_ne g_dropped g_live g_low g_high g_sites g_nulls g_there g_lanes g_least ga_most ga_placeLow ga_placeHigh g_reached g_mayThrow g_status g_hasRun g_threw g_whereThrown g_value g_means g_laneOf g_sizeOf g_cells g_copied g_state g_joinedLow g_joinedHigh g_keptLow g_keptHigh gc_most gc_placeLow gc_placeHigh ia) sz) := by
  refine Met.ofW (cc := cX5_isSorted) (maxL := 4) (ret := (some .boolean)) (by decide) rfl ?_
  intro p e s m args below meth c s₁ B hml hv
  obtain ⟨rfl, hsz, hP, hK, hD0, hN⟩ := hv
  have hx := B.exec
  have hb := B.bytes
  have hr := B.returns
  have hts := atoms_spec (ws := v_X5_isSorted) B.pre
  have hown : s.vm.findClass RX5 = some m.cls := findClass_of_methodNamed B.named
  have hlocks := B.notSynchronized
  subst hsz
  have hD := hD0.self (sz := s.heap.size)
  generalize hAe : va_A (sw_X5_isSorted cI cJ cZ gh g_acts g_kind g_na g_nb g_nc g_nd g_ne g_dropped g_live g_low g_high g_sites g_nulls g_there g_lanes g_least ga_most ga_placeLow ga_placeHigh g_reached g_mayThrow g_status g_hasRun g_threw g_whereThrown g_value g_means g_laneOf g_sizeOf g_cells g_copied g_state g_joinedLow g_joinedHigh g_keptLow g_keptHigh gc_most gc_placeLow gc_placeHigh ia) s.heap.size = A at hD ⊢
  have hA : ∀ q : Nat, s.heap.size ≤ q → A q := fun q h => by rw [← hAe]; exact Or.inr h
  clear hAe hD0
  have hS : va_S A s.heap s.heap [] := va_S.rf
  replace hP : va_P (dC, dI) vwCl [(gh, .inr (5, [.int g_acts, g_kind, g_na, g_nb, g_nc, g_nd, g_ne, g_dropped, g_live, g_low, g_high, g_sites, g_nulls, g_there, g_lanes, g_least, .ref ga_most, .ref ga_placeLow, .ref ga_placeHigh, g_reached, g_mayThrow, .int g_status, .int g_hasRun, .int g_threw, .int g_whereThrown, g_value, g_means, g_laneOf, g_sizeOf, g_cells, g_copied, .long g_state, .long g_joinedLow, .long g_joinedHigh, g_keptLow, g_keptHigh])), (ga_most, .inl (cJ, 80, .inr (.inl gc_most))), (ga_placeLow, .inl (cJ, 960, .inr (.inl gc_placeLow))), (ga_placeHigh, .inl (cJ, 960, .inr (.inl gc_placeHigh)))] s.heap := hP
  replace hD : va_D A [(gh, .inr (5, [.int g_acts, g_kind, g_na, g_nb, g_nc, g_nd, g_ne, g_dropped, g_live, g_low, g_high, g_sites, g_nulls, g_there, g_lanes, g_least, .ref ga_most, .ref ga_placeLow, .ref ga_placeHigh, g_reached, g_mayThrow, .int g_status, .int g_hasRun, .int g_threw, .int g_whereThrown, g_value, g_means, g_laneOf, g_sizeOf, g_cells, g_copied, .long g_state, .long g_joinedLow, .long g_joinedHigh, g_keptLow, g_keptHigh])), (ga_most, .inl (cJ, 80, .inr (.inl gc_most))), (ga_placeLow, .inl (cJ, 960, .inr (.inl gc_placeLow))), (ga_placeHigh, .inl (cJ, 960, .inr (.inl gc_placeHigh)))] := hD
  have hl := lv_entry ([.ref gh, .int ia]) (n := 4) (Nat.le_of_ble_eq_true rfl)
  rw [lg_entry_eq]
  generalize (lg_sl ([.ref gh, .int ia]) ++ List.replicate (4 - (lg_sl ([.ref gh, .int ia])).length) Slot.unset).toArray = ls at hl ⊢
  replace hl : lv_has ls 4 [(0, .ref gh), (1, .int ia)] := hl
  have z_0 : (0 : Int32).toInt = 0 := by decide
  have z_1 : (1 : Int32).toInt = 1 := by decide
  refine lv_iconst (v := 1) hx hb dX5_isSorted_0 (by decide) ?_
  refine lv_istore_n (lv' := [(2, .int 1), (0, .ref gh), (1, .int ia)]) hx hb dX5_isSorted_1 rfl hl (by decide) rfl (fun ls1 hl1 => ?_)
  replace hl := hl1; clear hl1
  refine lv_iconst (v := 1) hx hb dX5_isSorted_2 (by decide) ?_
  refine lv_istore_n (lv' := [(3, .int 1), (2, .int 1), (0, .ref gh), (1, .int ia)]) hx hb dX5_isSorted_3 rfl hl (by decide) rfl (fun ls1 hl1 => ?_)
  replace hl := hl1; clear hl1
  refine my_wloop (S := Int32 × Int32) (fun u => (1 ≤ (u.1).toInt ∧ (u.1).toInt ≤ 12) ∧ (0 ≤ (u.2).toInt ∧ (u.2).toInt ≤ 1)) (fun u => (12 - (u.1).toInt).toNat) (fun u => [(gh, .inr (5, [.int g_acts, g_kind, g_na, g_nb, g_nc, g_nd, g_ne, g_dropped, g_live, g_low, g_high, g_sites, g_nulls, g_there, g_lanes, g_least, .ref ga_most, .ref ga_placeLow, .ref ga_placeHigh, g_reached, g_mayThrow, .int g_status, .int g_hasRun, .int g_threw, .int g_whereThrown, g_value, g_means, g_laneOf, g_sizeOf, g_cells, g_copied, .long g_state, .long g_joinedLow, .long g_joinedHigh, g_keptLow, g_keptHigh])), (ga_most, .inl (cJ, 80, .inr (.inl gc_most))), (ga_placeLow, .inl (cJ, 960, .inr (.inl gc_placeLow))), (ga_placeHigh, .inl (cJ, 960, .inr (.inl gc_placeHigh)))]) (fun u => [(3, .int (u.1)), (2, .int (u.2)), (0, .ref gh), (1, .int ia)]) (H0 := s.heap) (A := A) (D := (dC, dI)) (cl := vwCl) ((1 : Int32), (1 : Int32)) (show (1 ≤ (1 : Int32).toInt ∧ (1 : Int32).toInt ≤ 12) ∧ (0 ≤ (1 : Int32).toInt ∧ (1 : Int32).toInt ≤ 1) from ⟨⟨by omega, by omega⟩, ⟨by omega, by omega⟩⟩) (by exact hP) (by exact hD) hS (by exact hl) (fun u_1 hu_1 ih_1 H_1 locs_1 ls1 hP1 hD1 hS1 hl1 => ?_)
  obtain ⟨v_2, v_3⟩ := u_1
  replace hu_1 : (1 ≤ v_2.toInt ∧ v_2.toInt ≤ 12) ∧ (0 ≤ v_3.toInt ∧ v_3.toInt ≤ 1) := hu_1
  obtain ⟨q_v_2, q_v_3⟩ := hu_1
  replace hP : va_P (dC, dI) vwCl [(gh, .inr (5, [.int g_acts, g_kind, g_na, g_nb, g_nc, g_nd, g_ne, g_dropped, g_live, g_low, g_high, g_sites, g_nulls, g_there, g_lanes, g_least, .ref ga_most, .ref ga_placeLow, .ref ga_placeHigh, g_reached, g_mayThrow, .int g_status, .int g_hasRun, .int g_threw, .int g_whereThrown, g_value, g_means, g_laneOf, g_sizeOf, g_cells, g_copied, .long g_state, .long g_joinedLow, .long g_joinedHigh, g_keptLow, g_keptHigh])), (ga_most, .inl (cJ, 80, .inr (.inl gc_most))), (ga_placeLow, .inl (cJ, 960, .inr (.inl gc_placeLow))), (ga_placeHigh, .inl (cJ, 960, .inr (.inl gc_placeHigh)))] H_1 := hP1
  replace hD : va_D A [(gh, .inr (5, [.int g_acts, g_kind, g_na, g_nb, g_nc, g_nd, g_ne, g_dropped, g_live, g_low, g_high, g_sites, g_nulls, g_there, g_lanes, g_least, .ref ga_most, .ref ga_placeLow, .ref ga_placeHigh, g_reached, g_mayThrow, .int g_status, .int g_hasRun, .int g_threw, .int g_whereThrown, g_value, g_means, g_laneOf, g_sizeOf, g_cells, g_copied, .long g_state, .long g_joinedLow, .long g_joinedHigh, g_keptLow, g_keptHigh])), (ga_most, .inl (cJ, 80, .inr (.inl gc_most))), (ga_placeLow, .inl (cJ, 960, .inr (.inl gc_placeLow))), (ga_placeHigh, .inl (cJ, 960, .inr (.inl gc_placeHigh)))] := hD1
  replace hS := hS1
  clear hP1 hD1 hS1
  replace hl : lv_has ls1 4 [(3, .int v_2), (2, .int v_3), (0, .ref gh), (1, .int ia)] := hl1
  clear hl1
  refine lv_iload_n hx hb dX5_isSorted_4 rfl (lv_at hl 0 rfl) ?_
  refine sf_i2l hx hb dX5_isSorted_5 (fun v_4 q_v_4 => ?_)
  refine lv_aload_n hx hb dX5_isSorted_6 rfl (lv_at hl 2 rfl) ?_
  refine va_get (D := (dC, dI)) (ci := 5) (v := .ref ga_most) (C := RX5) (T := TX5) (N := 36) hx hb hts inv_X5_isSorted_X5 hown hK hP 0 rfl rfl 16 (by decide) (hts (.fieldLink RX5 57 "ArraySegmentsModel" "most" "[J") (List.mem_of_getElem? (i := 1) rfl)) (fun _ h9 => h9) rfl dX5_isSorted_7 ?_
  refine lv_iload_n hx hb dX5_isSorted_10 rfl (lv_at hl 3 rfl) ?_
  refine sf_lald l12 hx hb hK hP 1 1 rfl rfl h_gc_most (vp_in_iff.mpr ⟨by omega, by omega⟩) dX5_isSorted_11 (fun v_5 q_v_5 e_v_5 => ?_)
  refine W.lcmp hx hb dX5_isSorted_12 ?_
  refine lv_if_ge (tgt := 58) hx hb dX5_isSorted_13 (by decide) (fun c_6 => ?_) (fun c_6 => ?_)
  · -- yes
    have k_6 : v_5.toInt ≤ v_4.toInt := lc_ge c_6
    refine lv_iload_n hx hb dX5_isSorted_58 rfl (lv_at hl 1 rfl) ?_
    have hP9 := hP.sub (ws' := [(gh, .inr (5, [.int g_acts, g_kind, g_na, g_nb, g_nc, g_nd, g_ne, g_dropped, g_live, g_low, g_high, g_sites, g_nulls, g_there, g_lanes, g_least, .ref ga_most, .ref ga_placeLow, .ref ga_placeHigh, g_reached, g_mayThrow, .int g_status, .int g_hasRun, .int g_threw, .int g_whereThrown, g_value, g_means, g_laneOf, g_sizeOf, g_cells, g_copied, .long g_state, .long g_joinedLow, .long g_joinedHigh, g_keptLow, g_keptHigh])), (ga_most, .inl (cJ, 80, .inr (.inl gc_most))), (ga_placeLow, .inl (cJ, 960, .inr (.inl gc_placeLow))), (ga_placeHigh, .inl (cJ, 960, .inr (.inl gc_placeHigh)))]) [0, 1, 2, 3] rfl
    have hD9 := hD.sub (ws' := [(gh, .inr (5, [.int g_acts, g_kind, g_na, g_nb, g_nc, g_nd, g_ne, g_dropped, g_live, g_low, g_high, g_sites, g_nulls, g_there, g_lanes, g_least, .ref ga_most, .ref ga_placeLow, .ref ga_placeHigh, g_reached, g_mayThrow, .int g_status, .int g_hasRun, .int g_threw, .int g_whereThrown, g_value, g_means, g_laneOf, g_sizeOf, g_cells, g_copied, .long g_state, .long g_joinedLow, .long g_joinedHigh, g_keptLow, g_keptHigh])), (ga_most, .inl (cJ, 80, .inr (.inl gc_most))), (ga_placeLow, .inl (cJ, 960, .inr (.inl gc_placeLow))), (ga_placeHigh, .inl (cJ, 960, .inr (.inl gc_placeHigh)))]) [0, 1, 2, 3] (by decide) rfl
    exact W.zret (v := v_3) (ty := .boolean) hx hb hr (nar01 (kz_iv ⟨by omega, by omega⟩)) (fun t ht hW => ⟨⟨v_3, (), rfl, (show kZ v_3 from (kz_iv ⟨by omega, by omega⟩)), by rw [ht]; exact hP9, va_K.moved hW.alike hK, hD9⟩, hS.F ht⟩) hS.2.2 dX5_isSorted_59
  · -- no
    have k_6 : v_4.toInt < v_5.toInt := lc_nge c_6
    refine lv_iload_n hx hb dX5_isSorted_16 rfl (lv_at hl 1 rfl) ?_
    refine lv_aload_n hx hb dX5_isSorted_17 rfl (lv_at hl 2 rfl) ?_
    refine va_get (D := (dC, dI)) (ci := 5) (v := .ref ga_placeHigh) (C := RX5) (T := TX5) (N := 36) hx hb hts inv_X5_isSorted_X5 hown hK hP 0 rfl rfl 18 (by decide) (hts (.fieldLink RX5 63 "ArraySegmentsModel" "placeHigh" "[J") (List.mem_of_getElem? (i := 2) rfl)) (fun _ h9 => h9) rfl dX5_isSorted_18 ?_
    refine lv_bipush (v := 12) hx hb dX5_isSorted_21 (by decide) ?_
    refine lv_iload_n hx hb dX5_isSorted_23 rfl (lv_at hl 3 rfl) ?_
    refine sf_imul (w := 12) (z := ia.toInt) hx hb dX5_isSorted_24 (by decide) rfl ⟨by omega, by omega⟩ (fun v_7 q_v_7 => ?_)
    refine lv_iload_n hx hb dX5_isSorted_25 rfl (lv_at hl 0 rfl) ?_
    refine sf_iadd hx hb dX5_isSorted_26 ⟨by omega, by omega⟩ (fun v_8 q_v_8 => ?_)
    refine lv_iconst (v := 1) hx hb dX5_isSorted_27 (by decide) ?_
    refine sf_isub hx hb dX5_isSorted_28 ⟨by omega, by omega⟩ (fun v_9 q_v_9 => ?_)
    refine sf_lald lLE hx hb hK hP 3 1 rfl rfl h_gc_placeHigh (vp_in_iff.mpr ⟨by omega, by omega⟩) dX5_isSorted_29 (fun v_10 q_v_10 e_v_10 => ?_)
    refine lv_aload_n hx hb dX5_isSorted_30 rfl (lv_at hl 2 rfl) ?_
    refine va_get (D := (dC, dI)) (ci := 5) (v := .ref ga_placeLow) (C := RX5) (T := TX5) (N := 36) hx hb hts inv_X5_isSorted_X5 hown hK hP 0 rfl rfl 17 (by decide) (hts (.fieldLink RX5 60 "ArraySegmentsModel" "placeLow" "[J") (List.mem_of_getElem? (i := 3) rfl)) (fun _ h9 => h9) rfl dX5_isSorted_31 ?_
    refine lv_bipush (v := 12) hx hb dX5_isSorted_34 (by decide) ?_
    refine lv_iload_n hx hb dX5_isSorted_36 rfl (lv_at hl 3 rfl) ?_
    refine sf_imul (w := 12) (z := ia.toInt) hx hb dX5_isSorted_37 (by decide) rfl ⟨by omega, by omega⟩ (fun v_11 q_v_11 => ?_)
    refine lv_iload_n hx hb dX5_isSorted_38 rfl (lv_at hl 0 rfl) ?_
    refine sf_iadd hx hb dX5_isSorted_39 ⟨by omega, by omega⟩ (fun v_12 q_v_12 => ?_)
    refine sf_lald lGE hx hb hK hP 2 1 rfl rfl h_gc_placeLow (vp_in_iff.mpr ⟨by omega, by omega⟩) dX5_isSorted_40 (fun v_13 q_v_13 e_v_13 => ?_)
    refine W.lcmp hx hb dX5_isSorted_41 ?_
    refine my_join (S := Int32) (fun u => (kZ (u))) (fun u => [(gh, .inr (5, [.int g_acts, g_kind, g_na, g_nb, g_nc, g_nd, g_ne, g_dropped, g_live, g_low, g_high, g_sites, g_nulls, g_there, g_lanes, g_least, .ref ga_most, .ref ga_placeLow, .ref ga_placeHigh, g_reached, g_mayThrow, .int g_status, .int g_hasRun, .int g_threw, .int g_whereThrown, g_value, g_means, g_laneOf, g_sizeOf, g_cells, g_copied, .long g_state, .long g_joinedLow, .long g_joinedHigh, g_keptLow, g_keptHigh])), (ga_most, .inl (cJ, 80, .inr (.inl gc_most))), (ga_placeLow, .inl (cJ, 960, .inr (.inl gc_placeLow))), (ga_placeHigh, .inl (cJ, 960, .inr (.inl gc_placeHigh)))]) (fun u => [(3, .int v_2), (2, .int v_3), (0, .ref gh), (1, .int ia)]) (fun u => [.int (u), .int v_3]) (nL := 4) (H0 := s.heap) (A := A) (D := (dC, dI)) (cl := vwCl) 50 (fun u_15 hu_15 H_15 locs_15 ls1 hP1 hD1 hS1 hl1 => ?_) (fun jn_15 => ?_)
    · -- behind 50
      obtain ⟨v_16, rfl⟩ : ∃ z, z = u_15 := ⟨_, rfl⟩
      replace hu_15 : (kZ v_16) := hu_15
      have q_v_16 := hu_15
      replace hP : va_P (dC, dI) vwCl [(gh, .inr (5, [.int g_acts, g_kind, g_na, g_nb, g_nc, g_nd, g_ne, g_dropped, g_live, g_low, g_high, g_sites, g_nulls, g_there, g_lanes, g_least, .ref ga_most, .ref ga_placeLow, .ref ga_placeHigh, g_reached, g_mayThrow, .int g_status, .int g_hasRun, .int g_threw, .int g_whereThrown, g_value, g_means, g_laneOf, g_sizeOf, g_cells, g_copied, .long g_state, .long g_joinedLow, .long g_joinedHigh, g_keptLow, g_keptHigh])), (ga_most, .inl (cJ, 80, .inr (.inl gc_most))), (ga_placeLow, .inl (cJ, 960, .inr (.inl gc_placeLow))), (ga_placeHigh, .inl (cJ, 960, .inr (.inl gc_placeHigh)))] H_15 := hP1
      replace hD : va_D A [(gh, .inr (5, [.int g_acts, g_kind, g_na, g_nb, g_nc, g_nd, g_ne, g_dropped, g_live, g_low, g_high, g_sites, g_nulls, g_there, g_lanes, g_least, .ref ga_most, .ref ga_placeLow, .ref ga_placeHigh, g_reached, g_mayThrow, .int g_status, .int g_hasRun, .int g_threw, .int g_whereThrown, g_value, g_means, g_laneOf, g_sizeOf, g_cells, g_copied, .long g_state, .long g_joinedLow, .long g_joinedHigh, g_keptLow, g_keptHigh])), (ga_most, .inl (cJ, 80, .inr (.inl gc_most))), (ga_placeLow, .inl (cJ, 960, .inr (.inl gc_placeLow))), (ga_placeHigh, .inl (cJ, 960, .inr (.inl gc_placeHigh)))] := hD1
      replace hS := hS1
      clear hP1 hD1 hS1
      replace hl : lv_has ls1 4 [(3, .int v_2), (2, .int v_3), (0, .ref gh), (1, .int ia)] := hl1
      clear hl1
      refine lv_iand hx hb dX5_isSorted_50 ?_
      refine lv_topi (fun v_17 e_v_17 => ?_)
      have q_v_17 : kZ v_17 := by rw [e_v_17]; exact and01 (kz_iv ⟨by omega, by omega⟩) q_v_16
      have qi_v_17 := kz_to q_v_17
      refine lv_istore_n (lv' := [(2, .int v_17), (3, .int v_2), (0, .ref gh), (1, .int ia)]) hx hb dX5_isSorted_51 rfl hl (by decide) rfl (fun ls1 hl1 => ?_)
      replace hl := hl1; clear hl1
      refine sf_iinc hx hb dX5_isSorted_52 hl (k := 1) (x := v_2) (w := 1) rfl (by decide) (by decide) ⟨by omega, by omega⟩ (fun v_18 q_v_18 ls1 hl1 => ?_)
      replace hl : lv_has ls1 4 [(3, .int v_18), (2, .int v_17), (0, .ref gh), (1, .int ia)] := hl1
      clear hl1
      refine lv_goto (tgt := 4) hx hb dX5_isSorted_55 (by decide) ?_
      exact ih_1 (v_18, v_17) (show (1 ≤ v_18.toInt ∧ v_18.toInt ≤ 12) ∧ (0 ≤ v_17.toInt ∧ v_17.toInt ≤ 1) from ⟨⟨by omega, by omega⟩, (kz_to q_v_17)⟩) (by show (12 - v_18.toInt).toNat < (12 - v_2.toInt).toNat; omega) _ _ _ (hP.sub [0, 1, 2, 3] rfl) (hD.sub [0, 1, 2, 3] (by decide) rfl) hS (lv_sub hl [0, 1, 2, 3] rfl)
    · -- ahead of 50
      refine lv_if_gt (tgt := 49) hx hb dX5_isSorted_42 (by decide) (fun c_19 => ?_) (fun c_19 => ?_)
      · -- yes
        have k_19 : v_13.toInt < v_10.toInt := lc_gt c_19
        refine lv_iconst (v := 0) hx hb dX5_isSorted_49 (by decide) ?_
        exact jn_15 (0 : Int32) (show (kZ (0 : Int32)) from (by decide)) _ _ _ (hP.sub [0, 1, 2, 3] rfl) (hD.sub [0, 1, 2, 3] (by decide) rfl) hS (lv_sub hl [0, 1, 2, 3] rfl)
      · -- no
        have k_19 : v_10.toInt ≤ v_13.toInt := lc_ngt c_19
        refine lv_iconst (v := 1) hx hb dX5_isSorted_45 (by decide) ?_
        refine lv_goto (tgt := 50) hx hb dX5_isSorted_46 (by decide) ?_
        exact jn_15 (1 : Int32) (show (kZ (1 : Int32)) from (by decide)) _ _ _ (hP.sub [0, 1, 2, 3] rfl) (hD.sub [0, 1, 2, 3] (by decide) rfl) hS (lv_sub hl [0, 1, 2, 3] rfl)
