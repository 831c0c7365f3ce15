def v_X5_isSo : List Cond := .code yX5_isSo cX5_isSo 6 (some .boolean) :: ([.fieldLink RX5 75 "ArraySegmentsModel" "means" "[I", .methodLink RX5 169 yX5_has, .instanceMethod yX5_has, .selects RX5 yX5_has yX5_has, .initialized RX5, .fieldLink RX5 51 "ArraySegmentsModel" "lanes" "[I", .fieldLink RX5 78 "ArraySegmentsModel" "laneOf" "[I", .fieldLink RX5 81 "ArraySegmentsModel" "sizeOf" "[I", .fieldLink RX5 54 "ArraySegmentsModel" "least" "[J", .fieldLink RX5 57 "ArraySegmentsModel" "most" "[J", .fieldLink RX5 84 "ArraySegmentsModel" "cells" "[I", .fieldLink RX5 60 "ArraySegmentsModel" "placeLow" "[J", .fieldLink RX5 63 "ArraySegmentsModel" "placeHigh" "[J", .fieldLink RX5 45 "ArraySegmentsModel" "nulls" "[Z"] ++ (wsX50 ++ (v_X5_has)))
theorem inv_X5_isSo_X5 : ∀ w ∈ wsX50, w ∈ v_X5_isSo := fun _ h => List.mem_cons_of_mem _ (List.mem_append_right _ (List.mem_append_left _ h))
theorem im_X5_isSo_X5_has : ∀ w ∈ v_X5_has, w ∈ v_X5_isSo := fun _ h => List.mem_cons_of_mem _ (List.mem_append_right _ (List.mem_append_right _ (h)))
set_option maxRecDepth 20000 in
theorem gd_X5_isSo : gdL v_X5_isSo := gdC (gdW (by decide +kernel)) (gdA (gdW (by decide +kernel)) (gdA gd_wsX50 gd_X5_has))
set_option maxRecDepth 20000 in
theorem h_X5_isSo_X5_has_169 : GoodIn v_X5_isSo (wsV RX5 169 RX5 yX5_has v_X5_has) := gdI [2, 3, 4, 5] rfl (by decide +kernel) (im_X5_isSo_X5_has) gd_X5_has
abbrev sw_X5_isSo (cI cJ cZ : ClassId) (gh : Nat) (g_acts : Int32) (g_kind : Value) (g_na : Value) (g_nb : Value) (g_nc : Value) (g_nd : Value) (g_ne : Value) (g_dropped : Value) (g_live : Value) (g_low : Value) (g_high : Value) (ga_sites : Nat) (ga_nulls : Nat) (ga_there : Nat) (ga_lanes : Nat) (ga_least : Nat) (ga_most : Nat) (ga_placeLow : Nat) (ga_placeHigh : Nat) (g_reached : Value) (g_mayThrow : Value) (g_status : Int32) (g_hasRun : Int32) (g_threw : Int32) (g_whereThrown : Int32) (g_value : Value) (ga_means : Nat) (ga_laneOf : Nat) (ga_sizeOf : Nat) (ga_cells : Nat) (g_copied : Value) (g_state : Int64) (g_joinedLow : Int64) (g_joinedHigh : Int64) (g_keptLow : Value) (g_keptHigh : Value) (gc_sites : Nat → Int64) (gc_nulls : Nat → Int32) (gc_there : Nat → Int32) (gc_lanes : Nat → Int32) (gc_least : Nat → Int64) (gc_most : Nat → Int64) (gc_placeLow : Nat → Int64) (gc_placeHigh : Nat → Int64) (gc_means : Nat → Int32) (gc_laneOf : Nat → Int32) (gc_sizeOf : Nat → Int32) (gc_cells : Nat → Int32) (ra : Int32) : va_W := [(gh, .inr (5, [.int g_acts, g_kind, g_na, g_nb, g_nc, g_nd, g_ne, g_dropped, g_live, g_low, g_high, .ref ga_sites, .ref ga_nulls, .ref ga_there, .ref ga_lanes, .ref ga_least, .ref ga_most, .ref ga_placeLow, .ref ga_placeHigh, g_reached, g_mayThrow, .int g_status, .int g_hasRun, .int g_threw, .int g_whereThrown, g_value, .ref ga_means, .ref ga_laneOf, .ref ga_sizeOf, .ref ga_cells, g_copied, .long g_state, .long g_joinedLow, .long g_joinedHigh, g_keptLow, g_keptHigh])), (ga_sites, .inl (cJ, 12, .inr (.inl gc_sites))), (ga_nulls, .inl (cZ, 12, .inl gc_nulls)), (ga_there, .inl (cZ, 80, .inl gc_there)), (ga_lanes, .inl (cI, 80, .inl gc_lanes)), (ga_least, .inl (cJ, 80, .inr (.inl gc_least))), (ga_most, .inl (cJ, 80, .inr (.inl gc_most))), (ga_placeLow, .inl (cJ, 960, .inr (.inl gc_placeLow))), (ga_placeHigh, .inl (cJ, 960, .inr (.inl gc_placeHigh))), (ga_means, .inl (cI, 6, .inl gc_means)), (ga_laneOf, .inl (cI, 40, .inl gc_laneOf)), (ga_sizeOf, .inl (cI, 40, .inl gc_sizeOf)), (ga_cells, .inl (cI, 480, .inl gc_cells))]
set_option maxHeartbeats 8000000 in
set_option maxRecDepth 100000 in
theorem s_X5_isSo (l : Launch) (dC : Nat → ClassId) (dI : Nat → Nat → Nat) (cI cJ cZ : ClassId) (gh : Nat) (g_acts : Int32) (g_kind : Value) (g_na : Value) (g_nb : Value) (g_nc : Value) (g_nd : Value) (g_ne : Value) (g_dropped : Value) (g_live : Value) (g_low : Value) (g_high : Value) (ga_sites : Nat) (ga_nulls : Nat) (ga_there : Nat) (ga_lanes : Nat) (ga_least : Nat) (ga_most : Nat) (ga_placeLow : Nat) (ga_placeHigh : Nat) (g_reached : Value) (g_mayThrow : Value) (g_status : Int32) (g_hasRun : Int32) (g_threw : Int32) (g_whereThrown : Int32) (g_value : Value) (ga_means : Nat) (ga_laneOf : Nat) (ga_sizeOf : Nat) (ga_cells : Nat) (g_copied : Value) (g_state : Int64) (g_joinedLow : Int64) (g_joinedHigh : Int64) (g_keptLow : Value) (g_keptHigh : Value) (gc_sites : Nat → Int64) (gc_nulls : Nat → Int32) (gc_there : Nat → Int32) (gc_lanes : Nat → Int32) (gc_least : Nat → Int64) (gc_most : Nat → Int64) (gc_placeLow : Nat → Int64) (gc_placeHigh : Nat → Int64) (gc_means : Nat → Int32) (gc_laneOf : Nat → Int32) (gc_sizeOf : Nat → Int32) (gc_cells : Nat → Int32) (ra : Int32) (sz : Nat) (q_g_hasRun : kZ g_hasRun) (h_gc_nulls : ∀ j : Nat, kZ (gc_nulls j)) (h_gc_there : ∀ j : Nat, kZ (gc_there j)) (h_gc_lanes : ∀ j : Nat, kL7 (gc_lanes j)) (h_gc_least : ∀ j : Nat, lGE (gc_least j)) (h_gc_most : ∀ j : Nat, l12 (gc_most j)) (h_gc_placeLow : ∀ j : Nat, lGE (gc_placeLow j)) (h_gc_placeHigh : ∀ j : Nat, lLE (gc_placeHigh j)) (h_gc_means : ∀ j : Nat, kSITE (gc_means j)) (h_gc_laneOf : ∀ j : Nat, kL3 (gc_laneOf j)) (h_gc_sizeOf : ∀ j : Nat, kR012 (gc_sizeOf j)) (hy_ra : V6 ra) (hy_h : hid (((gc_means (ra).toNatClampNeg).toInt < 0 → ¬ (gc_nulls (ra).toNatClampNeg).toInt = 0) ∧ (0 ≤ (gc_means (ra).toNatClampNeg).toInt → sbit (gc_sites (ra).toNatClampNeg) ((gc_means (ra).toNatClampNeg)).toNatClampNeg ∧ siC gc_there gc_lanes (fun j => (gc_least j).toInt) (fun j => (gc_most j).toInt) (fun j => (gc_placeLow j).toInt) (fun j => (gc_placeHigh j).toInt) gc_laneOf gc_sizeOf gc_cells ((gc_means (ra).toNatClampNeg)).toNatClampNeg))) : Met l yX5_isSo v_X5_isSo ({ frames := 1, cells := 0, slots := 0, locals := 22 }) (va_Pc [.ref gh, .int ra] (cPre dC dI cI cJ cZ sz (sw_X5_isSo cI cJ cZ gh g_acts g_kind g_na g_nb g_nc g_nd g_ne g_dropped g_live g_low g_high ga_sites ga_nulls ga_there ga_lanes ga_least ga_most ga_placeLow ga_placeHigh g_reached g_mayThrow g_status g_hasRun g_threw g_whereThrown g_value ga_means ga_laneOf ga_sizeOf ga_cells g_copied g_state g_joinedLow g_joinedHigh g_keptLow g_keptHigh gc_sites gc_nulls gc_there gc_lanes gc_least gc_most gc_placeLow gc_placeHigh gc_means gc_laneOf gc_sizeOf gc_cells ra))) (va_Qi (fun (r : Int32) (u : Unit) => (kZ r) ∧ (¬ r.toInt = 0)) (fun (u : Unit) => cPost dC dI cI cJ cZ (va_A (sw_X5_isSo cI cJ cZ gh g_acts g_kind g_na g_nb g_nc g_nd g_ne g_dropped g_live g_low g_high ga_sites ga_nulls ga_there ga_lanes ga_least ga_most ga_placeLow ga_placeHigh g_reached g_mayThrow g_status g_hasRun g_threw g_whereThrown g_value ga_means ga_laneOf ga_sizeOf ga_cells g_copied g_state g_joinedLow g_joinedHigh g_keptLow g_keptHigh gc_sites gc_nulls gc_there gc_lanes gc_least gc_most gc_placeLow gc_placeHigh gc_means gc_laneOf gc_sizeOf gc_cells ra) sz) [(gh, .inr (5, [.int g_acts, g_kind, g_na, g_nb, g_nc, g_nd, g_ne, g_dropped, g_live, g_low, g_high, .ref ga_sites, .ref ga_nulls, .ref ga_there, .ref ga_lanes, .ref ga_least, .ref ga_most, .ref ga_placeLow, .ref ga_placeHigh, g_reached, g_mayThrow, .int g_status, .int g_hasRun, .int g_threw, .int g_whereThrown, g_value, .ref ga_means, .ref ga_laneOf, .ref ga_sizeOf, .ref ga_cells, g_copied, .long g_state, .long g_joinedLow, .long g_joinedHigh, g_keptLow, g_keptHigh])), (ga_sites, .inl (cJ, 12, .inr (.inl gc_sites))), (ga_nulls, .inl (cZ, 12, .inl gc_nulls)), (ga_there, .inl (cZ, 80, .inl gc_there)), (ga_lanes, .inl (cI, 80, .inl gc_lanes)), (ga_least, .inl (cJ, 80, .inr (.inl gc_least))), (ga_most, .inl (cJ, 80, .inr (.inl gc_most))), (ga_placeLow, .inl (cJ, 960, .inr (.inl gc_placeLow))), (ga_placeHigh, .inl (cJ, 960, .inr (.inl gc_placeHigh))), (ga_means, .inl (cI, 6, .inl gc_means)), (ga_laneOf, .inl (cI, 40, .inl gc_laneOf)), (ga_sizeOf, .inl (cI, 40, .inl gc_sizeOf)), (ga_cells, .inl (cI, 480, .inl gc_cells))]) (va_A (sw_X5_isSo cI cJ cZ gh g_acts g_kind g_na g_nb g_nc g_nd g_ne g_dropped g_live g_low g_high ga_sites ga_nulls ga_there ga_lanes ga_least ga_most ga_placeLow ga_placeHigh g_reached g_mayThrow g_status g_hasRun g_threw g_whereThrown g_value ga_means ga_laneOf ga_sizeOf ga_cells g_copied g_state g_joinedLow g_joinedHigh g_keptLow g_keptHigh gc_sites gc_nulls gc_there gc_lanes gc_least gc_most gc_placeLow gc_placeHigh gc_means gc_laneOf gc_sizeOf gc_cells ra) sz)) 0 0 (va_A (sw_X5_isSo cI cJ cZ gh g_acts g_kind g_na g_nb g_nc g_nd g_ne g_dropped g_live g_low g_high ga_sites ga_nulls ga_there ga_lanes ga_least ga_most ga_placeLow ga_placeHigh g_reached g_mayThrow g_status g_hasRun g_threw g_whereThrown g_value ga_means ga_laneOf ga_sizeOf ga_cells g_copied g_state g_joinedLow g_joinedHigh g_keptLow g_keptHigh gc_sites gc_nulls gc_there gc_lanes gc_least gc_most gc_placeLow gc_placeHigh gc_means gc_laneOf gc_sizeOf gc_cells ra) sz) := by
  refine Met.ofW (cc := cX5_isSo) (maxL := 6) (ret := (some .boolean)) (by decide) rfl ?_
  intro p e s m args below meth c s₁ B hml hv
  obtain ⟨rfl, hsz, hP, hK, hD0, hN⟩ := hv
  have hx := B.exec
  have hb := B.bytes
  have hr := B.returns
  have hts := atoms_spec (ws := v_X5_isSo) B.pre
  have hown : s.vm.findClass RX5 = some m.cls := findClass_of_methodNamed B.named
  have hlocks := B.notSynchronized
  subst hsz
  have hD := hD0.self (sz := s.heap.size)
  generalize hAe : va_A (sw_X5_isSo cI cJ cZ gh g_acts g_kind g_na g_nb g_nc g_nd g_ne g_dropped g_live g_low g_high ga_sites ga_nulls ga_there ga_lanes ga_least ga_most ga_placeLow ga_placeHigh g_reached g_mayThrow g_status g_hasRun g_threw g_whereThrown g_value ga_means ga_laneOf ga_sizeOf ga_cells g_copied g_state g_joinedLow g_joinedHigh g_keptLow g_keptHigh gc_sites gc_nulls gc_there gc_lanes gc_least gc_most gc_placeLow gc_placeHigh gc_means gc_laneOf gc_sizeOf gc_cells ra) s.heap.size = A at hD ⊢
  have hA : ∀ q : Nat, s.heap.size ≤ q → A q := fun q h => by rw [← hAe]; exact Or.inr h
  clear hAe hD0
  have hS : va_S A s.heap s.heap [] := va_S.rf
  replace hP : va_P (dC, dI) vwCl [(gh, .inr (5, [.int g_acts, g_kind, g_na, g_nb, g_nc, g_nd, g_ne, g_dropped, g_live, g_low, g_high, .ref ga_sites, .ref ga_nulls, .ref ga_there, .ref ga_lanes, .ref ga_least, .ref ga_most, .ref ga_placeLow, .ref ga_placeHigh, g_reached, g_mayThrow, .int g_status, .int g_hasRun, .int g_threw, .int g_whereThrown, g_value, .ref ga_means, .ref ga_laneOf, .ref ga_sizeOf, .ref ga_cells, g_copied, .long g_state, .long g_joinedLow, .long g_joinedHigh, g_keptLow, g_keptHigh])), (ga_sites, .inl (cJ, 12, .inr (.inl gc_sites))), (ga_nulls, .inl (cZ, 12, .inl gc_nulls)), (ga_there, .inl (cZ, 80, .inl gc_there)), (ga_lanes, .inl (cI, 80, .inl gc_lanes)), (ga_least, .inl (cJ, 80, .inr (.inl gc_least))), (ga_most, .inl (cJ, 80, .inr (.inl gc_most))), (ga_placeLow, .inl (cJ, 960, .inr (.inl gc_placeLow))), (ga_placeHigh, .inl (cJ, 960, .inr (.inl gc_placeHigh))), (ga_means, .inl (cI, 6, .inl gc_means)), (ga_laneOf, .inl (cI, 40, .inl gc_laneOf)), (ga_sizeOf, .inl (cI, 40, .inl gc_sizeOf)), (ga_cells, .inl (cI, 480, .inl gc_cells))] s.heap := hP
  replace hD : va_D A [(gh, .inr (5, [.int g_acts, g_kind, g_na, g_nb, g_nc, g_nd, g_ne, g_dropped, g_live, g_low, g_high, .ref ga_sites, .ref ga_nulls, .ref ga_there, .ref ga_lanes, .ref ga_least, .ref ga_most, .ref ga_placeLow, .ref ga_placeHigh, g_reached, g_mayThrow, .int g_status, .int g_hasRun, .int g_threw, .int g_whereThrown, g_value, .ref ga_means, .ref ga_laneOf, .ref ga_sizeOf, .ref ga_cells, g_copied, .long g_state, .long g_joinedLow, .long g_joinedHigh, g_keptLow, g_keptHigh])), (ga_sites, .inl (cJ, 12, .inr (.inl gc_sites))), (ga_nulls, .inl (cZ, 12, .inl gc_nulls)), (ga_there, .inl (cZ, 80, .inl gc_there)), (ga_lanes, .inl (cI, 80, .inl gc_lanes)), (ga_least, .inl (cJ, 80, .inr (.inl gc_least))), (ga_most, .inl (cJ, 80, .inr (.inl gc_most))), (ga_placeLow, .inl (cJ, 960, .inr (.inl gc_placeLow))), (ga_placeHigh, .inl (cJ, 960, .inr (.inl gc_placeHigh))), (ga_means, .inl (cI, 6, .inl gc_means)), (ga_laneOf, .inl (cI, 40, .inl gc_laneOf)), (ga_sizeOf, .inl (cI, 40, .inl gc_sizeOf)), (ga_cells, .inl (cI, 480, .inl gc_cells))] := hD
  have hl := lv_entry ([.ref gh, .int ra]) (n := 6) (Nat.le_of_ble_eq_true rfl)
  rw [lg_entry_eq]
  generalize (lg_sl ([.ref gh, .int ra]) ++ List.replicate (6 - (lg_sl ([.ref gh, .int ra])).length) Slot.unset).toArray = ls at hl ⊢
  replace hl : lv_has ls 6 [(0, .ref gh), (1, .int ra)] := hl
  have z_0 : (0 : Int32).toInt = 0 := by decide
  have z_1 : (1 : Int32).toInt = 1 := by decide
  refine lv_aload_n hx hb dX5_isSo_0 rfl (lv_at hl 0 rfl) ?_
  refine va_get (D := (dC, dI)) (ci := 5) (v := .ref ga_means) (C := RX5) (T := TX5) (N := 36) hx hb hts inv_X5_isSo_X5 hown hK hP 0 rfl rfl 26 (by decide) (hts (.fieldLink RX5 75 "ArraySegmentsModel" "means" "[I") (List.mem_of_getElem? (i := 1) rfl)) (fun _ h9 => h9) rfl dX5_isSo_1 ?_
  refine lv_iload_n hx hb dX5_isSo_4 rfl (lv_at hl 1 rfl) ?_
  refine sf_iald kSITE hx hb hK hP 9 0 rfl rfl h_gc_means (vp_in_iff.mpr ⟨by omega, by omega⟩) dX5_isSo_5 (fun v_1 q_v_1 e_v_1 => ?_)
  have et_v_1 : v_1.toInt = (gc_means (ra).toNatClampNeg).toInt := by rw [e_v_1]
  have ni_2 := nn_cl (z := ra) (by omega)
  refine lv_istore_n (lv' := [(2, .int v_1), (0, .ref gh), (1, .int ra)]) hx hb dX5_isSo_6 rfl hl (by decide) rfl (fun ls1 hl1 => ?_)
  replace hl := hl1; clear hl1
  refine lv_iload_n hx hb dX5_isSo_7 rfl (lv_at hl 0 rfl) ?_
  refine lv_if_ge (tgt := 18) hx hb dX5_isSo_8 (by decide) (fun c_3 => ?_) (fun c_3 => ?_)
  · -- yes
    have k_3 : (0 : Int32).toInt ≤ v_1.toInt := ci_ge c_3
    have hs := (show ((gc_means (ra).toNatClampNeg).toInt < 0 → ¬ (gc_nulls (ra).toNatClampNeg).toInt = 0) ∧ (0 ≤ (gc_means (ra).toNatClampNeg).toInt → sbit (gc_sites (ra).toNatClampNeg) ((gc_means (ra).toNatClampNeg)).toNatClampNeg ∧ siC gc_there gc_lanes (fun j => (gc_least j).toInt) (fun j => (gc_most j).toInt) (fun j => (gc_placeLow j).toInt) (fun j => (gc_placeHigh j).toInt) gc_laneOf gc_sizeOf gc_cells ((gc_means (ra).toNatClampNeg)).toNatClampNeg) from hy_h).2 (by omega)
    rw [← e_v_1] at hs
    have nm := nn_cl (z := v_1) (by omega)
    have hs3 := hs.2.2.2.1
    have hs4 := hs.2.2.2.2.1
    dsimp only at hs3 hs4
    refine lv_aload_n hx hb dX5_isSo_18 rfl (lv_at hl 1 rfl) ?_
    refine lv_iload_n hx hb dX5_isSo_19 rfl (lv_at hl 2 rfl) ?_
    refine lv_iload_n hx hb dX5_isSo_20 rfl (lv_at hl 0 rfl) ?_
    have hPc := hP.sub (ws' := [(gh, .inr (5, [.int g_acts, g_kind, g_na, g_nb, g_nc, g_nd, g_ne, g_dropped, g_live, g_low, g_high, .ref ga_sites, .ref ga_nulls, .ref ga_there, .ref ga_lanes, .ref ga_least, .ref ga_most, .ref ga_placeLow, .ref ga_placeHigh, g_reached, g_mayThrow, .int g_status, .int g_hasRun, .int g_threw, .int g_whereThrown, g_value, .ref ga_means, .ref ga_laneOf, .ref ga_sizeOf, .ref ga_cells, g_copied, .long g_state, .long g_joinedLow, .long g_joinedHigh, g_keptLow, g_keptHigh])), (ga_sites, .inl (cJ, 12, .inr (.inl gc_sites)))]) [0, 1] rfl
    have hDc := hD.sub (ws' := [(gh, .inr (5, [.int g_acts, g_kind, g_na, g_nb, g_nc, g_nd, g_ne, g_dropped, g_live, g_low, g_high, .ref ga_sites, .ref ga_nulls, .ref ga_there, .ref ga_lanes, .ref ga_least, .ref ga_most, .ref ga_placeLow, .ref ga_placeHigh, g_reached, g_mayThrow, .int g_status, .int g_hasRun, .int g_threw, .int g_whereThrown, g_value, .ref ga_means, .ref ga_laneOf, .ref ga_sizeOf, .ref ga_cells, g_copied, .long g_state, .long g_joinedLow, .long g_joinedHigh, g_keptLow, g_keptHigh])), (ga_sites, .inl (cJ, 12, .inr (.inl gc_sites)))]) [0, 1] (by decide) rfl
    have hFc := va_free (wc := [(gh, .inr (5, [.int g_acts, g_kind, g_na, g_nb, g_nc, g_nd, g_ne, g_dropped, g_live, g_low, g_high, .ref ga_sites, .ref ga_nulls, .ref ga_there, .ref ga_lanes, .ref ga_least, .ref ga_most, .ref ga_placeLow, .ref ga_placeHigh, g_reached, g_mayThrow, .int g_status, .int g_hasRun, .int g_threw, .int g_whereThrown, g_value, .ref ga_means, .ref ga_laneOf, .ref ga_sizeOf, .ref ga_cells, g_copied, .long g_state, .long g_joinedLow, .long g_joinedHigh, g_keptLow, g_keptHigh])), (ga_sites, .inl (cJ, 12, .inr (.inl gc_sites)))]) hD hS hA [0, 1] rfl
    refine va_calli (va_runV (As := [.int ra, .int v_1]) (rest := []) ⟨hx, hb, hml, hown, hts⟩ (s_X5_has l dC dI cI cJ cZ gh g_acts g_kind g_na g_nb g_nc g_nd g_ne g_dropped g_live g_low g_high ga_sites (.ref ga_nulls) (.ref ga_there) (.ref ga_lanes) (.ref ga_least) (.ref ga_most) (.ref ga_placeLow) (.ref ga_placeHigh) g_reached g_mayThrow g_status g_hasRun g_threw g_whereThrown g_value (.ref ga_means) (.ref ga_laneOf) (.ref ga_sizeOf) (.ref ga_cells) g_copied g_state g_joinedLow g_joinedHigh g_keptLow g_keptHigh gc_sites ra v_1 s.heap.size q_g_hasRun (by first | assumption | omega) (by first | assumption | omega)) (cwV 2 hts h_X5_isSo_X5_has_169 rfl rfl rfl (by decide +kernel) ⟨Nat.le_of_ble_eq_true rfl, Nat.le_of_ble_eq_true rfl⟩) ⟨cPre_blind, va_recv hK hPc (ci := 5) (q0 := 0) rfl rfl, cPre_of hK hN hPc hDc⟩ rfl rfl hl.1 rfl (lv_room (Nat.le_of_ble_eq_true rfl)) dX5_isSo_21 ⟨Nat.le_of_ble_eq_true rfl, Nat.le_of_ble_eq_true rfl⟩) hS (fun q _ h => hFc q h) hFc (fun r_4 u_4 t_4 H_4 locs_4 ht hvm hw_4 hB hz1 hk1 hS1 => ?_)
    obtain ⟨hP1, hK1, hD1⟩ := hB
    rw [ht] at hP1
    obtain ⟨hP2, hD2⟩ := va_join (wr := [(ga_nulls, .inl (cZ, 12, .inl gc_nulls)), (ga_there, .inl (cZ, 80, .inl gc_there)), (ga_lanes, .inl (cI, 80, .inl gc_lanes)), (ga_least, .inl (cJ, 80, .inr (.inl gc_least))), (ga_most, .inl (cJ, 80, .inr (.inl gc_most))), (ga_placeLow, .inl (cJ, 960, .inr (.inl gc_placeLow))), (ga_placeHigh, .inl (cJ, 960, .inr (.inl gc_placeHigh))), (ga_means, .inl (cI, 6, .inl gc_means)), (ga_laneOf, .inl (cI, 40, .inl gc_laneOf)), (ga_sizeOf, .inl (cI, 40, .inl gc_sizeOf)), (ga_cells, .inl (cI, 480, .inl gc_cells))]) (w1 := [(gh, .inr (5, [.int g_acts, g_kind, g_na, g_nb, g_nc, g_nd, g_ne, g_dropped, g_live, g_low, g_high, .ref ga_sites, .ref ga_nulls, .ref ga_there, .ref ga_lanes, .ref ga_least, .ref ga_most, .ref ga_placeLow, .ref ga_placeHigh, g_reached, g_mayThrow, .int g_status, .int g_hasRun, .int g_threw, .int g_whereThrown, g_value, .ref ga_means, .ref ga_laneOf, .ref ga_sizeOf, .ref ga_cells, g_copied, .long g_state, .long g_joinedLow, .long g_joinedHigh, g_keptLow, g_keptHigh])), (ga_sites, .inl (cJ, 12, .inr (.inl gc_sites)))]) hP hD [0, 1] [2, 3, 4, 5, 6, 7, 8, 9, 10, 11, 12] rfl rfl (by decide) (by decide) hk1 hFc hP1 hD1
    clear hPc hDc hFc hP1 hD1 hK1 hk1 hz1 hvm ht
    replace hP : va_P (dC, dI) vwCl [(ga_nulls, .inl (cZ, 12, .inl gc_nulls)), (ga_there, .inl (cZ, 80, .inl gc_there)), (ga_lanes, .inl (cI, 80, .inl gc_lanes)), (ga_least, .inl (cJ, 80, .inr (.inl gc_least))), (ga_most, .inl (cJ, 80, .inr (.inl gc_most))), (ga_placeLow, .inl (cJ, 960, .inr (.inl gc_placeLow))), (ga_placeHigh, .inl (cJ, 960, .inr (.inl gc_placeHigh))), (ga_means, .inl (cI, 6, .inl gc_means)), (ga_laneOf, .inl (cI, 40, .inl gc_laneOf)), (ga_sizeOf, .inl (cI, 40, .inl gc_sizeOf)), (ga_cells, .inl (cI, 480, .inl gc_cells)), (gh, .inr (5, [.int g_acts, g_kind, g_na, g_nb, g_nc, g_nd, g_ne, g_dropped, g_live, g_low, g_high, .ref ga_sites, .ref ga_nulls, .ref ga_there, .ref ga_lanes, .ref ga_least, .ref ga_most, .ref ga_placeLow, .ref ga_placeHigh, g_reached, g_mayThrow, .int g_status, .int g_hasRun, .int g_threw, .int g_whereThrown, g_value, .ref ga_means, .ref ga_laneOf, .ref ga_sizeOf, .ref ga_cells, g_copied, .long g_state, .long g_joinedLow, .long g_joinedHigh, g_keptLow, g_keptHigh])), (ga_sites, .inl (cJ, 12, .inr (.inl gc_sites)))] H_4 := hP2
    replace hD : va_D A [(ga_nulls, .inl (cZ, 12, .inl gc_nulls)), (ga_there, .inl (cZ, 80, .inl gc_there)), (ga_lanes, .inl (cI, 80, .inl gc_lanes)), (ga_least, .inl (cJ, 80, .inr (.inl gc_least))), (ga_most, .inl (cJ, 80, .inr (.inl gc_most))), (ga_placeLow, .inl (cJ, 960, .inr (.inl gc_placeLow))), (ga_placeHigh, .inl (cJ, 960, .inr (.inl gc_placeHigh))), (ga_means, .inl (cI, 6, .inl gc_means)), (ga_laneOf, .inl (cI, 40, .inl gc_laneOf)), (ga_sizeOf, .inl (cI, 40, .inl gc_sizeOf)), (ga_cells, .inl (cI, 480, .inl gc_cells)), (gh, .inr (5, [.int g_acts, g_kind, g_na, g_nb, g_nc, g_nd, g_ne, g_dropped, g_live, g_low, g_high, .ref ga_sites, .ref ga_nulls, .ref ga_there, .ref ga_lanes, .ref ga_least, .ref ga_most, .ref ga_placeLow, .ref ga_placeHigh, g_reached, g_mayThrow, .int g_status, .int g_hasRun, .int g_threw, .int g_whereThrown, g_value, .ref ga_means, .ref ga_laneOf, .ref ga_sizeOf, .ref ga_cells, g_copied, .long g_state, .long g_joinedLow, .long g_joinedHigh, g_keptLow, g_keptHigh])), (ga_sites, .inl (cJ, 12, .inr (.inl gc_sites)))] := hD2
    replace hS := hS1
    clear hP2 hD2 hS1
    replace hw_4 : (two r_4 (sbit (gc_sites (ra).toNatClampNeg) (v_1).toNatClampNeg) 1 0) := hw_4
    have q_r_4 := hw_4
    refine lv_if_eq (tgt := 84) hx hb dX5_isSo_24 (by decide) (fun c_5 => ?_) (fun c_5 => ?_)
    · -- yes
      have k_5 : r_4.toInt = (0 : Int32).toInt := ci_eq c_5
      have kt_5 : ¬ (sbit (gc_sites (ra).toNatClampNeg) (v_1).toNatClampNeg) := two_z q_r_4 c_5
      exact absurd hs.1 kt_5
    · -- no
      have k_5 : ¬ r_4.toInt = (0 : Int32).toInt := ci_ne c_5
      have kt_5 : sbit (gc_sites (ra).toNatClampNeg) (v_1).toNatClampNeg := two_nz q_r_4 c_5
      refine lv_aload_n hx hb dX5_isSo_27 rfl (lv_at hl 1 rfl) ?_
      refine va_get (D := (dC, dI)) (ci := 5) (v := .ref ga_lanes) (C := RX5) (T := TX5) (N := 36) hx hb hts inv_X5_isSo_X5 hown hK hP 11 rfl rfl 14 (by decide) (hts (.fieldLink RX5 51 "ArraySegmentsModel" "lanes" "[I") (List.mem_of_getElem? (i := 6) rfl)) (fun _ h9 => h9) rfl dX5_isSo_28 ?_
      refine lv_iload_n hx hb dX5_isSo_31 rfl (lv_at hl 0 rfl) ?_
      refine sf_iald kL7 hx hb hK hP 2 0 rfl rfl h_gc_lanes (vp_in_iff.mpr ⟨by omega, by omega⟩) dX5_isSo_32 (fun v_6 q_v_6 e_v_6 => ?_)
      have et_v_6 : v_6.toInt = (gc_lanes (v_1).toNatClampNeg).toInt := by rw [e_v_6]
      have ni_7 := nn_cl (z := v_1) (by omega)
      refine lv_aload_n hx hb dX5_isSo_33 rfl (lv_at hl 1 rfl) ?_
      refine va_get (D := (dC, dI)) (ci := 5) (v := .ref ga_laneOf) (C := RX5) (T := TX5) (N := 36) hx hb hts inv_X5_isSo_X5 hown hK hP 11 rfl rfl 27 (by decide) (hts (.fieldLink RX5 78 "ArraySegmentsModel" "laneOf" "[I") (List.mem_of_getElem? (i := 7) rfl)) (fun _ h9 => h9) rfl dX5_isSo_34 ?_
      refine lv_iload_n hx hb dX5_isSo_37 rfl (lv_at hl 0 rfl) ?_
      refine sf_iald kL3 hx hb hK hP 8 0 rfl rfl h_gc_laneOf (vp_in_iff.mpr ⟨by omega, by omega⟩) dX5_isSo_38 (fun v_8 q_v_8 e_v_8 => ?_)
      have et_v_8 : v_8.toInt = (gc_laneOf (v_1).toNatClampNeg).toInt := by rw [e_v_8]
      have ni_9 := nn_cl (z := v_1) (by omega)
      refine lv_ishr hx hb dX5_isSo_39 ?_
      refine lv_topi (fun v_10 e_v_10 => ?_)
      refine lv_iconst (v := 1) hx hb dX5_isSo_40 (by decide) ?_
      refine lv_iand hx hb dX5_isSo_41 ?_
      refine lv_topi (fun v_11 e_v_11 => ?_)
      refine lv_iconst (v := 1) hx hb dX5_isSo_42 (by decide) ?_
      refine lv_icmp_ne (tgt := 84) hx hb dX5_isSo_43 (by decide) (fun c_12 => ?_) (fun c_12 => ?_)
      · -- yes
        have k_12 : ¬ v_11.toInt = (1 : Int32).toInt := ci_ne c_12
        exact absurd hs.2.2.1 (by have b0 := lb_shr (x := v_6) (l := v_8) ⟨by omega, by omega⟩ e_v_10 e_v_11; rw [e_v_6, e_v_8] at b0; exact (b0.resolve_left (fun h => by omega)).2)
      · -- no
        have k_12 : v_11.toInt = (1 : Int32).toInt := ci_eq c_12
        refine lv_aload_n hx hb dX5_isSo_46 rfl (lv_at hl 1 rfl) ?_
        refine va_get (D := (dC, dI)) (ci := 5) (v := .ref ga_sizeOf) (C := RX5) (T := TX5) (N := 36) hx hb hts inv_X5_isSo_X5 hown hK hP 11 rfl rfl 28 (by decide) (hts (.fieldLink RX5 81 "ArraySegmentsModel" "sizeOf" "[I") (List.mem_of_getElem? (i := 8) rfl)) (fun _ h9 => h9) rfl dX5_isSo_47 ?_
        refine lv_iload_n hx hb dX5_isSo_50 rfl (lv_at hl 0 rfl) ?_
        refine sf_iald kR012 hx hb hK hP 9 0 rfl rfl h_gc_sizeOf (vp_in_iff.mpr ⟨by omega, by omega⟩) dX5_isSo_51 (fun v_13 q_v_13 e_v_13 => ?_)
        have et_v_13 : v_13.toInt = (gc_sizeOf (v_1).toNatClampNeg).toInt := by rw [e_v_13]
        have ni_14 := nn_cl (z := v_1) (by omega)
        refine sf_i2l hx hb dX5_isSo_52 (fun v_15 q_v_15 => ?_)
        refine lv_aload_n hx hb dX5_isSo_53 rfl (lv_at hl 1 rfl) ?_
        refine va_get (D := (dC, dI)) (ci := 5) (v := .ref ga_least) (C := RX5) (T := TX5) (N := 36) hx hb hts inv_X5_isSo_X5 hown hK hP 11 rfl rfl 15 (by decide) (hts (.fieldLink RX5 54 "ArraySegmentsModel" "least" "[J") (List.mem_of_getElem? (i := 9) rfl)) (fun _ h9 => h9) rfl dX5_isSo_54 ?_
        refine lv_iload_n hx hb dX5_isSo_57 rfl (lv_at hl 0 rfl) ?_
        refine sf_lald lGE hx hb hK hP 3 1 rfl rfl h_gc_least (vp_in_iff.mpr ⟨by omega, by omega⟩) dX5_isSo_58 (fun v_16 q_v_16 e_v_16 => ?_)
        have et_v_16 : v_16.toInt = (gc_least (v_1).toNatClampNeg).toInt := by rw [e_v_16]
        have ni_17 := nn_cl (z := v_1) (by omega)
        refine W.lcmp hx hb dX5_isSo_59 ?_
        refine lv_if_lt (tgt := 84) hx hb dX5_isSo_60 (by decide) (fun c_18 => ?_) (fun c_18 => ?_)
        · -- yes
          have k_18 : v_15.toInt < v_16.toInt := lc_lt c_18
          exfalso; omega
        · -- no
          have k_18 : v_16.toInt ≤ v_15.toInt := lc_nlt c_18
          refine lv_aload_n hx hb dX5_isSo_63 rfl (lv_at hl 1 rfl) ?_
          refine va_get (D := (dC, dI)) (ci := 5) (v := .ref ga_sizeOf) (C := RX5) (T := TX5) (N := 36) hx hb hts inv_X5_isSo_X5 hown hK hP 11 rfl rfl 28 (by decide) (hts (.fieldLink RX5 81 "ArraySegmentsModel" "sizeOf" "[I") (List.mem_of_getElem? (i := 8) rfl)) (fun _ h9 => h9) rfl dX5_isSo_64 ?_
          refine lv_iload_n hx hb dX5_isSo_67 rfl (lv_at hl 0 rfl) ?_
          refine sf_iald kR012 hx hb hK hP 9 0 rfl rfl h_gc_sizeOf (vp_in_iff.mpr ⟨by omega, by omega⟩) dX5_isSo_68 (fun v_19 q_v_19 e_v_19 => ?_)
          have et_v_19 : v_19.toInt = (gc_sizeOf (v_1).toNatClampNeg).toInt := by rw [e_v_19]
          have ni_20 := nn_cl (z := v_1) (by omega)
          refine sf_i2l hx hb dX5_isSo_69 (fun v_21 q_v_21 => ?_)
          refine lv_aload_n hx hb dX5_isSo_70 rfl (lv_at hl 1 rfl) ?_
          refine va_get (D := (dC, dI)) (ci := 5) (v := .ref ga_most) (C := RX5) (T := TX5) (N := 36) hx hb hts inv_X5_isSo_X5 hown hK hP 11 rfl rfl 16 (by decide) (hts (.fieldLink RX5 57 "ArraySegmentsModel" "most" "[J") (List.mem_of_getElem? (i := 10) rfl)) (fun _ h9 => h9) rfl dX5_isSo_71 ?_
          refine lv_iload_n hx hb dX5_isSo_74 rfl (lv_at hl 0 rfl) ?_
          refine sf_lald l12 hx hb hK hP 4 1 rfl rfl h_gc_most (vp_in_iff.mpr ⟨by omega, by omega⟩) dX5_isSo_75 (fun v_22 q_v_22 e_v_22 => ?_)
          have et_v_22 : v_22.toInt = (gc_most (v_1).toNatClampNeg).toInt := by rw [e_v_22]
          have ni_23 := nn_cl (z := v_1) (by omega)
          refine W.lcmp hx hb dX5_isSo_76 ?_
          refine lv_if_gt (tgt := 84) hx hb dX5_isSo_77 (by decide) (fun c_24 => ?_) (fun c_24 => ?_)
          · -- yes
            have k_24 : v_22.toInt < v_21.toInt := lc_gt c_24
            exfalso; omega
          · -- no
            have k_24 : v_21.toInt ≤ v_22.toInt := lc_ngt c_24
            refine lv_iconst (v := 1) hx hb dX5_isSo_80 (by decide) ?_
            refine lv_goto (tgt := 85) hx hb dX5_isSo_81 (by decide) ?_
            refine lv_istore_n (lv' := [(3, .int 1), (2, .int v_1), (0, .ref gh), (1, .int ra)]) hx hb dX5_isSo_85 rfl hl (by decide) rfl (fun ls1 hl1 => ?_)
            replace hl := hl1; clear hl1
            refine lv_iconst (v := 0) hx hb dX5_isSo_86 (by decide) ?_
            refine lv_istore (lv' := [(4, .int 0), (3, .int 1), (2, .int v_1), (0, .ref gh), (1, .int ra)]) hx hb dX5_isSo_87 hl (by decide) rfl (fun ls1 hl1 => ?_)
            replace hl := hl1; clear hl1
            refine my_wloop (S := Int32 × Int32) (fun u => (0 ≤ (u.1).toInt ∧ (u.1).toInt ≤ 12) ∧ (1 ≤ (u.2).toInt ∧ (u.2).toInt ≤ 1) ∧ (¬ (u.2).toInt = 0)) (fun u => (12 - (u.1).toInt).toNat) (fun u => [(ga_nulls, .inl (cZ, 12, .inl gc_nulls)), (ga_there, .inl (cZ, 80, .inl gc_there)), (ga_lanes, .inl (cI, 80, .inl gc_lanes)), (ga_least, .inl (cJ, 80, .inr (.inl gc_least))), (ga_most, .inl (cJ, 80, .inr (.inl gc_most))), (ga_placeLow, .inl (cJ, 960, .inr (.inl gc_placeLow))), (ga_placeHigh, .inl (cJ, 960, .inr (.inl gc_placeHigh))), (ga_means, .inl (cI, 6, .inl gc_means)), (ga_laneOf, .inl (cI, 40, .inl gc_laneOf)), (ga_sizeOf, .inl (cI, 40, .inl gc_sizeOf)), (ga_cells, .inl (cI, 480, .inl gc_cells)), (gh, .inr (5, [.int g_acts, g_kind, g_na, g_nb, g_nc, g_nd, g_ne, g_dropped, g_live, g_low, g_high, .ref ga_sites, .ref ga_nulls, .ref ga_there, .ref ga_lanes, .ref ga_least, .ref ga_most, .ref ga_placeLow, .ref ga_placeHigh, g_reached, g_mayThrow, .int g_status, .int g_hasRun, .int g_threw, .int g_whereThrown, g_value, .ref ga_means, .ref ga_laneOf, .ref ga_sizeOf, .ref ga_cells, g_copied, .long g_state, .long g_joinedLow, .long g_joinedHigh, g_keptLow, g_keptHigh])), (ga_sites, .inl (cJ, 12, .inr (.inl gc_sites)))]) (fun u => [(4, .int (u.1)), (3, .int (u.2)), (2, .int v_1), (0, .ref gh), (1, .int ra)]) (H0 := s.heap) (A := A) (D := (dC, dI)) (cl := vwCl) ((0 : Int32), (1 : Int32)) (show (0 ≤ (0 : Int32).toInt ∧ (0 : Int32).toInt ≤ 12) ∧ (1 ≤ (1 : Int32).toInt ∧ (1 : Int32).toInt ≤ 1) ∧ (¬ (1 : Int32).toInt = 0) from ⟨⟨by omega, by omega⟩, ⟨by omega, by omega⟩, (by decide)⟩) (by exact hP) (by exact hD) hS (by exact hl) (fun u_25 hu_25 ih_25 H_25 locs_25 ls1 hP1 hD1 hS1 hl1 => ?_)
            obtain ⟨v_26, v_27⟩ := u_25
            replace hu_25 : (0 ≤ v_26.toInt ∧ v_26.toInt ≤ 12) ∧ (1 ≤ v_27.toInt ∧ v_27.toInt ≤ 1) ∧ (¬ v_27.toInt = 0) := hu_25
            obtain ⟨q_v_26, q_v_27, x_25_0⟩ := hu_25
            replace hP : va_P (dC, dI) vwCl [(ga_nulls, .inl (cZ, 12, .inl gc_nulls)), (ga_there, .inl (cZ, 80, .inl gc_there)), (ga_lanes, .inl (cI, 80, .inl gc_lanes)), (ga_least, .inl (cJ, 80, .inr (.inl gc_least))), (ga_most, .inl (cJ, 80, .inr (.inl gc_most))), (ga_placeLow, .inl (cJ, 960, .inr (.inl gc_placeLow))), (ga_placeHigh, .inl (cJ, 960, .inr (.inl gc_placeHigh))), (ga_means, .inl (cI, 6, .inl gc_means)), (ga_laneOf, .inl (cI, 40, .inl gc_laneOf)), (ga_sizeOf, .inl (cI, 40, .inl gc_sizeOf)), (ga_cells, .inl (cI, 480, .inl gc_cells)), (gh, .inr (5, [.int g_acts, g_kind, g_na, g_nb, g_nc, g_nd, g_ne, g_dropped, g_live, g_low, g_high, .ref ga_sites, .ref ga_nulls, .ref ga_there, .ref ga_lanes, .ref ga_least, .ref ga_most, .ref ga_placeLow, .ref ga_placeHigh, g_reached, g_mayThrow, .int g_status, .int g_hasRun, .int g_threw, .int g_whereThrown, g_value, .ref ga_means, .ref ga_laneOf, .ref ga_sizeOf, .ref ga_cells, g_copied, .long g_state, .long g_joinedLow, .long g_joinedHigh, g_keptLow, g_keptHigh])), (ga_sites, .inl (cJ, 12, .inr (.inl gc_sites)))] H_25 := hP1
            replace hD : va_D A [(ga_nulls, .inl (cZ, 12, .inl gc_nulls)), (ga_there, .inl (cZ, 80, .inl gc_there)), (ga_lanes, .inl (cI, 80, .inl gc_lanes)), (ga_least, .inl (cJ, 80, .inr (.inl gc_least))), (ga_most, .inl (cJ, 80, .inr (.inl gc_most))), (ga_placeLow, .inl (cJ, 960, .inr (.inl gc_placeLow))), (ga_placeHigh, .inl (cJ, 960, .inr (.inl gc_placeHigh))), (ga_means, .inl (cI, 6, .inl gc_means)), (ga_laneOf, .inl (cI, 40, .inl gc_laneOf)), (ga_sizeOf, .inl (cI, 40, .inl gc_sizeOf)), (ga_cells, .inl (cI, 480, .inl gc_cells)), (gh, .inr (5, [.int g_acts, g_kind, g_na, g_nb, g_nc, g_nd, g_ne, g_dropped, g_live, g_low, g_high, .ref ga_sites, .ref ga_nulls, .ref ga_there, .ref ga_lanes, .ref ga_least, .ref ga_most, .ref ga_placeLow, .ref ga_placeHigh, g_reached, g_mayThrow, .int g_status, .int g_hasRun, .int g_threw, .int g_whereThrown, g_value, .ref ga_means, .ref ga_laneOf, .ref ga_sizeOf, .ref ga_cells, g_copied, .long g_state, .long g_joinedLow, .long g_joinedHigh, g_keptLow, g_keptHigh])), (ga_sites, .inl (cJ, 12, .inr (.inl gc_sites)))] := hD1
            replace hS := hS1
            clear hP1 hD1 hS1
            replace hl : lv_has ls1 6 [(4, .int v_26), (3, .int v_27), (2, .int v_1), (0, .ref gh), (1, .int ra)] := hl1
            clear hl1
            refine lv_iload hx hb dX5_isSo_89 (lv_at hl 0 rfl) ?_
            refine lv_aload_n hx hb dX5_isSo_91 rfl (lv_at hl 3 rfl) ?_
            refine va_get (D := (dC, dI)) (ci := 5) (v := .ref ga_sizeOf) (C := RX5) (T := TX5) (N := 36) hx hb hts inv_X5_isSo_X5 hown hK hP 11 rfl rfl 28 (by decide) (hts (.fieldLink RX5 81 "ArraySegmentsModel" "sizeOf" "[I") (List.mem_of_getElem? (i := 8) rfl)) (fun _ h9 => h9) rfl dX5_isSo_92 ?_
            refine lv_iload_n hx hb dX5_isSo_95 rfl (lv_at hl 2 rfl) ?_
            refine sf_iald kR012 hx hb hK hP 9 0 rfl rfl h_gc_sizeOf (vp_in_iff.mpr ⟨by omega, by omega⟩) dX5_isSo_96 (fun v_28 q_v_28 e_v_28 => ?_)
            have et_v_28 : v_28.toInt = (gc_sizeOf (v_1).toNatClampNeg).toInt := by rw [e_v_28]
            have ni_29 := nn_cl (z := v_1) (by omega)
            refine lv_icmp_ge (tgt := 168) hx hb dX5_isSo_97 (by decide) (fun c_30 => ?_) (fun c_30 => ?_)
            · -- yes
              have k_30 : v_28.toInt ≤ v_26.toInt := ci_ge c_30
              refine lv_iload_n hx hb dX5_isSo_168 rfl (lv_at hl 1 rfl) ?_
              have hP9 := hP.sub (ws' := [(gh, .inr (5, [.int g_acts, g_kind, g_na, g_nb, g_nc, g_nd, g_ne, g_dropped, g_live, g_low, g_high, .ref ga_sites, .ref ga_nulls, .ref ga_there, .ref ga_lanes, .ref ga_least, .ref ga_most, .ref ga_placeLow, .ref ga_placeHigh, g_reached, g_mayThrow, .int g_status, .int g_hasRun, .int g_threw, .int g_whereThrown, g_value, .ref ga_means, .ref ga_laneOf, .ref ga_sizeOf, .ref ga_cells, g_copied, .long g_state, .long g_joinedLow, .long g_joinedHigh, g_keptLow, g_keptHigh])), (ga_sites, .inl (cJ, 12, .inr (.inl gc_sites))), (ga_nulls, .inl (cZ, 12, .inl gc_nulls)), (ga_there, .inl (cZ, 80, .inl gc_there)), (ga_lanes, .inl (cI, 80, .inl gc_lanes)), (ga_least, .inl (cJ, 80, .inr (.inl gc_least))), (ga_most, .inl (cJ, 80, .inr (.inl gc_most))), (ga_placeLow, .inl (cJ, 960, .inr (.inl gc_placeLow))), (ga_placeHigh, .inl (cJ, 960, .inr (.inl gc_placeHigh))), (ga_means, .inl (cI, 6, .inl gc_means)), (ga_laneOf, .inl (cI, 40, .inl gc_laneOf)), (ga_sizeOf, .inl (cI, 40, .inl gc_sizeOf)), (ga_cells, .inl (cI, 480, .inl gc_cells))]) [11, 12, 0, 1, 2, 3, 4, 5, 6, 7, 8, 9, 10] rfl
              have hD9 := hD.sub (ws' := [(gh, .inr (5, [.int g_acts, g_kind, g_na, g_nb, g_nc, g_nd, g_ne, g_dropped, g_live, g_low, g_high, .ref ga_sites, .ref ga_nulls, .ref ga_there, .ref ga_lanes, .ref ga_least, .ref ga_most, .ref ga_placeLow, .ref ga_placeHigh, g_reached, g_mayThrow, .int g_status, .int g_hasRun, .int g_threw, .int g_whereThrown, g_value, .ref ga_means, .ref ga_laneOf, .ref ga_sizeOf, .ref ga_cells, g_copied, .long g_state, .long g_joinedLow, .long g_joinedHigh, g_keptLow, g_keptHigh])), (ga_sites, .inl (cJ, 12, .inr (.inl gc_sites))), (ga_nulls, .inl (cZ, 12, .inl gc_nulls)), (ga_there, .inl (cZ, 80, .inl gc_there)), (ga_lanes, .inl (cI, 80, .inl gc_lanes)), (ga_least, .inl (cJ, 80, .inr (.inl gc_least))), (ga_most, .inl (cJ, 80, .inr (.inl gc_most))), (ga_placeLow, .inl (cJ, 960, .inr (.inl gc_placeLow))), (ga_placeHigh, .inl (cJ, 960, .inr (.inl gc_placeHigh))), (ga_means, .inl (cI, 6, .inl gc_means)), (ga_laneOf, .inl (cI, 40, .inl gc_laneOf)), (ga_sizeOf, .inl (cI, 40, .inl gc_sizeOf)), (ga_cells, .inl (cI, 480, .inl gc_cells))]) [11, 12, 0, 1, 2, 3, 4, 5, 6, 7, 8, 9, 10] (by decide) rfl
              exact W.zret (v := v_27) (ty := .boolean) hx hb hr (nar01 (kz_iv ⟨by omega, by omega⟩)) (fun t ht hW => ⟨⟨v_27, (), rfl, ⟨(show kZ v_27 from (kz_iv ⟨by omega, by omega⟩)), (show ¬ v_27.toInt = 0 from x_25_0)⟩, by rw [ht]; exact hP9, va_K.moved hW.alike hK, hD9⟩, hS.F ht⟩) hS.2.2 dX5_isSo_169
            · -- no
              have k_30 : v_26.toInt < v_28.toInt := ci_nge c_30
              refine lv_iload_n hx hb dX5_isSo_100 rfl (lv_at hl 1 rfl) ?_
              refine lv_if_eq (tgt := 168) hx hb dX5_isSo_101 (by decide) (fun c_31 => ?_) (fun c_31 => ?_)
              · -- yes
                have k_31 : v_27.toInt = (0 : Int32).toInt := ci_eq c_31
                exfalso; omega
              · -- no
                have k_31 : ¬ v_27.toInt = (0 : Int32).toInt := ci_ne c_31
                refine lv_aload_n hx hb dX5_isSo_104 rfl (lv_at hl 3 rfl) ?_
                refine va_get (D := (dC, dI)) (ci := 5) (v := .ref ga_cells) (C := RX5) (T := TX5) (N := 36) hx hb hts inv_X5_isSo_X5 hown hK hP 11 rfl rfl 29 (by decide) (hts (.fieldLink RX5 84 "ArraySegmentsModel" "cells" "[I") (List.mem_of_getElem? (i := 11) rfl)) (fun _ h9 => h9) rfl dX5_isSo_105 ?_
                refine lv_bipush (v := 12) hx hb dX5_isSo_108 (by decide) ?_
                refine lv_iload_n hx hb dX5_isSo_110 rfl (lv_at hl 2 rfl) ?_
                refine sf_imul (w := 12) (z := v_1.toInt) hx hb dX5_isSo_111 (by decide) rfl ⟨by omega, by omega⟩ (fun v_32 q_v_32 => ?_)
                refine lv_iload hx hb dX5_isSo_112 (lv_at hl 0 rfl) ?_
                refine sf_iadd hx hb dX5_isSo_114 ⟨by omega, by omega⟩ (fun v_33 q_v_33 => ?_)
                refine sf_iald kT hx hb hK hP 10 0 rfl rfl (fun _ => trivial) (vp_in_iff.mpr ⟨by omega, by omega⟩) dX5_isSo_115 (fun v_34 q_v_34 e_v_34 => ?_)
                have et_v_34 : v_34.toInt = (gc_cells (v_33).toNatClampNeg).toInt := by rw [e_v_34]
                have ni_35 := nn_cl (z := v_33) (by omega)
                have ir_v_34 := i32r v_34
                rw [show (v_33).toNatClampNeg = 12 * (v_1).toNatClampNeg + (v_26).toNatClampNeg from by have np := nn_cl (z := v_26) (by omega); omega] at et_v_34
                refine lv_istore (lv' := [(5, .int v_34), (4, .int v_26), (3, .int v_27), (2, .int v_1), (0, .ref gh), (1, .int ra)]) hx hb dX5_isSo_116 hl (by decide) rfl (fun ls1 hl1 => ?_)
                replace hl := hl1; clear hl1
                refine lv_iload hx hb dX5_isSo_118 (lv_at hl 0 rfl) ?_
                refine sf_i2l hx hb dX5_isSo_120 (fun v_36 q_v_36 => ?_)
                refine lv_aload_n hx hb dX5_isSo_121 rfl (lv_at hl 4 rfl) ?_
                refine va_get (D := (dC, dI)) (ci := 5) (v := .ref ga_placeLow) (C := RX5) (T := TX5) (N := 36) hx hb hts inv_X5_isSo_X5 hown hK hP 11 rfl rfl 17 (by decide) (hts (.fieldLink RX5 60 "ArraySegmentsModel" "placeLow" "[J") (List.mem_of_getElem? (i := 12) rfl)) (fun _ h9 => h9) rfl dX5_isSo_122 ?_
                refine lv_bipush (v := 12) hx hb dX5_isSo_125 (by decide) ?_
                refine lv_iload_n hx hb dX5_isSo_127 rfl (lv_at hl 3 rfl) ?_
                refine sf_imul (w := 12) (z := v_1.toInt) hx hb dX5_isSo_128 (by decide) rfl ⟨by omega, by omega⟩ (fun v_37 q_v_37 => ?_)
                refine lv_iload hx hb dX5_isSo_129 (lv_at hl 1 rfl) ?_
                refine sf_iadd hx hb dX5_isSo_131 ⟨by omega, by omega⟩ (fun v_38 q_v_38 => ?_)
                refine sf_lald lGE hx hb hK hP 5 1 rfl rfl h_gc_placeLow (vp_in_iff.mpr ⟨by omega, by omega⟩) dX5_isSo_132 (fun v_39 q_v_39 e_v_39 => ?_)
                have et_v_39 : v_39.toInt = (gc_placeLow (v_38).toNatClampNeg).toInt := by rw [e_v_39]
                have ni_40 := nn_cl (z := v_38) (by omega)
                rw [show (v_38).toNatClampNeg = 12 * (v_1).toNatClampNeg + (v_26).toNatClampNeg from by have np := nn_cl (z := v_26) (by omega); omega] at et_v_39
                refine W.lcmp hx hb dX5_isSo_133 ?_
                refine lv_if_lt (tgt := 160) hx hb dX5_isSo_134 (by decide) (fun c_41 => ?_) (fun c_41 => ?_)
                · -- yes
                  have k_41 : v_36.toInt < v_39.toInt := lc_lt c_41
                  exfalso; have np := nn_cl (z := v_26) (by omega); have b0 := hs.2.2.2.2.2 (v_26).toNatClampNeg (by omega); dsimp only at b0; omega
                · -- no
                  have k_41 : v_39.toInt ≤ v_36.toInt := lc_nlt c_41
                  refine lv_iload hx hb dX5_isSo_137 (lv_at hl 0 rfl) ?_
                  refine sf_i2l hx hb dX5_isSo_139 (fun v_42 q_v_42 => ?_)
                  refine lv_aload_n hx hb dX5_isSo_140 rfl (lv_at hl 4 rfl) ?_
                  refine va_get (D := (dC, dI)) (ci := 5) (v := .ref ga_placeHigh) (C := RX5) (T := TX5) (N := 36) hx hb hts inv_X5_isSo_X5 hown hK hP 11 rfl rfl 18 (by decide) (hts (.fieldLink RX5 63 "ArraySegmentsModel" "placeHigh" "[J") (List.mem_of_getElem? (i := 13) rfl)) (fun _ h9 => h9) rfl dX5_isSo_141 ?_
                  refine lv_bipush (v := 12) hx hb dX5_isSo_144 (by decide) ?_
                  refine lv_iload_n hx hb dX5_isSo_146 rfl (lv_at hl 3 rfl) ?_
                  refine sf_imul (w := 12) (z := v_1.toInt) hx hb dX5_isSo_147 (by decide) rfl ⟨by omega, by omega⟩ (fun v_43 q_v_43 => ?_)
                  refine lv_iload hx hb dX5_isSo_148 (lv_at hl 1 rfl) ?_
                  refine sf_iadd hx hb dX5_isSo_150 ⟨by omega, by omega⟩ (fun v_44 q_v_44 => ?_)
                  refine sf_lald lLE hx hb hK hP 6 1 rfl rfl h_gc_placeHigh (vp_in_iff.mpr ⟨by omega, by omega⟩) dX5_isSo_151 (fun v_45 q_v_45 e_v_45 => ?_)
                  have et_v_45 : v_45.toInt = (gc_placeHigh (v_44).toNatClampNeg).toInt := by rw [e_v_45]
                  have ni_46 := nn_cl (z := v_44) (by omega)
                  rw [show (v_44).toNatClampNeg = 12 * (v_1).toNatClampNeg + (v_26).toNatClampNeg from by have np := nn_cl (z := v_26) (by omega); omega] at et_v_45
                  refine W.lcmp hx hb dX5_isSo_152 ?_
                  refine lv_if_gt (tgt := 160) hx hb dX5_isSo_153 (by decide) (fun c_47 => ?_) (fun c_47 => ?_)
                  · -- yes
                    have k_47 : v_45.toInt < v_42.toInt := lc_gt c_47
                    exfalso; have np := nn_cl (z := v_26) (by omega); have b0 := hs.2.2.2.2.2 (v_26).toNatClampNeg (by omega); dsimp only at b0; omega
                  · -- no
                    have k_47 : v_42.toInt ≤ v_45.toInt := lc_ngt c_47
                    refine lv_iconst (v := 1) hx hb dX5_isSo_156 (by decide) ?_
                    refine lv_goto (tgt := 161) hx hb dX5_isSo_157 (by decide) ?_
                    refine lv_istore_n (lv' := [(3, .int 1), (5, .int v_34), (4, .int v_26), (2, .int v_1), (0, .ref gh), (1, .int ra)]) hx hb dX5_isSo_161 rfl hl (by decide) rfl (fun ls1 hl1 => ?_)
                    replace hl := hl1; clear hl1
                    refine sf_iinc hx hb dX5_isSo_162 hl (k := 2) (x := v_26) (w := 1) rfl (by decide) (by decide) ⟨by omega, by omega⟩ (fun v_48 q_v_48 ls1 hl1 => ?_)
                    replace hl : lv_has ls1 6 [(4, .int v_48), (3, .int 1), (5, .int v_34), (2, .int v_1), (0, .ref gh), (1, .int ra)] := hl1
                    clear hl1
                    refine lv_goto (tgt := 89) hx hb dX5_isSo_165 (by decide) ?_
                    exact ih_25 (v_48, (1 : Int32)) (show (0 ≤ v_48.toInt ∧ v_48.toInt ≤ 12) ∧ (1 ≤ (1 : Int32).toInt ∧ (1 : Int32).toInt ≤ 1) ∧ (¬ (1 : Int32).toInt = 0) from ⟨⟨by omega, by omega⟩, ⟨by omega, by omega⟩, (by decide)⟩) (by show (12 - v_48.toInt).toNat < (12 - v_26.toInt).toNat; omega) _ _ _ (hP.sub [0, 1, 2, 3, 4, 5, 6, 7, 8, 9, 10, 11, 12] rfl) (hD.sub [0, 1, 2, 3, 4, 5, 6, 7, 8, 9, 10, 11, 12] (by decide) rfl) hS (lv_sub hl [0, 1, 3, 4, 5] rfl)
  · -- no
    have k_3 : v_1.toInt < (0 : Int32).toInt := ci_nge c_3
    refine lv_aload_n hx hb dX5_isSo_11 rfl (lv_at hl 1 rfl) ?_
    refine va_get (D := (dC, dI)) (ci := 5) (v := .ref ga_nulls) (C := RX5) (T := TX5) (N := 36) hx hb hts inv_X5_isSo_X5 hown hK hP 0 rfl rfl 12 (by decide) (hts (.fieldLink RX5 45 "ArraySegmentsModel" "nulls" "[Z") (List.mem_of_getElem? (i := 14) rfl)) (fun _ h9 => h9) rfl dX5_isSo_12 ?_
    refine lv_iload_n hx hb dX5_isSo_15 rfl (lv_at hl 2 rfl) ?_
    refine sf_zald kZ hx hb hK hP 2 2 rfl rfl h_gc_nulls (vp_in_iff.mpr ⟨by omega, by omega⟩) dX5_isSo_16 (fun v_49 q_v_49 e_v_49 => ?_)
    have et_v_49 : v_49.toInt = (gc_nulls (ra).toNatClampNeg).toInt := by rw [e_v_49]
    have ni_50 := nn_cl (z := ra) (by omega)
    have qi_v_49 := kz_to q_v_49
    have hP9 := hP.sub (ws' := [(gh, .inr (5, [.int g_acts, g_kind, g_na, g_nb, g_nc, g_nd, g_ne, g_dropped, g_live, g_low, g_high, .ref ga_sites, .ref ga_nulls, .ref ga_there, .ref ga_lanes, .ref ga_least, .ref ga_most, .ref ga_placeLow, .ref ga_placeHigh, g_reached, g_mayThrow, .int g_status, .int g_hasRun, .int g_threw, .int g_whereThrown, g_value, .ref ga_means, .ref ga_laneOf, .ref ga_sizeOf, .ref ga_cells, g_copied, .long g_state, .long g_joinedLow, .long g_joinedHigh, g_keptLow, g_keptHigh])), (ga_sites, .inl (cJ, 12, .inr (.inl gc_sites))), (ga_nulls, .inl (cZ, 12, .inl gc_nulls)), (ga_there, .inl (cZ, 80, .inl gc_there)), (ga_lanes, .inl (cI, 80, .inl gc_lanes)), (ga_least, .inl (cJ, 80, .inr (.inl gc_least))), (ga_most, .inl (cJ, 80, .inr (.inl gc_most))), (ga_placeLow, .inl (cJ, 960, .inr (.inl gc_placeLow))), (ga_placeHigh, .inl (cJ, 960, .inr (.inl gc_placeHigh))), (ga_means, .inl (cI, 6, .inl gc_means)), (ga_laneOf, .inl (cI, 40, .inl gc_laneOf)), (ga_sizeOf, .inl (cI, 40, .inl gc_sizeOf)), (ga_cells, .inl (cI, 480, .inl gc_cells))]) [0, 1, 2, 3, 4, 5, 6, 7, 8, 9, 10, 11, 12] rfl
    have hD9 := hD.sub (ws' := [(gh, .inr (5, [.int g_acts, g_kind, g_na, g_nb, g_nc, g_nd, g_ne, g_dropped, g_live, g_low, g_high, .ref ga_sites, .ref ga_nulls, .ref ga_there, .ref ga_lanes, .ref ga_least, .ref ga_most, .ref ga_placeLow, .ref ga_placeHigh, g_reached, g_mayThrow, .int g_status, .int g_hasRun, .int g_threw, .int g_whereThrown, g_value, .ref ga_means, .ref ga_laneOf, .ref ga_sizeOf, .ref ga_cells, g_copied, .long g_state, .long g_joinedLow, .long g_joinedHigh, g_keptLow, g_keptHigh])), (ga_sites, .inl (cJ, 12, .inr (.inl gc_sites))), (ga_nulls, .inl (cZ, 12, .inl gc_nulls)), (ga_there, .inl (cZ, 80, .inl gc_there)), (ga_lanes, .inl (cI, 80, .inl gc_lanes)), (ga_least, .inl (cJ, 80, .inr (.inl gc_least))), (ga_most, .inl (cJ, 80, .inr (.inl gc_most))), (ga_placeLow, .inl (cJ, 960, .inr (.inl gc_placeLow))), (ga_placeHigh, .inl (cJ, 960, .inr (.inl gc_placeHigh))), (ga_means, .inl (cI, 6, .inl gc_means)), (ga_laneOf, .inl (cI, 40, .inl gc_laneOf)), (ga_sizeOf, .inl (cI, 40, .inl gc_sizeOf)), (ga_cells, .inl (cI, 480, .inl gc_cells))]) [0, 1, 2, 3, 4, 5, 6, 7, 8, 9, 10, 11, 12] (by decide) rfl
    exact W.zret (v := v_49) (ty := .boolean) hx hb hr (nar01 q_v_49) (fun t ht hW => ⟨⟨v_49, (), rfl, ⟨(show kZ v_49 from q_v_49), (show ¬ v_49.toInt = 0 from (by have b0 := (show ((gc_means (ra).toNatClampNeg).toInt < 0 → ¬ (gc_nulls (ra).toNatClampNeg).toInt = 0) ∧ (0 ≤ (gc_means (ra).toNatClampNeg).toInt → sbit (gc_sites (ra).toNatClampNeg) ((gc_means (ra).toNatClampNeg)).toNatClampNeg ∧ siC gc_there gc_lanes (fun j => (gc_least j).toInt) (fun j => (gc_most j).toInt) (fun j => (gc_placeLow j).toInt) (fun j => (gc_placeHigh j).toInt) gc_laneOf gc_sizeOf gc_cells ((gc_means (ra).toNatClampNeg)).toNatClampNeg) from hy_h).1 (by omega); omega))⟩, by rw [ht]; exact hP9, va_K.moved hW.alike hK, hD9⟩, hS.F ht⟩) hS.2.2 dX5_isSo_17
