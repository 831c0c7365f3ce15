def v_X5_lanesOf : List Cond := .code yX5_lanesOf cX5_lanesOf 4 (some .int) :: ([.methodLink RX5 169 yX5_has, .instanceMethod yX5_has, .selects RX5 yX5_has yX5_has, .initialized RX5, .fieldLink RX5 51 "ArraySegmentsModel" "lanes" "[I"] ++ (wsX50 ++ (v_X5_has)))
theorem inv_X5_lanesOf_X5 : ∀ w ∈ wsX50, w ∈ v_X5_lanesOf := fun _ h => List.mem_cons_of_mem _ (List.mem_append_right _ (List.mem_append_left _ h))
theorem im_X5_lanesOf_X5_has : ∀ w ∈ v_X5_has, w ∈ v_X5_lanesOf := fun _ h => List.mem_cons_of_mem _ (List.mem_append_right _ (List.mem_append_right _ (h)))
set_option maxRecDepth 20000 in
theorem gd_X5_lanesOf : gdL v_X5_lanesOf := gdC (gdW (by decide +kernel)) (gdA (gdW (by decide +kernel)) (gdA gd_wsX50 gd_X5_has))
set_option maxRecDepth 20000 in
theorem h_X5_lanesOf_X5_has_169 : GoodIn v_X5_lanesOf (wsV RX5 169 RX5 yX5_has v_X5_has) := gdI [1, 2, 3, 4] rfl (by decide +kernel) (im_X5_lanesOf_X5_has) gd_X5_has
abbrev sw_X5_lanesOf (cI cJ cZ : ClassId) (gh : Nat) (g_acts : Int32) (g_kind : Value) (g_na : Value) (g_nb : Value) (g_nc : Value) (g_nd : Value) (g_ne : Value) (g_dropped : Value) (g_live : Value) (g_low : Value) (g_high : Value) (ga_sites : Nat) (g_nulls : Value) (g_there : Value) (ga_lanes : Nat) (g_least : Value) (g_most : Value) (g_placeLow : Value) (g_placeHigh : Value) (g_reached : Value) (g_mayThrow : Value) (g_status : Int32) (g_hasRun : Int32) (g_threw : Int32) (g_whereThrown : Int32) (g_value : Value) (g_means : Value) (g_laneOf : Value) (g_sizeOf : Value) (g_cells : Value) (g_copied : Value) (g_state : Int64) (g_joinedLow : Int64) (g_joinedHigh : Int64) (g_keptLow : Value) (g_keptHigh : Value) (gc_sites : Nat → Int64) (gc_lanes : Nat → Int32) (ra : Int32) : va_W := [(gh, .inr (5, [.int g_acts, g_kind, g_na, g_nb, g_nc, g_nd, g_ne, g_dropped, g_live, g_low, g_high, .ref ga_sites, g_nulls, g_there, .ref ga_lanes, g_least, g_most, g_placeLow, g_placeHigh, g_reached, g_mayThrow, .int g_status, .int g_hasRun, .int g_threw, .int g_whereThrown, g_value, g_means, g_laneOf, g_sizeOf, g_cells, g_copied, .long g_state, .long g_joinedLow, .long g_joinedHigh, g_keptLow, g_keptHigh])), (ga_sites, .inl (cJ, 12, .inr (.inl gc_sites))), (ga_lanes, .inl (cI, 80, .inl gc_lanes))]
set_option maxHeartbeats 8000000 in
set_option maxRecDepth 100000 in
theorem s_X5_lanesOf (l : Launch) (dC : Nat → ClassId) (dI : Nat → Nat → Nat) (cI cJ cZ : ClassId) (gh : Nat) (g_acts : Int32) (g_kind : Value) (g_na : Value) (g_nb : Value) (g_nc : Value) (g_nd : Value) (g_ne : Value) (g_dropped : Value) (g_live : Value) (g_low : Value) (g_high : Value) (ga_sites : Nat) (g_nulls : Value) (g_there : Value) (ga_lanes : Nat) (g_least : Value) (g_most : Value) (g_placeLow : Value) (g_placeHigh : Value) (g_reached : Value) (g_mayThrow : Value) (g_status : Int32) (g_hasRun : Int32) (g_threw : Int32) (g_whereThrown : Int32) (g_value : Value) (g_means : Value) (g_laneOf : Value) (g_sizeOf : Value) (g_cells : Value) (g_copied : Value) (g_state : Int64) (g_joinedLow : Int64) (g_joinedHigh : Int64) (g_keptLow : Value) (g_keptHigh : Value) (gc_sites : Nat → Int64) (gc_lanes : Nat → Int32) (ra : Int32) (sz : Nat) (q_g_hasRun : kZ g_hasRun) (h_gc_lanes : ∀ j : Nat, kL7 (gc_lanes j)) (hy_ra : V6 ra) : Met l yX5_lanesOf v_X5_lanesOf ({ frames := 1, cells := 0, slots := 0, locals := 22 }) (va_Pc [.ref gh, .int ra] (cPre dC dI cI cJ cZ sz (sw_X5_lanesOf cI cJ cZ gh g_acts g_kind g_na g_nb g_nc g_nd g_ne g_dropped g_live g_low g_high ga_sites g_nulls g_there ga_lanes g_least g_most g_placeLow g_placeHigh g_reached g_mayThrow g_status g_hasRun g_threw g_whereThrown g_value g_means g_laneOf g_sizeOf g_cells g_copied g_state g_joinedLow g_joinedHigh g_keptLow g_keptHigh gc_sites gc_lanes ra))) (va_Qi (fun (r : Int32) (u : Unit) => ((0 ≤ r.toInt ∧ r.toInt ≤ 7) ∧ (∀ j : Nat, j < 40 → sbit (gc_sites (ra).toNatClampNeg) j → ∀ q : Nat, lbit (gc_lanes j) q → lbit r q))) (fun (u : Unit) => cPost dC dI cI cJ cZ (va_A (sw_X5_lanesOf cI cJ cZ gh g_acts g_kind g_na g_nb g_nc g_nd g_ne g_dropped g_live g_low g_high ga_sites g_nulls g_there ga_lanes g_least g_most g_placeLow g_placeHigh g_reached g_mayThrow g_status g_hasRun g_threw g_whereThrown g_value g_means g_laneOf g_sizeOf g_cells g_copied g_state g_joinedLow g_joinedHigh g_keptLow g_keptHigh gc_sites gc_lanes ra) sz) [(gh, .inr (5, [.int g_acts, g_kind, g_na, g_nb, g_nc, g_nd, g_ne, g_dropped, g_live, g_low, g_high, .ref ga_sites, g_nulls, g_there, .ref ga_lanes, g_least, g_most, g_placeLow, g_placeHigh, g_reached, g_mayThrow, .int g_status, .int g_hasRun, .int g_threw, .int g_whereThrown, g_value, g_means, g_laneOf, g_sizeOf, g_cells, g_copied, .long g_state, .long g_joinedLow, .long g_joinedHigh, g_keptLow, g_keptHigh])), (ga_sites, .inl (cJ, 12, .inr (.inl gc_sites))), (ga_lanes, .inl (cI, 80, .inl gc_lanes))]) (va_A (sw_X5_lanesOf cI cJ cZ gh g_acts g_kind g_na g_nb g_nc g_nd g_ne g_dropped g_live g_low g_high ga_sites g_nulls g_there ga_lanes g_least g_most g_placeLow g_placeHigh g_reached g_mayThrow g_status g_hasRun g_threw g_whereThrown g_value g_means g_laneOf g_sizeOf g_cells g_copied g_state g_joinedLow g_joinedHigh g_keptLow g_keptHigh gc_sites gc_lanes ra) sz)) 0 0 (va_A (sw_X5_lanesOf cI cJ cZ gh g_acts g_kind g_na g_nb g_nc g_nd g_ne g_dropped g_live g_low g_high ga_sites g_nulls g_there ga_lanes g_least g_most g_placeLow g_placeHigh g_reached g_mayThrow g_status g_hasRun g_threw g_whereThrown g_value g_means g_laneOf g_sizeOf g_cells g_copied g_state g_joinedLow g_joinedHigh g_keptLow g_keptHigh gc_sites gc_lanes ra) sz) := by
  refine Met.ofW (cc := cX5_lanesOf) (maxL := 4) (ret := (some .int)) (by decide) rfl ?_
  intro p e s m args below meth c s₁ B hml hv
  obtain ⟨rfl, hsz, hP, hK, hD0, hN⟩ := hv
  have hx := B.exec
  have hb := B.bytes
  have hr := B.returns
  have hts := atoms_spec (ws := v_X5_lanesOf) B.pre
  have hown : s.vm.findClass RX5 = some m.cls := findClass_of_methodNamed B.named
  have hlocks := B.notSynchronized
  subst hsz
  have hD := hD0.self (sz := s.heap.size)
  generalize hAe : va_A (sw_X5_lanesOf cI cJ cZ gh g_acts g_kind g_na g_nb g_nc g_nd g_ne g_dropped g_live g_low g_high ga_sites g_nulls g_there ga_lanes g_least g_most g_placeLow g_placeHigh g_reached g_mayThrow g_status g_hasRun g_threw g_whereThrown g_value g_means g_laneOf g_sizeOf g_cells g_copied g_state g_joinedLow g_joinedHigh g_keptLow g_keptHigh gc_sites gc_lanes ra) s.heap.size = A at hD ⊢
  have hA : ∀ q : Nat, s.heap.size ≤ q → A q := fun q h => by rw [← hAe]; exact Or.inr h
  clear hAe hD0
  have hS : va_S A s.heap s.heap [] := va_S.rf
  replace hP : va_P (dC, dI) vwCl [(gh, .inr (5, [.int g_acts, g_kind, g_na, g_nb, g_nc, g_nd, g_ne, g_dropped, g_live, g_low, g_high, .ref ga_sites, g_nulls, g_there, .ref ga_lanes, g_least, g_most, g_placeLow, g_placeHigh, g_reached, g_mayThrow, .int g_status, .int g_hasRun, .int g_threw, .int g_whereThrown, g_value, g_means, g_laneOf, g_sizeOf, g_cells, g_copied, .long g_state, .long g_joinedLow, .long g_joinedHigh, g_keptLow, g_keptHigh])), (ga_sites, .inl (cJ, 12, .inr (.inl gc_sites))), (ga_lanes, .inl (cI, 80, .inl gc_lanes))] s.heap := hP
  replace hD : va_D A [(gh, .inr (5, [.int g_acts, g_kind, g_na, g_nb, g_nc, g_nd, g_ne, g_dropped, g_live, g_low, g_high, .ref ga_sites, g_nulls, g_there, .ref ga_lanes, g_least, g_most, g_placeLow, g_placeHigh, g_reached, g_mayThrow, .int g_status, .int g_hasRun, .int g_threw, .int g_whereThrown, g_value, g_means, g_laneOf, g_sizeOf, g_cells, g_copied, .long g_state, .long g_joinedLow, .long g_joinedHigh, g_keptLow, g_keptHigh])), (ga_sites, .inl (cJ, 12, .inr (.inl gc_sites))), (ga_lanes, .inl (cI, 80, .inl gc_lanes))] := hD
  have hl := lv_entry ([.ref gh, .int ra]) (n := 4) (Nat.le_of_ble_eq_true rfl)
  rw [lg_entry_eq]
  generalize (lg_sl ([.ref gh, .int ra]) ++ List.replicate (4 - (lg_sl ([.ref gh, .int ra])).length) Slot.unset).toArray = ls at hl ⊢
  replace hl : lv_has ls 4 [(0, .ref gh), (1, .int ra)] := hl
  have z_0 : (0 : Int32).toInt = 0 := by decide
  have z_1 : (1 : Int32).toInt = 1 := by decide
  have z_40 : (40 : Int32).toInt = 40 := by decide
  refine lv_iconst (v := 0) hx hb dX5_lanesOf_0 (by decide) ?_
  refine lv_istore_n (lv' := [(2, .int 0), (0, .ref gh), (1, .int ra)]) hx hb dX5_lanesOf_1 rfl hl (by decide) rfl (fun ls1 hl1 => ?_)
  replace hl := hl1; clear hl1
  refine lv_iconst (v := 0) hx hb dX5_lanesOf_2 (by decide) ?_
  refine lv_istore_n (lv' := [(3, .int 0), (2, .int 0), (0, .ref gh), (1, .int ra)]) hx hb dX5_lanesOf_3 rfl hl (by decide) rfl (fun ls1 hl1 => ?_)
  replace hl := hl1; clear hl1
  refine my_wloop (S := Int32 × Int32) (fun u => (0 ≤ (u.1).toInt ∧ (u.1).toInt ≤ 40) ∧ (0 ≤ (u.2).toInt ∧ (u.2).toInt ≤ 7) ∧ (∀ j : Nat, (j : Int) < (u.1).toInt → sbit (gc_sites (ra).toNatClampNeg) j → ∀ q : Nat, lbit (gc_lanes j) q → lbit (u.2) q)) (fun u => (40 - (u.1).toInt).toNat) (fun u => [(gh, .inr (5, [.int g_acts, g_kind, g_na, g_nb, g_nc, g_nd, g_ne, g_dropped, g_live, g_low, g_high, .ref ga_sites, g_nulls, g_there, .ref ga_lanes, g_least, g_most, g_placeLow, g_placeHigh, g_reached, g_mayThrow, .int g_status, .int g_hasRun, .int g_threw, .int g_whereThrown, g_value, g_means, g_laneOf, g_sizeOf, g_cells, g_copied, .long g_state, .long g_joinedLow, .long g_joinedHigh, g_keptLow, g_keptHigh])), (ga_sites, .inl (cJ, 12, .inr (.inl gc_sites))), (ga_lanes, .inl (cI, 80, .inl gc_lanes))]) (fun u => [(3, .int (u.1)), (2, .int (u.2)), (0, .ref gh), (1, .int ra)]) (H0 := s.heap) (A := A) (D := (dC, dI)) (cl := vwCl) ((0 : Int32), (0 : Int32)) (show (0 ≤ (0 : Int32).toInt ∧ (0 : Int32).toInt ≤ 40) ∧ (0 ≤ (0 : Int32).toInt ∧ (0 : Int32).toInt ≤ 7) ∧ (∀ j : Nat, (j : Int) < (0 : Int32).toInt → sbit (gc_sites (ra).toNatClampNeg) j → ∀ q : Nat, lbit (gc_lanes j) q → lbit (0 : Int32) q) from ⟨⟨by omega, by omega⟩, ⟨by omega, by omega⟩, (fun j hj => by omega)⟩) (by exact hP) (by exact hD) hS (by exact hl) (fun u_1 hu_1 ih_1 H_1 locs_1 ls1 hP1 hD1 hS1 hl1 => ?_)
  obtain ⟨v_2, v_3⟩ := u_1
  replace hu_1 : (0 ≤ v_2.toInt ∧ v_2.toInt ≤ 40) ∧ (0 ≤ v_3.toInt ∧ v_3.toInt ≤ 7) ∧ (∀ j : Nat, (j : Int) < v_2.toInt → sbit (gc_sites (ra).toNatClampNeg) j → ∀ q : Nat, lbit (gc_lanes j) q → lbit v_3 q) := hu_1
  obtain ⟨q_v_2, q_v_3, x_1_0⟩ := hu_1
  replace hP : va_P (dC, dI) vwCl [(gh, .inr (5, [.int g_acts, g_kind, g_na, g_nb, g_nc, g_nd, g_ne, g_dropped, g_live, g_low, g_high, .ref ga_sites, g_nulls, g_there, .ref ga_lanes, g_least, g_most, g_placeLow, g_placeHigh, g_reached, g_mayThrow, .int g_status, .int g_hasRun, .int g_threw, .int g_whereThrown, g_value, g_means, g_laneOf, g_sizeOf, g_cells, g_copied, .long g_state, .long g_joinedLow, .long g_joinedHigh, g_keptLow, g_keptHigh])), (ga_sites, .inl (cJ, 12, .inr (.inl gc_sites))), (ga_lanes, .inl (cI, 80, .inl gc_lanes))] H_1 := hP1
  replace hD : va_D A [(gh, .inr (5, [.int g_acts, g_kind, g_na, g_nb, g_nc, g_nd, g_ne, g_dropped, g_live, g_low, g_high, .ref ga_sites, g_nulls, g_there, .ref ga_lanes, g_least, g_most, g_placeLow, g_placeHigh, g_reached, g_mayThrow, .int g_status, .int g_hasRun, .int g_threw, .int g_whereThrown, g_value, g_means, g_laneOf, g_sizeOf, g_cells, g_copied, .long g_state, .long g_joinedLow, .long g_joinedHigh, g_keptLow, g_keptHigh])), (ga_sites, .inl (cJ, 12, .inr (.inl gc_sites))), (ga_lanes, .inl (cI, 80, .inl gc_lanes))] := hD1
  replace hS := hS1
  clear hP1 hD1 hS1
  replace hl : lv_has ls1 4 [(3, .int v_2), (2, .int v_3), (0, .ref gh), (1, .int ra)] := hl1
  clear hl1
  refine lv_iload_n hx hb dX5_lanesOf_4 rfl (lv_at hl 0 rfl) ?_
  refine lv_bipush (v := 40) hx hb dX5_lanesOf_5 (by decide) ?_
  refine lv_icmp_ge (tgt := 38) hx hb dX5_lanesOf_7 (by decide) (fun c_4 => ?_) (fun c_4 => ?_)
  · -- yes
    have k_4 : (40 : Int32).toInt ≤ v_2.toInt := ci_ge c_4
    refine lv_iload_n hx hb dX5_lanesOf_38 rfl (lv_at hl 1 rfl) ?_
    have hP9 := hP.sub (ws' := [(gh, .inr (5, [.int g_acts, g_kind, g_na, g_nb, g_nc, g_nd, g_ne, g_dropped, g_live, g_low, g_high, .ref ga_sites, g_nulls, g_there, .ref ga_lanes, g_least, g_most, g_placeLow, g_placeHigh, g_reached, g_mayThrow, .int g_status, .int g_hasRun, .int g_threw, .int g_whereThrown, g_value, g_means, g_laneOf, g_sizeOf, g_cells, g_copied, .long g_state, .long g_joinedLow, .long g_joinedHigh, g_keptLow, g_keptHigh])), (ga_sites, .inl (cJ, 12, .inr (.inl gc_sites))), (ga_lanes, .inl (cI, 80, .inl gc_lanes))]) [0, 1, 2] rfl
    have hD9 := hD.sub (ws' := [(gh, .inr (5, [.int g_acts, g_kind, g_na, g_nb, g_nc, g_nd, g_ne, g_dropped, g_live, g_low, g_high, .ref ga_sites, g_nulls, g_there, .ref ga_lanes, g_least, g_most, g_placeLow, g_placeHigh, g_reached, g_mayThrow, .int g_status, .int g_hasRun, .int g_threw, .int g_whereThrown, g_value, g_means, g_laneOf, g_sizeOf, g_cells, g_copied, .long g_state, .long g_joinedLow, .long g_joinedHigh, g_keptLow, g_keptHigh])), (ga_sites, .inl (cJ, 12, .inr (.inl gc_sites))), (ga_lanes, .inl (cI, 80, .inl gc_lanes))]) [0, 1, 2] (by decide) rfl
    exact W.iret (v := v_3) hx hb hr (fun t ht hW => ⟨⟨v_3, (), rfl, (show (0 ≤ v_3.toInt ∧ v_3.toInt ≤ 7) ∧ (∀ j : Nat, j < 40 → sbit (gc_sites (ra).toNatClampNeg) j → ∀ q : Nat, lbit (gc_lanes j) q → lbit v_3 q) from ⟨by omega, fun j hj => x_1_0 j (by omega)⟩), by rw [ht]; exact hP9, va_K.moved hW.alike hK, hD9⟩, hS.F ht⟩) hS.2.2 dX5_lanesOf_39
  · -- no
    have k_4 : v_2.toInt < (40 : Int32).toInt := ci_nge c_4
    refine lv_iload_n hx hb dX5_lanesOf_10 rfl (lv_at hl 1 rfl) ?_
    refine lv_aload_n hx hb dX5_lanesOf_11 rfl (lv_at hl 2 rfl) ?_
    refine lv_iload_n hx hb dX5_lanesOf_12 rfl (lv_at hl 3 rfl) ?_
    refine lv_iload_n hx hb dX5_lanesOf_13 rfl (lv_at hl 0 rfl) ?_
    have hPc := hP.sub (ws' := [(gh, .inr (5, [.int g_acts, g_kind, g_na, g_nb, g_nc, g_nd, g_ne, g_dropped, g_live, g_low, g_high, .ref ga_sites, g_nulls, g_there, .ref ga_lanes, g_least, g_most, g_placeLow, g_placeHigh, g_reached, g_mayThrow, .int g_status, .int g_hasRun, .int g_threw, .int g_whereThrown, g_value, g_means, g_laneOf, g_sizeOf, g_cells, g_copied, .long g_state, .long g_joinedLow, .long g_joinedHigh, g_keptLow, g_keptHigh])), (ga_sites, .inl (cJ, 12, .inr (.inl gc_sites)))]) [0, 1] rfl
    have hDc := hD.sub (ws' := [(gh, .inr (5, [.int g_acts, g_kind, g_na, g_nb, g_nc, g_nd, g_ne, g_dropped, g_live, g_low, g_high, .ref ga_sites, g_nulls, g_there, .ref ga_lanes, g_least, g_most, g_placeLow, g_placeHigh, g_reached, g_mayThrow, .int g_status, .int g_hasRun, .int g_threw, .int g_whereThrown, g_value, g_means, g_laneOf, g_sizeOf, g_cells, g_copied, .long g_state, .long g_joinedLow, .long g_joinedHigh, g_keptLow, g_keptHigh])), (ga_sites, .inl (cJ, 12, .inr (.inl gc_sites)))]) [0, 1] (by decide) rfl
    have hFc := va_free (wc := [(gh, .inr (5, [.int g_acts, g_kind, g_na, g_nb, g_nc, g_nd, g_ne, g_dropped, g_live, g_low, g_high, .ref ga_sites, g_nulls, g_there, .ref ga_lanes, g_least, g_most, g_placeLow, g_placeHigh, g_reached, g_mayThrow, .int g_status, .int g_hasRun, .int g_threw, .int g_whereThrown, g_value, g_means, g_laneOf, g_sizeOf, g_cells, g_copied, .long g_state, .long g_joinedLow, .long g_joinedHigh, g_keptLow, g_keptHigh])), (ga_sites, .inl (cJ, 12, .inr (.inl gc_sites)))]) hD hS hA [0, 1] rfl
    refine va_calli (va_runV (As := [.int ra, .int v_2]) (rest := [.int v_3]) ⟨hx, hb, hml, hown, hts⟩ (s_X5_has l dC dI cI cJ cZ gh g_acts g_kind g_na g_nb g_nc g_nd g_ne g_dropped g_live g_low g_high ga_sites g_nulls g_there (.ref ga_lanes) g_least g_most g_placeLow g_placeHigh g_reached g_mayThrow g_status g_hasRun g_threw g_whereThrown g_value g_means g_laneOf g_sizeOf g_cells g_copied g_state g_joinedLow g_joinedHigh g_keptLow g_keptHigh gc_sites ra v_2 H_1.size q_g_hasRun (by first | assumption | omega) (by first | assumption | omega)) (cwV 2 hts h_X5_lanesOf_X5_has_169 rfl rfl rfl (by decide +kernel) ⟨Nat.le_of_ble_eq_true rfl, Nat.le_of_ble_eq_true rfl⟩) ⟨cPre_blind, va_recv hK hPc (ci := 5) (q0 := 0) rfl rfl, cPre_of hK hN hPc hDc⟩ rfl rfl hl.1 rfl (lv_room (Nat.le_of_ble_eq_true rfl)) dX5_lanesOf_14 ⟨Nat.le_of_ble_eq_true rfl, Nat.le_of_ble_eq_true rfl⟩) hS (fun q _ h => hFc q h) hFc (fun r_5 u_5 t_5 H_5 locs_5 ht hvm hw_5 hB hz1 hk1 hS1 => ?_)
    obtain ⟨hP1, hK1, hD1⟩ := hB
    rw [ht] at hP1
    obtain ⟨hP2, hD2⟩ := va_join (wr := [(ga_lanes, .inl (cI, 80, .inl gc_lanes))]) (w1 := [(gh, .inr (5, [.int g_acts, g_kind, g_na, g_nb, g_nc, g_nd, g_ne, g_dropped, g_live, g_low, g_high, .ref ga_sites, g_nulls, g_there, .ref ga_lanes, g_least, g_most, g_placeLow, g_placeHigh, g_reached, g_mayThrow, .int g_status, .int g_hasRun, .int g_threw, .int g_whereThrown, g_value, g_means, g_laneOf, g_sizeOf, g_cells, g_copied, .long g_state, .long g_joinedLow, .long g_joinedHigh, g_keptLow, g_keptHigh])), (ga_sites, .inl (cJ, 12, .inr (.inl gc_sites)))]) hP hD [0, 1] [2] rfl rfl (by decide) (by decide) hk1 hFc hP1 hD1
    clear hPc hDc hFc hP1 hD1 hK1 hk1 hz1 hvm ht
    replace hP : va_P (dC, dI) vwCl [(ga_lanes, .inl (cI, 80, .inl gc_lanes)), (gh, .inr (5, [.int g_acts, g_kind, g_na, g_nb, g_nc, g_nd, g_ne, g_dropped, g_live, g_low, g_high, .ref ga_sites, g_nulls, g_there, .ref ga_lanes, g_least, g_most, g_placeLow, g_placeHigh, g_reached, g_mayThrow, .int g_status, .int g_hasRun, .int g_threw, .int g_whereThrown, g_value, g_means, g_laneOf, g_sizeOf, g_cells, g_copied, .long g_state, .long g_joinedLow, .long g_joinedHigh, g_keptLow, g_keptHigh])), (ga_sites, .inl (cJ, 12, .inr (.inl gc_sites)))] H_5 := hP2
    replace hD : va_D A [(ga_lanes, .inl (cI, 80, .inl gc_lanes)), (gh, .inr (5, [.int g_acts, g_kind, g_na, g_nb, g_nc, g_nd, g_ne, g_dropped, g_live, g_low, g_high, .ref ga_sites, g_nulls, g_there, .ref ga_lanes, g_least, g_most, g_placeLow, g_placeHigh, g_reached, g_mayThrow, .int g_status, .int g_hasRun, .int g_threw, .int g_whereThrown, g_value, g_means, g_laneOf, g_sizeOf, g_cells, g_copied, .long g_state, .long g_joinedLow, .long g_joinedHigh, g_keptLow, g_keptHigh])), (ga_sites, .inl (cJ, 12, .inr (.inl gc_sites)))] := hD2
    replace hS := hS1
    clear hP2 hD2 hS1
    replace hw_5 : (two r_5 (sbit (gc_sites (ra).toNatClampNeg) (v_2).toNatClampNeg) 1 0) := hw_5
    have q_r_5 := hw_5
    refine lv_if_eq (tgt := 29) hx hb dX5_lanesOf_17 (by decide) (fun c_6 => ?_) (fun c_6 => ?_)
    · -- yes
      have k_6 : r_5.toInt = (0 : Int32).toInt := ci_eq c_6
      have kt_6 : ¬ (sbit (gc_sites (ra).toNatClampNeg) (v_2).toNatClampNeg) := two_z q_r_5 c_6
      refine lv_iconst (v := 0) hx hb dX5_lanesOf_29 (by decide) ?_
      refine lv_ior hx hb dX5_lanesOf_30 ?_
      refine lv_topi (fun v_7 e_v_7 => ?_)
      have qo_v_7 : kL7 v_7 := or7 e_v_7 ⟨by omega, by omega⟩ ⟨by omega, by omega⟩
      refine lv_istore_n (lv' := [(2, .int v_7), (3, .int v_2), (0, .ref gh), (1, .int ra)]) hx hb dX5_lanesOf_31 rfl hl (by decide) rfl (fun ls1 hl1 => ?_)
      replace hl := hl1; clear hl1
      refine sf_iinc hx hb dX5_lanesOf_32 hl (k := 1) (x := v_2) (w := 1) rfl (by decide) (by decide) ⟨by omega, by omega⟩ (fun v_8 q_v_8 ls1 hl1 => ?_)
      replace hl : lv_has ls1 4 [(3, .int v_8), (2, .int v_7), (0, .ref gh), (1, .int ra)] := hl1
      clear hl1
      refine lv_goto (tgt := 4) hx hb dX5_lanesOf_35 (by decide) ?_
      exact ih_1 (v_8, v_7) (show (0 ≤ v_8.toInt ∧ v_8.toInt ≤ 40) ∧ (0 ≤ v_7.toInt ∧ v_7.toInt ≤ 7) ∧ (∀ j : Nat, (j : Int) < v_8.toInt → sbit (gc_sites (ra).toNatClampNeg) j → ∀ q : Nat, lbit (gc_lanes j) q → lbit v_7 q) from ⟨⟨by omega, by omega⟩, ⟨by omega, by omega⟩, (fun j hj hs => by have nk := nn_cl (z := v_2) (by omega); by_cases hq : j = (v_2).toNatClampNeg; (· subst hq; exact absurd hs kt_6); (· have b8 := x_1_0 j (by omega) hs; exact fun q h => (lb_or e_v_7 q).mpr (Or.inl (b8 q h))))⟩) (by show (40 - v_8.toInt).toNat < (40 - v_2.toInt).toNat; omega) _ _ _ (hP.sub [1, 2, 0] rfl) (hD.sub [1, 2, 0] (by decide) rfl) hS (lv_sub hl [0, 1, 2, 3] rfl)
    · -- no
      have k_6 : ¬ r_5.toInt = (0 : Int32).toInt := ci_ne c_6
      have kt_6 : sbit (gc_sites (ra).toNatClampNeg) (v_2).toNatClampNeg := two_nz q_r_5 c_6
      refine lv_aload_n hx hb dX5_lanesOf_20 rfl (lv_at hl 2 rfl) ?_
      refine va_get (D := (dC, dI)) (ci := 5) (v := .ref ga_lanes) (C := RX5) (T := TX5) (N := 36) hx hb hts inv_X5_lanesOf_X5 hown hK hP 1 rfl rfl 14 (by decide) (hts (.fieldLink RX5 51 "ArraySegmentsModel" "lanes" "[I") (List.mem_of_getElem? (i := 5) rfl)) (fun _ h9 => h9) rfl dX5_lanesOf_21 ?_
      refine lv_iload_n hx hb dX5_lanesOf_24 rfl (lv_at hl 0 rfl) ?_
      refine sf_iald kL7 hx hb hK hP 0 0 rfl rfl h_gc_lanes (vp_in_iff.mpr ⟨by omega, by omega⟩) dX5_lanesOf_25 (fun v_9 q_v_9 e_v_9 => ?_)
      have et_v_9 : v_9.toInt = (gc_lanes (v_2).toNatClampNeg).toInt := by rw [e_v_9]
      have ni_10 := nn_cl (z := v_2) (by omega)
      refine lv_goto (tgt := 30) hx hb dX5_lanesOf_26 (by decide) ?_
      refine lv_ior hx hb dX5_lanesOf_30 ?_
      refine lv_topi (fun v_11 e_v_11 => ?_)
      have qo_v_11 : kL7 v_11 := or7 e_v_11 ⟨by omega, by omega⟩ ⟨by omega, by omega⟩
      refine lv_istore_n (lv' := [(2, .int v_11), (3, .int v_2), (0, .ref gh), (1, .int ra)]) hx hb dX5_lanesOf_31 rfl hl (by decide) rfl (fun ls1 hl1 => ?_)
      replace hl := hl1; clear hl1
      refine sf_iinc hx hb dX5_lanesOf_32 hl (k := 1) (x := v_2) (w := 1) rfl (by decide) (by decide) ⟨by omega, by omega⟩ (fun v_12 q_v_12 ls1 hl1 => ?_)
      replace hl : lv_has ls1 4 [(3, .int v_12), (2, .int v_11), (0, .ref gh), (1, .int ra)] := hl1
      clear hl1
      refine lv_goto (tgt := 4) hx hb dX5_lanesOf_35 (by decide) ?_
      exact ih_1 (v_12, v_11) (show (0 ≤ v_12.toInt ∧ v_12.toInt ≤ 40) ∧ (0 ≤ v_11.toInt ∧ v_11.toInt ≤ 7) ∧ (∀ j : Nat, (j : Int) < v_12.toInt → sbit (gc_sites (ra).toNatClampNeg) j → ∀ q : Nat, lbit (gc_lanes j) q → lbit v_11 q) from ⟨⟨by omega, by omega⟩, ⟨by omega, by omega⟩, (fun j hj hs => by have nk := nn_cl (z := v_2) (by omega); by_cases hq : j = (v_2).toNatClampNeg; (· subst hq; intro q h; rw [← e_v_9] at h; exact (lb_or e_v_11 q).mpr (Or.inr h)); (· have b8 := x_1_0 j (by omega) hs; exact fun q h => (lb_or e_v_11 q).mpr (Or.inl (b8 q h))))⟩) (by show (40 - v_12.toInt).toNat < (40 - v_2.toInt).toNat; omega) _ _ _ (hP.sub [1, 2, 0] rfl) (hD.sub [1, 2, 0] (by decide) rfl) hS (lv_sub hl [0, 1, 2, 3] rfl)
