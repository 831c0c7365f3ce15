def v_X5_mostLength : List Cond := .code yX5_mostLength cX5_mostLength 5 (some .long) :: ([.methodLink RX5 169 yX5_has, .instanceMethod yX5_has, .selects RX5 yX5_has yX5_has, .initialized RX5, .fieldLink RX5 57 "ArraySegmentsModel" "most" "[J"] ++ (wsX50 ++ (v_X5_has)))
theorem inv_X5_mostLength_X5 : ∀ w ∈ wsX50, w ∈ v_X5_mostLength := fun _ h => List.mem_cons_of_mem _ (List.mem_append_right _ (List.mem_append_left _ h))
theorem im_X5_mostLength_X5_has : ∀ w ∈ v_X5_has, w ∈ v_X5_mostLength := fun _ h => List.mem_cons_of_mem _ (List.mem_append_right _ (List.mem_append_right _ (h)))
set_option maxRecDepth 20000 in
theorem gd_X5_mostLength : gdL v_X5_mostLength := gdC (gdW (by decide +kernel)) (gdA (gdW (by decide +kernel)) (gdA gd_wsX50 gd_X5_has))
set_option maxRecDepth 20000 in
theorem h_X5_mostLength_X5_has_169 : GoodIn v_X5_mostLength (wsV RX5 169 RX5 yX5_has v_X5_has) := gdI [1, 2, 3, 4] rfl (by decide +kernel) (im_X5_mostLength_X5_has) gd_X5_has
abbrev sw_X5_mostLength (cI cJ cZ : ClassId) (gh : Nat) (g_acts : Int32) (g_kind : Value) (g_na : Value) (g_nb : Value) (g_nc : Value) (g_nd : Value) (g_ne : Value) (g_dropped : Value) (g_live : Value) (g_low : Value) (g_high : Value) (ga_sites : Nat) (g_nulls : Value) (g_there : Value) (g_lanes : Value) (g_least : Value) (ga_most : Nat) (g_placeLow : Value) (g_placeHigh : Value) (g_reached : Value) (g_mayThrow : Value) (g_status : Int32) (g_hasRun : Int32) (g_threw : Int32) (g_whereThrown : Int32) (g_value : Value) (g_means : Value) (g_laneOf : Value) (g_sizeOf : Value) (g_cells : Value) (g_copied : Value) (g_state : Int64) (g_joinedLow : Int64) (g_joinedHigh : Int64) (g_keptLow : Value) (g_keptHigh : Value) (gc_sites : Nat → Int64) (gc_most : Nat → Int64) (ra : Int32) : va_W := [(gh, .inr (5, [.int g_acts, g_kind, g_na, g_nb, g_nc, g_nd, g_ne, g_dropped, g_live, g_low, g_high, .ref ga_sites, g_nulls, g_there, g_lanes, g_least, .ref ga_most, g_placeLow, g_placeHigh, g_reached, g_mayThrow, .int g_status, .int g_hasRun, .int g_threw, .int g_whereThrown, g_value, g_means, g_laneOf, g_sizeOf, g_cells, g_copied, .long g_state, .long g_joinedLow, .long g_joinedHigh, g_keptLow, g_keptHigh])), (ga_sites, .inl (cJ, 12, .inr (.inl gc_sites))), (ga_most, .inl (cJ, 80, .inr (.inl gc_most)))]
set_option maxHeartbeats 8000000 in
set_option maxRecDepth 100000 in
theorem s_X5_mostLength (l : Launch) (dC : Nat → ClassId) (dI : Nat → Nat → Nat) (cI cJ cZ : ClassId) (gh : Nat) (g_acts : Int32) (g_kind : Value) (g_na : Value) (g_nb : Value) (g_nc : Value) (g_nd : Value) (g_ne : Value) (g_dropped : Value) (g_live : Value) (g_low : Value) (g_high : Value) (ga_sites : Nat) (g_nulls : Value) (g_there : Value) (g_lanes : Value) (g_least : Value) (ga_most : Nat) (g_placeLow : Value) (g_placeHigh : Value) (g_reached : Value) (g_mayThrow : Value) (g_status : Int32) (g_hasRun : Int32) (g_threw : Int32) (g_whereThrown : Int32) (g_value : Value) (g_means : Value) (g_laneOf : Value) (g_sizeOf : Value) (g_cells : Value) (g_copied : Value) (g_state : Int64) (g_joinedLow : Int64) (g_joinedHigh : Int64) (g_keptLow : Value) (g_keptHigh : Value) (gc_sites : Nat → Int64) (gc_most : Nat → Int64) (ra : Int32) (sz : Nat) (q_g_hasRun : kZ g_hasRun) (h_gc_most : ∀ j : Nat, l12 (gc_most j)) (hy_ra : V6 ra) : Met l yX5_mostLength v_X5_mostLength ({ frames := 1, cells := 0, slots := 0, locals := 22 }) (va_Pc [.ref gh, .int ra] (cPre dC dI cI cJ cZ sz (sw_X5_mostLength cI cJ cZ gh g_acts g_kind g_na g_nb g_nc g_nd g_ne g_dropped g_live g_low g_high ga_sites g_nulls g_there g_lanes g_least ga_most g_placeLow g_placeHigh g_reached g_mayThrow g_status g_hasRun g_threw g_whereThrown g_value g_means g_laneOf g_sizeOf g_cells g_copied g_state g_joinedLow g_joinedHigh g_keptLow g_keptHigh gc_sites gc_most ra))) (va_Ql (fun (r : Int64) (u : Unit) => ((0 ≤ r.toInt ∧ r.toInt ≤ 12) ∧ (∀ j : Nat, j < 40 → sbit (gc_sites (ra).toNatClampNeg) j → (gc_most j).toInt ≤ r.toInt))) (fun (u : Unit) => cPost dC dI cI cJ cZ (va_A (sw_X5_mostLength cI cJ cZ gh g_acts g_kind g_na g_nb g_nc g_nd g_ne g_dropped g_live g_low g_high ga_sites g_nulls g_there g_lanes g_least ga_most g_placeLow g_placeHigh g_reached g_mayThrow g_status g_hasRun g_threw g_whereThrown g_value g_means g_laneOf g_sizeOf g_cells g_copied g_state g_joinedLow g_joinedHigh g_keptLow g_keptHigh gc_sites gc_most ra) sz) [(gh, .inr (5, [.int g_acts, g_kind, g_na, g_nb, g_nc, g_nd, g_ne, g_dropped, g_live, g_low, g_high, .ref ga_sites, g_nulls, g_there, g_lanes, g_least, .ref ga_most, g_placeLow, g_placeHigh, g_reached, g_mayThrow, .int g_status, .int g_hasRun, .int g_threw, .int g_whereThrown, g_value, g_means, g_laneOf, g_sizeOf, g_cells, g_copied, .long g_state, .long g_joinedLow, .long g_joinedHigh, g_keptLow, g_keptHigh])), (ga_sites, .inl (cJ, 12, .inr (.inl gc_sites))), (ga_most, .inl (cJ, 80, .inr (.inl gc_most)))]) (va_A (sw_X5_mostLength cI cJ cZ gh g_acts g_kind g_na g_nb g_nc g_nd g_ne g_dropped g_live g_low g_high ga_sites g_nulls g_there g_lanes g_least ga_most g_placeLow g_placeHigh g_reached g_mayThrow g_status g_hasRun g_threw g_whereThrown g_value g_means g_laneOf g_sizeOf g_cells g_copied g_state g_joinedLow g_joinedHigh g_keptLow g_keptHigh gc_sites gc_most ra) sz)) 0 0 (va_A (sw_X5_mostLength cI cJ cZ gh g_acts g_kind g_na g_nb g_nc g_nd g_ne g_dropped g_live g_low g_high ga_sites g_nulls g_there g_lanes g_least ga_most g_placeLow g_placeHigh g_reached g_mayThrow g_status g_hasRun g_threw g_whereThrown g_value g_means g_laneOf g_sizeOf g_cells g_copied g_state g_joinedLow g_joinedHigh g_keptLow g_keptHigh gc_sites gc_most ra) sz) := by
  refine Met.ofW (cc := cX5_mostLength) (maxL := 5) (ret := (some .long)) (by decide) rfl ?_
  intro p e s m args below meth c s₁ B hml hv
  obtain ⟨rfl, hsz, hP, hK, hD0, hN⟩ := hv
  have hx := B.exec
  have hb := B.bytes
  have hr := B.returns
  have hts := atoms_spec (ws := v_X5_mostLength) B.pre
  have hown : s.vm.findClass RX5 = some m.cls := findClass_of_methodNamed B.named
  have hlocks := B.notSynchronized
  subst hsz
  have hD := hD0.self (sz := s.heap.size)
  generalize hAe : va_A (sw_X5_mostLength cI cJ cZ gh g_acts g_kind g_na g_nb g_nc g_nd g_ne g_dropped g_live g_low g_high ga_sites g_nulls g_there g_lanes g_least ga_most g_placeLow g_placeHigh g_reached g_mayThrow g_status g_hasRun g_threw g_whereThrown g_value g_means g_laneOf g_sizeOf g_cells g_copied g_state g_joinedLow g_joinedHigh g_keptLow g_keptHigh gc_sites gc_most ra) s.heap.size = A at hD ⊢
  have hA : ∀ q : Nat, s.heap.size ≤ q → A q := fun q h => by rw [← hAe]; exact Or.inr h
  clear hAe hD0
  have hS : va_S A s.heap s.heap [] := va_S.rf
  replace hP : va_P (dC, dI) vwCl [(gh, .inr (5, [.int g_acts, g_kind, g_na, g_nb, g_nc, g_nd, g_ne, g_dropped, g_live, g_low, g_high, .ref ga_sites, g_nulls, g_there, g_lanes, g_least, .ref ga_most, g_placeLow, g_placeHigh, g_reached, g_mayThrow, .int g_status, .int g_hasRun, .int g_threw, .int g_whereThrown, g_value, g_means, g_laneOf, g_sizeOf, g_cells, g_copied, .long g_state, .long g_joinedLow, .long g_joinedHigh, g_keptLow, g_keptHigh])), (ga_sites, .inl (cJ, 12, .inr (.inl gc_sites))), (ga_most, .inl (cJ, 80, .inr (.inl gc_most)))] s.heap := hP
  replace hD : va_D A [(gh, .inr (5, [.int g_acts, g_kind, g_na, g_nb, g_nc, g_nd, g_ne, g_dropped, g_live, g_low, g_high, .ref ga_sites, g_nulls, g_there, g_lanes, g_least, .ref ga_most, g_placeLow, g_placeHigh, g_reached, g_mayThrow, .int g_status, .int g_hasRun, .int g_threw, .int g_whereThrown, g_value, g_means, g_laneOf, g_sizeOf, g_cells, g_copied, .long g_state, .long g_joinedLow, .long g_joinedHigh, g_keptLow, g_keptHigh])), (ga_sites, .inl (cJ, 12, .inr (.inl gc_sites))), (ga_most, .inl (cJ, 80, .inr (.inl gc_most)))] := hD
  have hl := lv_entry ([.ref gh, .int ra]) (n := 5) (Nat.le_of_ble_eq_true rfl)
  rw [lg_entry_eq]
  generalize (lg_sl ([.ref gh, .int ra]) ++ List.replicate (5 - (lg_sl ([.ref gh, .int ra])).length) Slot.unset).toArray = ls at hl ⊢
  replace hl : lv_has ls 5 [(0, .ref gh), (1, .int ra)] := hl
  have z_0 : (0 : Int32).toInt = 0 := by decide
  have z_1 : (1 : Int32).toInt = 1 := by decide
  have z_40 : (40 : Int32).toInt = 40 := by decide
  have zl_0 : (0 : Int64).toInt = 0 := by decide
  refine lv_lconst (v := 0) hx hb dX5_mostLength_0 (by decide) ?_
  refine lv_lstore_n (lv' := [(2, .long 0), (0, .ref gh), (1, .int ra)]) hx hb dX5_mostLength_1 rfl hl (by decide) rfl (fun ls1 hl1 => ?_)
  replace hl := hl1; clear hl1
  refine lv_iconst (v := 0) hx hb dX5_mostLength_2 (by decide) ?_
  refine lv_istore (lv' := [(4, .int 0), (2, .long 0), (0, .ref gh), (1, .int ra)]) hx hb dX5_mostLength_3 hl (by decide) rfl (fun ls1 hl1 => ?_)
  replace hl := hl1; clear hl1
  refine my_wloop (S := Int32 × Int64) (fun u => (0 ≤ (u.1).toInt ∧ (u.1).toInt ≤ 40) ∧ (0 ≤ (u.2).toInt ∧ (u.2).toInt ≤ 12) ∧ (∀ j : Nat, (j : Int) < (u.1).toInt → sbit (gc_sites (ra).toNatClampNeg) j → (gc_most j).toInt ≤ (u.2).toInt)) (fun u => (40 - (u.1).toInt).toNat) (fun u => [(gh, .inr (5, [.int g_acts, g_kind, g_na, g_nb, g_nc, g_nd, g_ne, g_dropped, g_live, g_low, g_high, .ref ga_sites, g_nulls, g_there, g_lanes, g_least, .ref ga_most, g_placeLow, g_placeHigh, g_reached, g_mayThrow, .int g_status, .int g_hasRun, .int g_threw, .int g_whereThrown, g_value, g_means, g_laneOf, g_sizeOf, g_cells, g_copied, .long g_state, .long g_joinedLow, .long g_joinedHigh, g_keptLow, g_keptHigh])), (ga_sites, .inl (cJ, 12, .inr (.inl gc_sites))), (ga_most, .inl (cJ, 80, .inr (.inl gc_most)))]) (fun u => [(4, .int (u.1)), (2, .long (u.2)), (0, .ref gh), (1, .int ra)]) (H0 := s.heap) (A := A) (D := (dC, dI)) (cl := vwCl) ((0 : Int32), (0 : Int64)) (show (0 ≤ (0 : Int32).toInt ∧ (0 : Int32).toInt ≤ 40) ∧ (0 ≤ (0 : Int64).toInt ∧ (0 : Int64).toInt ≤ 12) ∧ (∀ j : Nat, (j : Int) < (0 : Int32).toInt → sbit (gc_sites (ra).toNatClampNeg) j → (gc_most j).toInt ≤ (0 : Int64).toInt) from ⟨⟨by omega, by omega⟩, ⟨by omega, by omega⟩, (fun j hj => by omega)⟩) (by exact hP) (by exact hD) hS (by exact hl) (fun u_1 hu_1 ih_1 H_1 locs_1 ls1 hP1 hD1 hS1 hl1 => ?_)
  obtain ⟨v_2, v_3⟩ := u_1
  replace hu_1 : (0 ≤ v_2.toInt ∧ v_2.toInt ≤ 40) ∧ (0 ≤ v_3.toInt ∧ v_3.toInt ≤ 12) ∧ (∀ j : Nat, (j : Int) < v_2.toInt → sbit (gc_sites (ra).toNatClampNeg) j → (gc_most j).toInt ≤ v_3.toInt) := hu_1
  obtain ⟨q_v_2, q_v_3, x_1_0⟩ := hu_1
  replace hP : va_P (dC, dI) vwCl [(gh, .inr (5, [.int g_acts, g_kind, g_na, g_nb, g_nc, g_nd, g_ne, g_dropped, g_live, g_low, g_high, .ref ga_sites, g_nulls, g_there, g_lanes, g_least, .ref ga_most, g_placeLow, g_placeHigh, g_reached, g_mayThrow, .int g_status, .int g_hasRun, .int g_threw, .int g_whereThrown, g_value, g_means, g_laneOf, g_sizeOf, g_cells, g_copied, .long g_state, .long g_joinedLow, .long g_joinedHigh, g_keptLow, g_keptHigh])), (ga_sites, .inl (cJ, 12, .inr (.inl gc_sites))), (ga_most, .inl (cJ, 80, .inr (.inl gc_most)))] H_1 := hP1
  replace hD : va_D A [(gh, .inr (5, [.int g_acts, g_kind, g_na, g_nb, g_nc, g_nd, g_ne, g_dropped, g_live, g_low, g_high, .ref ga_sites, g_nulls, g_there, g_lanes, g_least, .ref ga_most, g_placeLow, g_placeHigh, g_reached, g_mayThrow, .int g_status, .int g_hasRun, .int g_threw, .int g_whereThrown, g_value, g_means, g_laneOf, g_sizeOf, g_cells, g_copied, .long g_state, .long g_joinedLow, .long g_joinedHigh, g_keptLow, g_keptHigh])), (ga_sites, .inl (cJ, 12, .inr (.inl gc_sites))), (ga_most, .inl (cJ, 80, .inr (.inl gc_most)))] := hD1
  replace hS := hS1
  clear hP1 hD1 hS1
  replace hl : lv_has ls1 5 [(4, .int v_2), (2, .long v_3), (0, .ref gh), (1, .int ra)] := hl1
  clear hl1
  refine lv_iload hx hb dX5_mostLength_5 (lv_at hl 0 rfl) ?_
  refine lv_bipush (v := 40) hx hb dX5_mostLength_7 (by decide) ?_
  refine lv_icmp_ge (tgt := 52) hx hb dX5_mostLength_9 (by decide) (fun c_4 => ?_) (fun c_4 => ?_)
  · -- yes
    have k_4 : (40 : Int32).toInt ≤ v_2.toInt := ci_ge c_4
    refine lv_lload_n hx hb dX5_mostLength_52 rfl (lv_at hl 1 rfl) ?_
    have hP9 := hP.sub (ws' := [(gh, .inr (5, [.int g_acts, g_kind, g_na, g_nb, g_nc, g_nd, g_ne, g_dropped, g_live, g_low, g_high, .ref ga_sites, g_nulls, g_there, g_lanes, g_least, .ref ga_most, g_placeLow, g_placeHigh, g_reached, g_mayThrow, .int g_status, .int g_hasRun, .int g_threw, .int g_whereThrown, g_value, g_means, g_laneOf, g_sizeOf, g_cells, g_copied, .long g_state, .long g_joinedLow, .long g_joinedHigh, g_keptLow, g_keptHigh])), (ga_sites, .inl (cJ, 12, .inr (.inl gc_sites))), (ga_most, .inl (cJ, 80, .inr (.inl gc_most)))]) [0, 1, 2] rfl
    have hD9 := hD.sub (ws' := [(gh, .inr (5, [.int g_acts, g_kind, g_na, g_nb, g_nc, g_nd, g_ne, g_dropped, g_live, g_low, g_high, .ref ga_sites, g_nulls, g_there, g_lanes, g_least, .ref ga_most, g_placeLow, g_placeHigh, g_reached, g_mayThrow, .int g_status, .int g_hasRun, .int g_threw, .int g_whereThrown, g_value, g_means, g_laneOf, g_sizeOf, g_cells, g_copied, .long g_state, .long g_joinedLow, .long g_joinedHigh, g_keptLow, g_keptHigh])), (ga_sites, .inl (cJ, 12, .inr (.inl gc_sites))), (ga_most, .inl (cJ, 80, .inr (.inl gc_most)))]) [0, 1, 2] (by decide) rfl
    exact W.lret (v := v_3) hx hb hr (fun t ht hW => ⟨⟨v_3, (), rfl, (show (0 ≤ v_3.toInt ∧ v_3.toInt ≤ 12) ∧ (∀ j : Nat, j < 40 → sbit (gc_sites (ra).toNatClampNeg) j → (gc_most j).toInt ≤ v_3.toInt) from ⟨by omega, fun j hj => x_1_0 j (by omega)⟩), by rw [ht]; exact hP9, va_K.moved hW.alike hK, hD9⟩, hS.F ht⟩) hS.2.2 dX5_mostLength_53
  · -- no
    have k_4 : v_2.toInt < (40 : Int32).toInt := ci_nge c_4
    refine lv_aload_n hx hb dX5_mostLength_12 rfl (lv_at hl 2 rfl) ?_
    refine lv_iload_n hx hb dX5_mostLength_13 rfl (lv_at hl 3 rfl) ?_
    refine lv_iload hx hb dX5_mostLength_14 (lv_at hl 0 rfl) ?_
    have hPc := hP.sub (ws' := [(gh, .inr (5, [.int g_acts, g_kind, g_na, g_nb, g_nc, g_nd, g_ne, g_dropped, g_live, g_low, g_high, .ref ga_sites, g_nulls, g_there, g_lanes, g_least, .ref ga_most, g_placeLow, g_placeHigh, g_reached, g_mayThrow, .int g_status, .int g_hasRun, .int g_threw, .int g_whereThrown, g_value, g_means, g_laneOf, g_sizeOf, g_cells, g_copied, .long g_state, .long g_joinedLow, .long g_joinedHigh, g_keptLow, g_keptHigh])), (ga_sites, .inl (cJ, 12, .inr (.inl gc_sites)))]) [0, 1] rfl
    have hDc := hD.sub (ws' := [(gh, .inr (5, [.int g_acts, g_kind, g_na, g_nb, g_nc, g_nd, g_ne, g_dropped, g_live, g_low, g_high, .ref ga_sites, g_nulls, g_there, g_lanes, g_least, .ref ga_most, g_placeLow, g_placeHigh, g_reached, g_mayThrow, .int g_status, .int g_hasRun, .int g_threw, .int g_whereThrown, g_value, g_means, g_laneOf, g_sizeOf, g_cells, g_copied, .long g_state, .long g_joinedLow, .long g_joinedHigh, g_keptLow, g_keptHigh])), (ga_sites, .inl (cJ, 12, .inr (.inl gc_sites)))]) [0, 1] (by decide) rfl
    have hFc := va_free (wc := [(gh, .inr (5, [.int g_acts, g_kind, g_na, g_nb, g_nc, g_nd, g_ne, g_dropped, g_live, g_low, g_high, .ref ga_sites, g_nulls, g_there, g_lanes, g_least, .ref ga_most, g_placeLow, g_placeHigh, g_reached, g_mayThrow, .int g_status, .int g_hasRun, .int g_threw, .int g_whereThrown, g_value, g_means, g_laneOf, g_sizeOf, g_cells, g_copied, .long g_state, .long g_joinedLow, .long g_joinedHigh, g_keptLow, g_keptHigh])), (ga_sites, .inl (cJ, 12, .inr (.inl gc_sites)))]) hD hS hA [0, 1] rfl
    refine va_calli (va_runV (As := [.int ra, .int v_2]) (rest := []) ⟨hx, hb, hml, hown, hts⟩ (s_X5_has l dC dI cI cJ cZ gh g_acts g_kind g_na g_nb g_nc g_nd g_ne g_dropped g_live g_low g_high ga_sites g_nulls g_there g_lanes g_least (.ref ga_most) g_placeLow g_placeHigh g_reached g_mayThrow g_status g_hasRun g_threw g_whereThrown g_value g_means g_laneOf g_sizeOf g_cells g_copied g_state g_joinedLow g_joinedHigh g_keptLow g_keptHigh gc_sites ra v_2 H_1.size q_g_hasRun (by first | assumption | omega) (by first | assumption | omega)) (cwV 2 hts h_X5_mostLength_X5_has_169 rfl rfl rfl (by decide +kernel) ⟨Nat.le_of_ble_eq_true rfl, Nat.le_of_ble_eq_true rfl⟩) ⟨cPre_blind, va_recv hK hPc (ci := 5) (q0 := 0) rfl rfl, cPre_of hK hN hPc hDc⟩ rfl rfl hl.1 rfl (lv_room (Nat.le_of_ble_eq_true rfl)) dX5_mostLength_16 ⟨Nat.le_of_ble_eq_true rfl, Nat.le_of_ble_eq_true rfl⟩) hS (fun q _ h => hFc q h) hFc (fun r_5 u_5 t_5 H_5 locs_5 ht hvm hw_5 hB hz1 hk1 hS1 => ?_)
    obtain ⟨hP1, hK1, hD1⟩ := hB
    rw [ht] at hP1
    obtain ⟨hP2, hD2⟩ := va_join (wr := [(ga_most, .inl (cJ, 80, .inr (.inl gc_most)))]) (w1 := [(gh, .inr (5, [.int g_acts, g_kind, g_na, g_nb, g_nc, g_nd, g_ne, g_dropped, g_live, g_low, g_high, .ref ga_sites, g_nulls, g_there, g_lanes, g_least, .ref ga_most, g_placeLow, g_placeHigh, g_reached, g_mayThrow, .int g_status, .int g_hasRun, .int g_threw, .int g_whereThrown, g_value, g_means, g_laneOf, g_sizeOf, g_cells, g_copied, .long g_state, .long g_joinedLow, .long g_joinedHigh, g_keptLow, g_keptHigh])), (ga_sites, .inl (cJ, 12, .inr (.inl gc_sites)))]) hP hD [0, 1] [2] rfl rfl (by decide) (by decide) hk1 hFc hP1 hD1
    clear hPc hDc hFc hP1 hD1 hK1 hk1 hz1 hvm ht
    replace hP : va_P (dC, dI) vwCl [(ga_most, .inl (cJ, 80, .inr (.inl gc_most))), (gh, .inr (5, [.int g_acts, g_kind, g_na, g_nb, g_nc, g_nd, g_ne, g_dropped, g_live, g_low, g_high, .ref ga_sites, g_nulls, g_there, g_lanes, g_least, .ref ga_most, g_placeLow, g_placeHigh, g_reached, g_mayThrow, .int g_status, .int g_hasRun, .int g_threw, .int g_whereThrown, g_value, g_means, g_laneOf, g_sizeOf, g_cells, g_copied, .long g_state, .long g_joinedLow, .long g_joinedHigh, g_keptLow, g_keptHigh])), (ga_sites, .inl (cJ, 12, .inr (.inl gc_sites)))] H_5 := hP2
    replace hD : va_D A [(ga_most, .inl (cJ, 80, .inr (.inl gc_most))), (gh, .inr (5, [.int g_acts, g_kind, g_na, g_nb, g_nc, g_nd, g_ne, g_dropped, g_live, g_low, g_high, .ref ga_sites, g_nulls, g_there, g_lanes, g_least, .ref ga_most, g_placeLow, g_placeHigh, g_reached, g_mayThrow, .int g_status, .int g_hasRun, .int g_threw, .int g_whereThrown, g_value, g_means, g_laneOf, g_sizeOf, g_cells, g_copied, .long g_state, .long g_joinedLow, .long g_joinedHigh, g_keptLow, g_keptHigh])), (ga_sites, .inl (cJ, 12, .inr (.inl gc_sites)))] := hD2
    replace hS := hS1
    clear hP2 hD2 hS1
    replace hw_5 : (two r_5 (sbit (gc_sites (ra).toNatClampNeg) (v_2).toNatClampNeg) 1 0) := hw_5
    have q_r_5 := hw_5
    refine lv_if_eq (tgt := 44) hx hb dX5_mostLength_19 (by decide) (fun c_6 => ?_) (fun c_6 => ?_)
    · -- yes
      have k_6 : r_5.toInt = (0 : Int32).toInt := ci_eq c_6
      have kt_6 : ¬ (sbit (gc_sites (ra).toNatClampNeg) (v_2).toNatClampNeg) := two_z q_r_5 c_6
      refine lv_lload_n hx hb dX5_mostLength_44 rfl (lv_at hl 1 rfl) ?_
      refine lv_lstore_n (lv' := [(2, .long v_3), (4, .int v_2), (0, .ref gh), (1, .int ra)]) hx hb dX5_mostLength_45 rfl hl (by decide) rfl (fun ls1 hl1 => ?_)
      replace hl := hl1; clear hl1
      refine sf_iinc hx hb dX5_mostLength_46 hl (k := 1) (x := v_2) (w := 1) rfl (by decide) (by decide) ⟨by omega, by omega⟩ (fun v_7 q_v_7 ls1 hl1 => ?_)
      replace hl : lv_has ls1 5 [(4, .int v_7), (2, .long v_3), (0, .ref gh), (1, .int ra)] := hl1
      clear hl1
      refine lv_goto (tgt := 5) hx hb dX5_mostLength_49 (by decide) ?_
      exact ih_1 (v_7, v_3) (show (0 ≤ v_7.toInt ∧ v_7.toInt ≤ 40) ∧ (0 ≤ v_3.toInt ∧ v_3.toInt ≤ 12) ∧ (∀ j : Nat, (j : Int) < v_7.toInt → sbit (gc_sites (ra).toNatClampNeg) j → (gc_most j).toInt ≤ v_3.toInt) from ⟨⟨by omega, by omega⟩, ⟨by omega, by omega⟩, (fun j hj hs => by have nk := nn_cl (z := v_2) (by omega); by_cases hq : j = (v_2).toNatClampNeg; (· subst hq; exact absurd hs kt_6); (· have b8 := x_1_0 j (by omega) hs; omega))⟩) (by show (40 - v_7.toInt).toNat < (40 - v_2.toInt).toNat; omega) _ _ _ (hP.sub [1, 2, 0] rfl) (hD.sub [1, 2, 0] (by decide) rfl) hS (lv_sub hl [0, 1, 2, 3] rfl)
    · -- no
      have k_6 : ¬ r_5.toInt = (0 : Int32).toInt := ci_ne c_6
      have kt_6 : sbit (gc_sites (ra).toNatClampNeg) (v_2).toNatClampNeg := two_nz q_r_5 c_6
      refine lv_aload_n hx hb dX5_mostLength_22 rfl (lv_at hl 2 rfl) ?_
      refine va_get (D := (dC, dI)) (ci := 5) (v := .ref ga_most) (C := RX5) (T := TX5) (N := 36) hx hb hts inv_X5_mostLength_X5 hown hK hP 1 rfl rfl 16 (by decide) (hts (.fieldLink RX5 57 "ArraySegmentsModel" "most" "[J") (List.mem_of_getElem? (i := 5) rfl)) (fun _ h9 => h9) rfl dX5_mostLength_23 ?_
      refine lv_iload hx hb dX5_mostLength_26 (lv_at hl 0 rfl) ?_
      refine sf_lald l12 hx hb hK hP 0 1 rfl rfl h_gc_most (vp_in_iff.mpr ⟨by omega, by omega⟩) dX5_mostLength_28 (fun v_8 q_v_8 e_v_8 => ?_)
      have et_v_8 : v_8.toInt = (gc_most (v_2).toNatClampNeg).toInt := by rw [e_v_8]
      have ni_9 := nn_cl (z := v_2) (by omega)
      refine lv_lload_n hx hb dX5_mostLength_29 rfl (lv_at hl 1 rfl) ?_
      refine W.lcmp hx hb dX5_mostLength_30 ?_
      refine lv_if_le (tgt := 44) hx hb dX5_mostLength_31 (by decide) (fun c_10 => ?_) (fun c_10 => ?_)
      · -- yes
        have k_10 : v_8.toInt ≤ v_3.toInt := lc_le c_10
        refine lv_lload_n hx hb dX5_mostLength_44 rfl (lv_at hl 1 rfl) ?_
        refine lv_lstore_n (lv' := [(2, .long v_3), (4, .int v_2), (0, .ref gh), (1, .int ra)]) hx hb dX5_mostLength_45 rfl hl (by decide) rfl (fun ls1 hl1 => ?_)
        replace hl := hl1; clear hl1
        refine sf_iinc hx hb dX5_mostLength_46 hl (k := 1) (x := v_2) (w := 1) rfl (by decide) (by decide) ⟨by omega, by omega⟩ (fun v_11 q_v_11 ls1 hl1 => ?_)
        replace hl : lv_has ls1 5 [(4, .int v_11), (2, .long v_3), (0, .ref gh), (1, .int ra)] := hl1
        clear hl1
        refine lv_goto (tgt := 5) hx hb dX5_mostLength_49 (by decide) ?_
        exact ih_1 (v_11, v_3) (show (0 ≤ v_11.toInt ∧ v_11.toInt ≤ 40) ∧ (0 ≤ v_3.toInt ∧ v_3.toInt ≤ 12) ∧ (∀ j : Nat, (j : Int) < v_11.toInt → sbit (gc_sites (ra).toNatClampNeg) j → (gc_most j).toInt ≤ v_3.toInt) from ⟨⟨by omega, by omega⟩, ⟨by omega, by omega⟩, (fun j hj hs => by have nk := nn_cl (z := v_2) (by omega); by_cases hq : j = (v_2).toNatClampNeg; (· subst hq; omega); (· have b8 := x_1_0 j (by omega) hs; omega))⟩) (by show (40 - v_11.toInt).toNat < (40 - v_2.toInt).toNat; omega) _ _ _ (hP.sub [1, 2, 0] rfl) (hD.sub [1, 2, 0] (by decide) rfl) hS (lv_sub hl [0, 1, 2, 3] rfl)
      · -- no
        have k_10 : v_3.toInt < v_8.toInt := lc_nle c_10
        refine lv_aload_n hx hb dX5_mostLength_34 rfl (lv_at hl 2 rfl) ?_
        refine va_get (D := (dC, dI)) (ci := 5) (v := .ref ga_most) (C := RX5) (T := TX5) (N := 36) hx hb hts inv_X5_mostLength_X5 hown hK hP 1 rfl rfl 16 (by decide) (hts (.fieldLink RX5 57 "ArraySegmentsModel" "most" "[J") (List.mem_of_getElem? (i := 5) rfl)) (fun _ h9 => h9) rfl dX5_mostLength_35 ?_
        refine lv_iload hx hb dX5_mostLength_38 (lv_at hl 0 rfl) ?_
        refine sf_lald l12 hx hb hK hP 0 1 rfl rfl h_gc_most (vp_in_iff.mpr ⟨by omega, by omega⟩) dX5_mostLength_40 (fun v_12 q_v_12 e_v_12 => ?_)
        have et_v_12 : v_12.toInt = (gc_most (v_2).toNatClampNeg).toInt := by rw [e_v_12]
        have ni_13 := nn_cl (z := v_2) (by omega)
        refine lv_goto (tgt := 45) hx hb dX5_mostLength_41 (by decide) ?_
        refine lv_lstore_n (lv' := [(2, .long v_12), (4, .int v_2), (0, .ref gh), (1, .int ra)]) hx hb dX5_mostLength_45 rfl hl (by decide) rfl (fun ls1 hl1 => ?_)
        replace hl := hl1; clear hl1
        refine sf_iinc hx hb dX5_mostLength_46 hl (k := 1) (x := v_2) (w := 1) rfl (by decide) (by decide) ⟨by omega, by omega⟩ (fun v_14 q_v_14 ls1 hl1 => ?_)
        replace hl : lv_has ls1 5 [(4, .int v_14), (2, .long v_12), (0, .ref gh), (1, .int ra)] := hl1
        clear hl1
        refine lv_goto (tgt := 5) hx hb dX5_mostLength_49 (by decide) ?_
        exact ih_1 (v_14, v_12) (show (0 ≤ v_14.toInt ∧ v_14.toInt ≤ 40) ∧ (0 ≤ v_12.toInt ∧ v_12.toInt ≤ 12) ∧ (∀ j : Nat, (j : Int) < v_14.toInt → sbit (gc_sites (ra).toNatClampNeg) j → (gc_most j).toInt ≤ v_12.toInt) from ⟨⟨by omega, by omega⟩, ⟨by omega, by omega⟩, (fun j hj hs => by have nk := nn_cl (z := v_2) (by omega); by_cases hq : j = (v_2).toNatClampNeg; (· subst hq; omega); (· have b8 := x_1_0 j (by omega) hs; omega))⟩) (by show (40 - v_14.toInt).toNat < (40 - v_2.toInt).toNat; omega) _ _ _ (hP.sub [1, 2, 0] rfl) (hD.sub [1, 2, 0] (by decide) rfl) hS (lv_sub hl [0, 1, 2, 3] rfl)
