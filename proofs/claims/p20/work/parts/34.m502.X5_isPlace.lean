def v_X5_isPlace : List Cond := .code yX5_isPlace cX5_isPlace 7 (some .boolean) :: ([.fieldLink RX5 75 "ArraySegmentsModel" "means" "[I", .fieldLink RX5 78 "ArraySegmentsModel" "laneOf" "[I", .methodLink RX5 288 yX5_fail, .instanceMethod yX5_fail, .selects RX5 yX5_fail yX5_fail, .initialized RX5, .fieldLink RX5 81 "ArraySegmentsModel" "sizeOf" "[I"] ++ (wsX50 ++ (v_X5_fail)))
theorem inv_X5_isPlace_X5 : ∀ w ∈ wsX50, w ∈ v_X5_isPlace := fun _ h => List.mem_cons_of_mem _ (List.mem_append_right _ (List.mem_append_left _ h))
theorem im_X5_isPlace_X5_fail : ∀ w ∈ v_X5_fail, w ∈ v_X5_isPlace := fun _ h => List.mem_cons_of_mem _ (List.mem_append_right _ (List.mem_append_right _ (h)))
set_option maxRecDepth 20000 in
theorem gd_X5_isPlace : gdL v_X5_isPlace := gdC (gdW (by decide +kernel)) (gdA (gdW (by decide +kernel)) (gdA gd_wsX50 gd_X5_fail))
set_option maxRecDepth 20000 in
theorem h_X5_isPlace_X5_fail_288 : GoodIn v_X5_isPlace (wsV RX5 288 RX5 yX5_fail v_X5_fail) := gdI [3, 4, 5, 6] rfl (by decide +kernel) (im_X5_isPlace_X5_fail) gd_X5_fail
abbrev sw_X5_isPlace (cI cJ cZ : ClassId) (gh : Nat) (g_acts : Int32) (g_kind : Value) (g_na : Value) (g_nb : Value) (g_nc : Value) (g_nd : Value) (g_ne : Value) (g_dropped : Value) (g_live : Value) (g_low : Value) (g_high : Value) (g_sites : Value) (g_nulls : Value) (g_there : Value) (g_lanes : Value) (g_least : Value) (g_most : Value) (g_placeLow : Value) (g_placeHigh : Value) (g_reached : Value) (g_mayThrow : Value) (g_status : Int32) (g_hasRun : Int32) (g_threw : Int32) (g_whereThrown : Int32) (g_value : Value) (ga_means : Nat) (ga_laneOf : Nat) (ga_sizeOf : Nat) (g_cells : Value) (g_copied : Value) (g_state : Int64) (g_joinedLow : Int64) (g_joinedHigh : Int64) (g_keptLow : Value) (g_keptHigh : Value) (gc_means : Nat → Int32) (gc_laneOf : Nat → Int32) (gc_sizeOf : Nat → Int32) (ia : Int32) (ra : Int32) (la : Int32) (pa : Int32) : va_W := [(gh, .inr (5, [.int g_acts, g_kind, g_na, g_nb, g_nc, g_nd, g_ne, g_dropped, g_live, g_low, g_high, g_sites, g_nulls, g_there, g_lanes, g_least, g_most, g_placeLow, g_placeHigh, g_reached, g_mayThrow, .int g_status, .int g_hasRun, .int g_threw, .int g_whereThrown, g_value, .ref ga_means, .ref ga_laneOf, .ref ga_sizeOf, g_cells, g_copied, .long g_state, .long g_joinedLow, .long g_joinedHigh, g_keptLow, g_keptHigh])), (ga_means, .inl (cI, 6, .inl gc_means)), (ga_laneOf, .inl (cI, 40, .inl gc_laneOf)), (ga_sizeOf, .inl (cI, 40, .inl gc_sizeOf))]
set_option maxHeartbeats 8000000 in
set_option maxRecDepth 100000 in
theorem s_X5_isPlace (l : Launch) (dC : Nat → ClassId) (dI : Nat → Nat → Nat) (cI cJ cZ : ClassId) (gh : Nat) (g_acts : Int32) (g_kind : Value) (g_na : Value) (g_nb : Value) (g_nc : Value) (g_nd : Value) (g_ne : Value) (g_dropped : Value) (g_live : Value) (g_low : Value) (g_high : Value) (g_sites : Value) (g_nulls : Value) (g_there : Value) (g_lanes : Value) (g_least : Value) (g_most : Value) (g_placeLow : Value) (g_placeHigh : Value) (g_reached : Value) (g_mayThrow : Value) (g_status : Int32) (g_hasRun : Int32) (g_threw : Int32) (g_whereThrown : Int32) (g_value : Value) (ga_means : Nat) (ga_laneOf : Nat) (ga_sizeOf : Nat) (g_cells : Value) (g_copied : Value) (g_state : Int64) (g_joinedLow : Int64) (g_joinedHigh : Int64) (g_keptLow : Value) (g_keptHigh : Value) (gc_means : Nat → Int32) (gc_laneOf : Nat → Int32) (gc_sizeOf : Nat → Int32) (ia : Int32) (ra : Int32) (la : Int32) (pa : Int32) (sz : Nat) (q_g_hasRun : kZ g_hasRun) (h_gc_means : ∀ j : Nat, kSITE (gc_means j)) (h_gc_laneOf : ∀ j : Nat, kL3 (gc_laneOf j)) (h_gc_sizeOf : ∀ j : Nat, kR012 (gc_sizeOf j)) (hy_ra : V6 ra) : Met l yX5_isPlace v_X5_isPlace ({ frames := 1, cells := 0, slots := 0, locals := 22 }) (va_Pc [.ref gh, .int ia, .int ra, .int la, .int pa] (cPre dC dI cI cJ cZ sz (sw_X5_isPlace cI cJ cZ gh g_acts g_kind g_na g_nb g_nc g_nd g_ne g_dropped g_live g_low g_high g_sites g_nulls g_there g_lanes g_least g_most g_placeLow g_placeHigh g_reached g_mayThrow g_status g_hasRun g_threw g_whereThrown g_value ga_means ga_laneOf ga_sizeOf g_cells g_copied g_state g_joinedLow g_joinedHigh g_keptLow g_keptHigh gc_means gc_laneOf gc_sizeOf ia ra la pa))) (va_Qi (fun (r : Int32) (u : Int32 × Int32) => (kZ r) ∧ ((¬ r.toInt = 0 ∧ (u.1).toInt = g_threw.toInt ∧ (u.2).toInt = g_whereThrown.toInt ∧ plN gc_laneOf gc_sizeOf (gc_means (ra).toNatClampNeg) la pa) ∨ (r.toInt = 0 ∧ plT gc_laneOf gc_sizeOf (gc_means (ra).toNatClampNeg) la pa (u.1) ∧ (u.2).toInt = ia.toInt))) (fun (u : Int32 × Int32) => cPost dC dI cI cJ cZ (va_A (sw_X5_isPlace cI cJ cZ gh g_acts g_kind g_na g_nb g_nc g_nd g_ne g_dropped g_live g_low g_high g_sites g_nulls g_there g_lanes g_least g_most g_placeLow g_placeHigh g_reached g_mayThrow g_status g_hasRun g_threw g_whereThrown g_value ga_means ga_laneOf ga_sizeOf g_cells g_copied g_state g_joinedLow g_joinedHigh g_keptLow g_keptHigh gc_means gc_laneOf gc_sizeOf ia ra la pa) sz) [(gh, .inr (5, [.int g_acts, g_kind, g_na, g_nb, g_nc, g_nd, g_ne, g_dropped, g_live, g_low, g_high, g_sites, g_nulls, g_there, g_lanes, g_least, g_most, g_placeLow, g_placeHigh, g_reached, g_mayThrow, .int g_status, .int g_hasRun, .int (u.1), .int (u.2), g_value, .ref ga_means, .ref ga_laneOf, .ref ga_sizeOf, g_cells, g_copied, .long g_state, .long g_joinedLow, .long g_joinedHigh, g_keptLow, g_keptHigh])), (ga_means, .inl (cI, 6, .inl gc_means)), (ga_laneOf, .inl (cI, 40, .inl gc_laneOf)), (ga_sizeOf, .inl (cI, 40, .inl gc_sizeOf))]) (va_A (sw_X5_isPlace cI cJ cZ gh g_acts g_kind g_na g_nb g_nc g_nd g_ne g_dropped g_live g_low g_high g_sites g_nulls g_there g_lanes g_least g_most g_placeLow g_placeHigh g_reached g_mayThrow g_status g_hasRun g_threw g_whereThrown g_value ga_means ga_laneOf ga_sizeOf g_cells g_copied g_state g_joinedLow g_joinedHigh g_keptLow g_keptHigh gc_means gc_laneOf gc_sizeOf ia ra la pa) sz)) 0 0 (va_A (sw_X5_isPlace cI cJ cZ gh g_acts g_kind g_na g_nb g_nc g_nd g_ne g_dropped g_live g_low g_high g_sites g_nulls g_there g_lanes g_least g_most g_placeLow g_placeHigh g_reached g_mayThrow g_status g_hasRun g_threw g_whereThrown g_value ga_means ga_laneOf ga_sizeOf g_cells g_copied g_state g_joinedLow g_joinedHigh g_keptLow g_keptHigh gc_means gc_laneOf gc_sizeOf ia ra la pa) sz) := by
  refine Met.ofW (cc := cX5_isPlace) (maxL := 7) (ret := (some .boolean)) (by decide) rfl ?_
  intro p e s m args below meth c s₁ B hml hv
  obtain ⟨rfl, hsz, hP, hK, hD0, hN⟩ := hv
  have hx := B.exec
  have hb := B.bytes
  have hr := B.returns
  have hts := atoms_spec (ws := v_X5_isPlace) B.pre
  have hown : s.vm.findClass RX5 = some m.cls := findClass_of_methodNamed B.named
  have hlocks := B.notSynchronized
  subst hsz
  have hD := hD0.self (sz := s.heap.size)
  generalize hAe : va_A (sw_X5_isPlace cI cJ cZ gh g_acts g_kind g_na g_nb g_nc g_nd g_ne g_dropped g_live g_low g_high g_sites g_nulls g_there g_lanes g_least g_most g_placeLow g_placeHigh g_reached g_mayThrow g_status g_hasRun g_threw g_whereThrown g_value ga_means ga_laneOf ga_sizeOf g_cells g_copied g_state g_joinedLow g_joinedHigh g_keptLow g_keptHigh gc_means gc_laneOf gc_sizeOf ia ra la pa) s.heap.size = A at hD ⊢
  have hA : ∀ q : Nat, s.heap.size ≤ q → A q := fun q h => by rw [← hAe]; exact Or.inr h
  clear hAe hD0
  have hS : va_S A s.heap s.heap [] := va_S.rf
  replace hP : va_P (dC, dI) vwCl [(gh, .inr (5, [.int g_acts, g_kind, g_na, g_nb, g_nc, g_nd, g_ne, g_dropped, g_live, g_low, g_high, g_sites, g_nulls, g_there, g_lanes, g_least, g_most, g_placeLow, g_placeHigh, g_reached, g_mayThrow, .int g_status, .int g_hasRun, .int g_threw, .int g_whereThrown, g_value, .ref ga_means, .ref ga_laneOf, .ref ga_sizeOf, g_cells, g_copied, .long g_state, .long g_joinedLow, .long g_joinedHigh, g_keptLow, g_keptHigh])), (ga_means, .inl (cI, 6, .inl gc_means)), (ga_laneOf, .inl (cI, 40, .inl gc_laneOf)), (ga_sizeOf, .inl (cI, 40, .inl gc_sizeOf))] s.heap := hP
  replace hD : va_D A [(gh, .inr (5, [.int g_acts, g_kind, g_na, g_nb, g_nc, g_nd, g_ne, g_dropped, g_live, g_low, g_high, g_sites, g_nulls, g_there, g_lanes, g_least, g_most, g_placeLow, g_placeHigh, g_reached, g_mayThrow, .int g_status, .int g_hasRun, .int g_threw, .int g_whereThrown, g_value, .ref ga_means, .ref ga_laneOf, .ref ga_sizeOf, g_cells, g_copied, .long g_state, .long g_joinedLow, .long g_joinedHigh, g_keptLow, g_keptHigh])), (ga_means, .inl (cI, 6, .inl gc_means)), (ga_laneOf, .inl (cI, 40, .inl gc_laneOf)), (ga_sizeOf, .inl (cI, 40, .inl gc_sizeOf))] := hD
  have hl := lv_entry ([.ref gh, .int ia, .int ra, .int la, .int pa]) (n := 7) (Nat.le_of_ble_eq_true rfl)
  rw [lg_entry_eq]
  generalize (lg_sl ([.ref gh, .int ia, .int ra, .int la, .int pa]) ++ List.replicate (7 - (lg_sl ([.ref gh, .int ia, .int ra, .int la, .int pa])).length) Slot.unset).toArray = ls at hl ⊢
  replace hl : lv_has ls 7 [(0, .ref gh), (1, .int ia), (2, .int ra), (3, .int la), (4, .int pa)] := hl
  have z_0 : (0 : Int32).toInt = 0 := by decide
  have z_1 : (1 : Int32).toInt = 1 := by decide
  have z_2 : (2 : Int32).toInt = 2 := by decide
  have z_5 : (5 : Int32).toInt = 5 := by decide
  refine lv_aload_n hx hb dX5_isPlace_0 rfl (lv_at hl 0 rfl) ?_
  refine va_get (D := (dC, dI)) (ci := 5) (v := .ref ga_means) (C := RX5) (T := TX5) (N := 36) hx hb hts inv_X5_isPlace_X5 hown hK hP 0 rfl rfl 26 (by decide) (hts (.fieldLink RX5 75 "ArraySegmentsModel" "means" "[I") (List.mem_of_getElem? (i := 1) rfl)) (fun _ h9 => h9) rfl dX5_isPlace_1 ?_
  refine lv_iload_n hx hb dX5_isPlace_4 rfl (lv_at hl 2 rfl) ?_
  refine sf_iald kSITE hx hb hK hP 1 0 rfl rfl h_gc_means (vp_in_iff.mpr ⟨by omega, by omega⟩) dX5_isPlace_5 (fun v_1 q_v_1 e_v_1 => ?_)
  have et_v_1 : v_1.toInt = (gc_means (ra).toNatClampNeg).toInt := by rw [e_v_1]
  have ni_2 := nn_cl (z := ra) (by omega)
  refine lv_istore (lv' := [(5, .int v_1), (0, .ref gh), (1, .int ia), (2, .int ra), (3, .int la), (4, .int pa)]) hx hb dX5_isPlace_6 hl (by decide) rfl (fun ls1 hl1 => ?_)
  replace hl := hl1; clear hl1
  refine lv_iload hx hb dX5_isPlace_8 (lv_at hl 0 rfl) ?_
  refine lv_if_ge (tgt := 17) hx hb dX5_isPlace_10 (by decide) (fun c_3 => ?_) (fun c_3 => ?_)
  · -- yes
    have k_3 : (0 : Int32).toInt ≤ v_1.toInt := ci_ge c_3
    refine lv_aload_n hx hb dX5_isPlace_17 rfl (lv_at hl 1 rfl) ?_
    refine va_get (D := (dC, dI)) (ci := 5) (v := .ref ga_laneOf) (C := RX5) (T := TX5) (N := 36) hx hb hts inv_X5_isPlace_X5 hown hK hP 0 rfl rfl 27 (by decide) (hts (.fieldLink RX5 78 "ArraySegmentsModel" "laneOf" "[I") (List.mem_of_getElem? (i := 2) rfl)) (fun _ h9 => h9) rfl dX5_isPlace_18 ?_
    refine lv_iload hx hb dX5_isPlace_21 (lv_at hl 0 rfl) ?_
    refine sf_iald kL3 hx hb hK hP 2 0 rfl rfl h_gc_laneOf (vp_in_iff.mpr ⟨by omega, by omega⟩) dX5_isPlace_23 (fun v_4 q_v_4 e_v_4 => ?_)
    have et_v_4 : v_4.toInt = (gc_laneOf (v_1).toNatClampNeg).toInt := by rw [e_v_4]
    have ni_5 := nn_cl (z := v_1) (by omega)
    rw [e_v_1] at et_v_4
    refine lv_iload_n hx hb dX5_isPlace_24 rfl (lv_at hl 4 rfl) ?_
    refine lv_icmp_eq (tgt := 32) hx hb dX5_isPlace_25 (by decide) (fun c_6 => ?_) (fun c_6 => ?_)
    · -- yes
      have k_6 : v_4.toInt = la.toInt := ci_eq c_6
      refine lv_iload hx hb dX5_isPlace_32 (lv_at hl 5 rfl) ?_
      refine lv_if_lt (tgt := 49) hx hb dX5_isPlace_34 (by decide) (fun c_7 => ?_) (fun c_7 => ?_)
      · -- yes
        have k_7 : pa.toInt < (0 : Int32).toInt := ci_lt c_7
        refine lv_iconst (v := 5) hx hb dX5_isPlace_49 (by decide) ?_
        refine lv_goto (tgt := 54) hx hb dX5_isPlace_50 (by decide) ?_
        refine lv_istore (lv' := [(6, .int 5), (5, .int v_1), (0, .ref gh), (1, .int ia), (2, .int ra), (3, .int la), (4, .int pa)]) hx hb dX5_isPlace_54 hl (by decide) rfl (fun ls1 hl1 => ?_)
        replace hl := hl1; clear hl1
        refine lv_iload hx hb dX5_isPlace_56 (lv_at hl 0 rfl) ?_
        refine lv_if_le (tgt := 68) hx hb dX5_isPlace_58 (by decide) (fun c_8 => ?_) (fun c_8 => ?_)
        · -- yes
          have k_8 : (5 : Int32).toInt ≤ (0 : Int32).toInt := ci_le c_8
          exfalso; omega
        · -- no
          have k_8 : (0 : Int32).toInt < (5 : Int32).toInt := ci_nle c_8
          refine lv_aload_n hx hb dX5_isPlace_61 rfl (lv_at hl 2 rfl) ?_
          refine lv_iload_n hx hb dX5_isPlace_62 rfl (lv_at hl 3 rfl) ?_
          refine lv_iload hx hb dX5_isPlace_63 (lv_at hl 0 rfl) ?_
          have hPc := hP.sub (ws' := [(gh, .inr (5, [.int g_acts, g_kind, g_na, g_nb, g_nc, g_nd, g_ne, g_dropped, g_live, g_low, g_high, g_sites, g_nulls, g_there, g_lanes, g_least, g_most, g_placeLow, g_placeHigh, g_reached, g_mayThrow, .int g_status, .int g_hasRun, .int g_threw, .int g_whereThrown, g_value, .ref ga_means, .ref ga_laneOf, .ref ga_sizeOf, g_cells, g_copied, .long g_state, .long g_joinedLow, .long g_joinedHigh, g_keptLow, g_keptHigh]))]) [0] rfl
          have hDc := hD.sub (ws' := [(gh, .inr (5, [.int g_acts, g_kind, g_na, g_nb, g_nc, g_nd, g_ne, g_dropped, g_live, g_low, g_high, g_sites, g_nulls, g_there, g_lanes, g_least, g_most, g_placeLow, g_placeHigh, g_reached, g_mayThrow, .int g_status, .int g_hasRun, .int g_threw, .int g_whereThrown, g_value, .ref ga_means, .ref ga_laneOf, .ref ga_sizeOf, g_cells, g_copied, .long g_state, .long g_joinedLow, .long g_joinedHigh, g_keptLow, g_keptHigh]))]) [0] (by decide) rfl
          have hFc := va_free (wc := [(gh, .inr (5, [.int g_acts, g_kind, g_na, g_nb, g_nc, g_nd, g_ne, g_dropped, g_live, g_low, g_high, g_sites, g_nulls, g_there, g_lanes, g_least, g_most, g_placeLow, g_placeHigh, g_reached, g_mayThrow, .int g_status, .int g_hasRun, .int g_threw, .int g_whereThrown, g_value, .ref ga_means, .ref ga_laneOf, .ref ga_sizeOf, g_cells, g_copied, .long g_state, .long g_joinedLow, .long g_joinedHigh, g_keptLow, g_keptHigh]))]) hD hS hA [0] rfl
          refine va_callv (va_runV (As := [.int ia, .int 5]) (rest := []) ⟨hx, hb, hml, hown, hts⟩ (s_X5_fail l dC dI cI cJ cZ gh g_acts g_kind g_na g_nb g_nc g_nd g_ne g_dropped g_live g_low g_high g_sites g_nulls g_there g_lanes g_least g_most g_placeLow g_placeHigh g_reached g_mayThrow g_status g_hasRun g_threw g_whereThrown g_value (.ref ga_means) (.ref ga_laneOf) (.ref ga_sizeOf) g_cells g_copied g_state g_joinedLow g_joinedHigh g_keptLow g_keptHigh ia 5 s.heap.size q_g_hasRun) (cwV 2 hts h_X5_isPlace_X5_fail_288 rfl rfl rfl (by decide +kernel) ⟨Nat.le_of_ble_eq_true rfl, Nat.le_of_ble_eq_true rfl⟩) ⟨cPre_blind, va_recv hK hPc (ci := 5) (q0 := 0) rfl rfl, cPre_of hK hN hPc hDc⟩ rfl rfl hl.1 rfl (lv_room (Nat.le_of_ble_eq_true rfl)) dX5_isPlace_65 ⟨Nat.le_of_ble_eq_true rfl, Nat.le_of_ble_eq_true rfl⟩) hS (fun q _ h => hFc q h) hFc (fun u_9 t_9 H_9 locs_9 ht hvm hw_9 hB hz1 hk1 hS1 => ?_)
          obtain ⟨v_10, v_11⟩ := u_9
          obtain ⟨hP1, hK1, hD1⟩ := hB
          rw [ht] at hP1
          obtain ⟨hP2, hD2⟩ := va_join (wr := [(ga_means, .inl (cI, 6, .inl gc_means)), (ga_laneOf, .inl (cI, 40, .inl gc_laneOf)), (ga_sizeOf, .inl (cI, 40, .inl gc_sizeOf))]) (w1 := [(gh, .inr (5, [.int g_acts, g_kind, g_na, g_nb, g_nc, g_nd, g_ne, g_dropped, g_live, g_low, g_high, g_sites, g_nulls, g_there, g_lanes, g_least, g_most, g_placeLow, g_placeHigh, g_reached, g_mayThrow, .int g_status, .int g_hasRun, .int v_10, .int v_11, g_value, .ref ga_means, .ref ga_laneOf, .ref ga_sizeOf, g_cells, g_copied, .long g_state, .long g_joinedLow, .long g_joinedHigh, g_keptLow, g_keptHigh]))]) hP hD [0] [1, 2, 3] rfl rfl (by decide) (by decide) hk1 hFc hP1 hD1
          clear hPc hDc hFc hP1 hD1 hK1 hk1 hz1 hvm ht
          replace hP : va_P (dC, dI) vwCl [(ga_means, .inl (cI, 6, .inl gc_means)), (ga_laneOf, .inl (cI, 40, .inl gc_laneOf)), (ga_sizeOf, .inl (cI, 40, .inl gc_sizeOf)), (gh, .inr (5, [.int g_acts, g_kind, g_na, g_nb, g_nc, g_nd, g_ne, g_dropped, g_live, g_low, g_high, g_sites, g_nulls, g_there, g_lanes, g_least, g_most, g_placeLow, g_placeHigh, g_reached, g_mayThrow, .int g_status, .int g_hasRun, .int v_10, .int v_11, g_value, .ref ga_means, .ref ga_laneOf, .ref ga_sizeOf, g_cells, g_copied, .long g_state, .long g_joinedLow, .long g_joinedHigh, g_keptLow, g_keptHigh]))] H_9 := hP2
          replace hD : va_D A [(ga_means, .inl (cI, 6, .inl gc_means)), (ga_laneOf, .inl (cI, 40, .inl gc_laneOf)), (ga_sizeOf, .inl (cI, 40, .inl gc_sizeOf)), (gh, .inr (5, [.int g_acts, g_kind, g_na, g_nb, g_nc, g_nd, g_ne, g_dropped, g_live, g_low, g_high, g_sites, g_nulls, g_there, g_lanes, g_least, g_most, g_placeLow, g_placeHigh, g_reached, g_mayThrow, .int g_status, .int g_hasRun, .int v_10, .int v_11, g_value, .ref ga_means, .ref ga_laneOf, .ref ga_sizeOf, g_cells, g_copied, .long g_state, .long g_joinedLow, .long g_joinedHigh, g_keptLow, g_keptHigh]))] := hD2
          replace hS := hS1
          clear hP2 hD2 hS1
          replace hw_9 : (v_10.toInt = (5 : Int32).toInt) ∧ (v_11.toInt = ia.toInt) := hw_9
          obtain ⟨x_9_0, x_9_1⟩ := hw_9
          refine lv_iload hx hb dX5_isPlace_68 (lv_at hl 0 rfl) ?_
          refine lv_if_ne (tgt := 77) hx hb dX5_isPlace_70 (by decide) (fun c_12 => ?_) (fun c_12 => ?_)
          · -- yes
            have k_12 : ¬ (5 : Int32).toInt = (0 : Int32).toInt := ci_ne c_12
            refine lv_iconst (v := 0) hx hb dX5_isPlace_77 (by decide) ?_
            have hP9 := hP.sub (ws' := [(gh, .inr (5, [.int g_acts, g_kind, g_na, g_nb, g_nc, g_nd, g_ne, g_dropped, g_live, g_low, g_high, g_sites, g_nulls, g_there, g_lanes, g_least, g_most, g_placeLow, g_placeHigh, g_reached, g_mayThrow, .int g_status, .int g_hasRun, .int v_10, .int v_11, g_value, .ref ga_means, .ref ga_laneOf, .ref ga_sizeOf, g_cells, g_copied, .long g_state, .long g_joinedLow, .long g_joinedHigh, g_keptLow, g_keptHigh])), (ga_means, .inl (cI, 6, .inl gc_means)), (ga_laneOf, .inl (cI, 40, .inl gc_laneOf)), (ga_sizeOf, .inl (cI, 40, .inl gc_sizeOf))]) [3, 0, 1, 2] rfl
            have hD9 := hD.sub (ws' := [(gh, .inr (5, [.int g_acts, g_kind, g_na, g_nb, g_nc, g_nd, g_ne, g_dropped, g_live, g_low, g_high, g_sites, g_nulls, g_there, g_lanes, g_least, g_most, g_placeLow, g_placeHigh, g_reached, g_mayThrow, .int g_status, .int g_hasRun, .int v_10, .int v_11, g_value, .ref ga_means, .ref ga_laneOf, .ref ga_sizeOf, g_cells, g_copied, .long g_state, .long g_joinedLow, .long g_joinedHigh, g_keptLow, g_keptHigh])), (ga_means, .inl (cI, 6, .inl gc_means)), (ga_laneOf, .inl (cI, 40, .inl gc_laneOf)), (ga_sizeOf, .inl (cI, 40, .inl gc_sizeOf))]) [3, 0, 1, 2] (by decide) rfl
            exact W.zret (v := 0) (ty := .boolean) hx hb hr rfl (fun t ht hW => ⟨⟨0, (v_10, v_11), rfl, ⟨(show kZ (0 : Int32) from (by decide)), (show (¬ (0 : Int32).toInt = 0 ∧ v_10.toInt = g_threw.toInt ∧ v_11.toInt = g_whereThrown.toInt ∧ plN gc_laneOf gc_sizeOf (gc_means (ra).toNatClampNeg) la pa) ∨ ((0 : Int32).toInt = 0 ∧ plT gc_laneOf gc_sizeOf (gc_means (ra).toNatClampNeg) la pa v_10 ∧ v_11.toInt = ia.toInt) from (by omega))⟩, by rw [ht]; exact hP9, va_K.moved hW.alike hK, hD9⟩, hS.F ht⟩) hS.2.2 dX5_isPlace_78
          · -- no
            have k_12 : (5 : Int32).toInt = (0 : Int32).toInt := ci_eq c_12
            exfalso; omega
      · -- no
        have k_7 : (0 : Int32).toInt ≤ pa.toInt := ci_nlt c_7
        refine lv_iload hx hb dX5_isPlace_37 (lv_at hl 5 rfl) ?_
        refine lv_aload_n hx hb dX5_isPlace_39 rfl (lv_at hl 1 rfl) ?_
        refine va_get (D := (dC, dI)) (ci := 5) (v := .ref ga_sizeOf) (C := RX5) (T := TX5) (N := 36) hx hb hts inv_X5_isPlace_X5 hown hK hP 0 rfl rfl 28 (by decide) (hts (.fieldLink RX5 81 "ArraySegmentsModel" "sizeOf" "[I") (List.mem_of_getElem? (i := 7) rfl)) (fun _ h9 => h9) rfl dX5_isPlace_40 ?_
        refine lv_iload hx hb dX5_isPlace_43 (lv_at hl 0 rfl) ?_
        refine sf_iald kR012 hx hb hK hP 3 0 rfl rfl h_gc_sizeOf (vp_in_iff.mpr ⟨by omega, by omega⟩) dX5_isPlace_45 (fun v_13 q_v_13 e_v_13 => ?_)
        have et_v_13 : v_13.toInt = (gc_sizeOf (v_1).toNatClampNeg).toInt := by rw [e_v_13]
        have ni_14 := nn_cl (z := v_1) (by omega)
        rw [e_v_1] at et_v_13
        refine lv_icmp_lt (tgt := 53) hx hb dX5_isPlace_46 (by decide) (fun c_15 => ?_) (fun c_15 => ?_)
        · -- yes
          have k_15 : pa.toInt < v_13.toInt := ci_lt c_15
          refine lv_iconst (v := 0) hx hb dX5_isPlace_53 (by decide) ?_
          refine lv_istore (lv' := [(6, .int 0), (5, .int v_1), (0, .ref gh), (1, .int ia), (2, .int ra), (3, .int la), (4, .int pa)]) hx hb dX5_isPlace_54 hl (by decide) rfl (fun ls1 hl1 => ?_)
          replace hl := hl1; clear hl1
          refine lv_iload hx hb dX5_isPlace_56 (lv_at hl 0 rfl) ?_
          refine lv_if_le (tgt := 68) hx hb dX5_isPlace_58 (by decide) (fun c_16 => ?_) (fun c_16 => ?_)
          · -- yes
            have k_16 : (0 : Int32).toInt ≤ (0 : Int32).toInt := ci_le c_16
            refine lv_iload hx hb dX5_isPlace_68 (lv_at hl 0 rfl) ?_
            refine lv_if_ne (tgt := 77) hx hb dX5_isPlace_70 (by decide) (fun c_17 => ?_) (fun c_17 => ?_)
            · -- yes
              have k_17 : ¬ (0 : Int32).toInt = (0 : Int32).toInt := ci_ne c_17
              exfalso; omega
            · -- no
              have k_17 : (0 : Int32).toInt = (0 : Int32).toInt := ci_eq c_17
              refine lv_iconst (v := 1) hx hb dX5_isPlace_73 (by decide) ?_
              refine lv_goto (tgt := 78) hx hb dX5_isPlace_74 (by decide) ?_
              have hP9 := hP.sub (ws' := [(gh, .inr (5, [.int g_acts, g_kind, g_na, g_nb, g_nc, g_nd, g_ne, g_dropped, g_live, g_low, g_high, g_sites, g_nulls, g_there, g_lanes, g_least, g_most, g_placeLow, g_placeHigh, g_reached, g_mayThrow, .int g_status, .int g_hasRun, .int g_threw, .int g_whereThrown, g_value, .ref ga_means, .ref ga_laneOf, .ref ga_sizeOf, g_cells, g_copied, .long g_state, .long g_joinedLow, .long g_joinedHigh, g_keptLow, g_keptHigh])), (ga_means, .inl (cI, 6, .inl gc_means)), (ga_laneOf, .inl (cI, 40, .inl gc_laneOf)), (ga_sizeOf, .inl (cI, 40, .inl gc_sizeOf))]) [0, 1, 2, 3] rfl
              have hD9 := hD.sub (ws' := [(gh, .inr (5, [.int g_acts, g_kind, g_na, g_nb, g_nc, g_nd, g_ne, g_dropped, g_live, g_low, g_high, g_sites, g_nulls, g_there, g_lanes, g_least, g_most, g_placeLow, g_placeHigh, g_reached, g_mayThrow, .int g_status, .int g_hasRun, .int g_threw, .int g_whereThrown, g_value, .ref ga_means, .ref ga_laneOf, .ref ga_sizeOf, g_cells, g_copied, .long g_state, .long g_joinedLow, .long g_joinedHigh, g_keptLow, g_keptHigh])), (ga_means, .inl (cI, 6, .inl gc_means)), (ga_laneOf, .inl (cI, 40, .inl gc_laneOf)), (ga_sizeOf, .inl (cI, 40, .inl gc_sizeOf))]) [0, 1, 2, 3] (by decide) rfl
              exact W.zret (v := 1) (ty := .boolean) hx hb hr rfl (fun t ht hW => ⟨⟨1, (g_threw, g_whereThrown), rfl, ⟨(show kZ (1 : Int32) from (by decide)), (show (¬ (1 : Int32).toInt = 0 ∧ g_threw.toInt = g_threw.toInt ∧ g_whereThrown.toInt = g_whereThrown.toInt ∧ plN gc_laneOf gc_sizeOf (gc_means (ra).toNatClampNeg) la pa) ∨ ((1 : Int32).toInt = 0 ∧ plT gc_laneOf gc_sizeOf (gc_means (ra).toNatClampNeg) la pa g_threw ∧ g_whereThrown.toInt = ia.toInt) from (by omega))⟩, by rw [ht]; exact hP9, va_K.moved hW.alike hK, hD9⟩, hS.F ht⟩) hS.2.2 dX5_isPlace_78
          · -- no
            have k_16 : (0 : Int32).toInt < (0 : Int32).toInt := ci_nle c_16
            exfalso; omega
        · -- no
          have k_15 : v_13.toInt ≤ pa.toInt := ci_nlt c_15
          refine lv_iconst (v := 5) hx hb dX5_isPlace_49 (by decide) ?_
          refine lv_goto (tgt := 54) hx hb dX5_isPlace_50 (by decide) ?_
          refine lv_istore (lv' := [(6, .int 5), (5, .int v_1), (0, .ref gh), (1, .int ia), (2, .int ra), (3, .int la), (4, .int pa)]) hx hb dX5_isPlace_54 hl (by decide) rfl (fun ls1 hl1 => ?_)
          replace hl := hl1; clear hl1
          refine lv_iload hx hb dX5_isPlace_56 (lv_at hl 0 rfl) ?_
          refine lv_if_le (tgt := 68) hx hb dX5_isPlace_58 (by decide) (fun c_18 => ?_) (fun c_18 => ?_)
          · -- yes
            have k_18 : (5 : Int32).toInt ≤ (0 : Int32).toInt := ci_le c_18
            exfalso; omega
          · -- no
            have k_18 : (0 : Int32).toInt < (5 : Int32).toInt := ci_nle c_18
            refine lv_aload_n hx hb dX5_isPlace_61 rfl (lv_at hl 2 rfl) ?_
            refine lv_iload_n hx hb dX5_isPlace_62 rfl (lv_at hl 3 rfl) ?_
            refine lv_iload hx hb dX5_isPlace_63 (lv_at hl 0 rfl) ?_
            have hPc := hP.sub (ws' := [(gh, .inr (5, [.int g_acts, g_kind, g_na, g_nb, g_nc, g_nd, g_ne, g_dropped, g_live, g_low, g_high, g_sites, g_nulls, g_there, g_lanes, g_least, g_most, g_placeLow, g_placeHigh, g_reached, g_mayThrow, .int g_status, .int g_hasRun, .int g_threw, .int g_whereThrown, g_value, .ref ga_means, .ref ga_laneOf, .ref ga_sizeOf, g_cells, g_copied, .long g_state, .long g_joinedLow, .long g_joinedHigh, g_keptLow, g_keptHigh]))]) [0] rfl
            have hDc := hD.sub (ws' := [(gh, .inr (5, [.int g_acts, g_kind, g_na, g_nb, g_nc, g_nd, g_ne, g_dropped, g_live, g_low, g_high, g_sites, g_nulls, g_there, g_lanes, g_least, g_most, g_placeLow, g_placeHigh, g_reached, g_mayThrow, .int g_status, .int g_hasRun, .int g_threw, .int g_whereThrown, g_value, .ref ga_means, .ref ga_laneOf, .ref ga_sizeOf, g_cells, g_copied, .long g_state, .long g_joinedLow, .long g_joinedHigh, g_keptLow, g_keptHigh]))]) [0] (by decide) rfl
            have hFc := va_free (wc := [(gh, .inr (5, [.int g_acts, g_kind, g_na, g_nb, g_nc, g_nd, g_ne, g_dropped, g_live, g_low, g_high, g_sites, g_nulls, g_there, g_lanes, g_least, g_most, g_placeLow, g_placeHigh, g_reached, g_mayThrow, .int g_status, .int g_hasRun, .int g_threw, .int g_whereThrown, g_value, .ref ga_means, .ref ga_laneOf, .ref ga_sizeOf, g_cells, g_copied, .long g_state, .long g_joinedLow, .long g_joinedHigh, g_keptLow, g_keptHigh]))]) hD hS hA [0] rfl
            refine va_callv (va_runV (As := [.int ia, .int 5]) (rest := []) ⟨hx, hb, hml, hown, hts⟩ (s_X5_fail l dC dI cI cJ cZ gh g_acts g_kind g_na g_nb g_nc g_nd g_ne g_dropped g_live g_low g_high g_sites g_nulls g_there g_lanes g_least g_most g_placeLow g_placeHigh g_reached g_mayThrow g_status g_hasRun g_threw g_whereThrown g_value (.ref ga_means) (.ref ga_laneOf) (.ref ga_sizeOf) g_cells g_copied g_state g_joinedLow g_joinedHigh g_keptLow g_keptHigh ia 5 s.heap.size q_g_hasRun) (cwV 2 hts h_X5_isPlace_X5_fail_288 rfl rfl rfl (by decide +kernel) ⟨Nat.le_of_ble_eq_true rfl, Nat.le_of_ble_eq_true rfl⟩) ⟨cPre_blind, va_recv hK hPc (ci := 5) (q0 := 0) rfl rfl, cPre_of hK hN hPc hDc⟩ rfl rfl hl.1 rfl (lv_room (Nat.le_of_ble_eq_true rfl)) dX5_isPlace_65 ⟨Nat.le_of_ble_eq_true rfl, Nat.le_of_ble_eq_true rfl⟩) hS (fun q _ h => hFc q h) hFc (fun u_19 t_19 H_19 locs_19 ht hvm hw_19 hB hz1 hk1 hS1 => ?_)
            obtain ⟨v_20, v_21⟩ := u_19
            obtain ⟨hP1, hK1, hD1⟩ := hB
            rw [ht] at hP1
            obtain ⟨hP2, hD2⟩ := va_join (wr := [(ga_means, .inl (cI, 6, .inl gc_means)), (ga_laneOf, .inl (cI, 40, .inl gc_laneOf)), (ga_sizeOf, .inl (cI, 40, .inl gc_sizeOf))]) (w1 := [(gh, .inr (5, [.int g_acts, g_kind, g_na, g_nb, g_nc, g_nd, g_ne, g_dropped, g_live, g_low, g_high, g_sites, g_nulls, g_there, g_lanes, g_least, g_most, g_placeLow, g_placeHigh, g_reached, g_mayThrow, .int g_status, .int g_hasRun, .int v_20, .int v_21, g_value, .ref ga_means, .ref ga_laneOf, .ref ga_sizeOf, g_cells, g_copied, .long g_state, .long g_joinedLow, .long g_joinedHigh, g_keptLow, g_keptHigh]))]) hP hD [0] [1, 2, 3] rfl rfl (by decide) (by decide) hk1 hFc hP1 hD1
            clear hPc hDc hFc hP1 hD1 hK1 hk1 hz1 hvm ht
            replace hP : va_P (dC, dI) vwCl [(ga_means, .inl (cI, 6, .inl gc_means)), (ga_laneOf, .inl (cI, 40, .inl gc_laneOf)), (ga_sizeOf, .inl (cI, 40, .inl gc_sizeOf)), (gh, .inr (5, [.int g_acts, g_kind, g_na, g_nb, g_nc, g_nd, g_ne, g_dropped, g_live, g_low, g_high, g_sites, g_nulls, g_there, g_lanes, g_least, g_most, g_placeLow, g_placeHigh, g_reached, g_mayThrow, .int g_status, .int g_hasRun, .int v_20, .int v_21, g_value, .ref ga_means, .ref ga_laneOf, .ref ga_sizeOf, g_cells, g_copied, .long g_state, .long g_joinedLow, .long g_joinedHigh, g_keptLow, g_keptHigh]))] H_19 := hP2
            replace hD : va_D A [(ga_means, .inl (cI, 6, .inl gc_means)), (ga_laneOf, .inl (cI, 40, .inl gc_laneOf)), (ga_sizeOf, .inl (cI, 40, .inl gc_sizeOf)), (gh, .inr (5, [.int g_acts, g_kind, g_na, g_nb, g_nc, g_nd, g_ne, g_dropped, g_live, g_low, g_high, g_sites, g_nulls, g_there, g_lanes, g_least, g_most, g_placeLow, g_placeHigh, g_reached, g_mayThrow, .int g_status, .int g_hasRun, .int v_20, .int v_21, g_value, .ref ga_means, .ref ga_laneOf, .ref ga_sizeOf, g_cells, g_copied, .long g_state, .long g_joinedLow, .long g_joinedHigh, g_keptLow, g_keptHigh]))] := hD2
            replace hS := hS1
            clear hP2 hD2 hS1
            replace hw_19 : (v_20.toInt = (5 : Int32).toInt) ∧ (v_21.toInt = ia.toInt) := hw_19
            obtain ⟨x_19_0, x_19_1⟩ := hw_19
            refine lv_iload hx hb dX5_isPlace_68 (lv_at hl 0 rfl) ?_
            refine lv_if_ne (tgt := 77) hx hb dX5_isPlace_70 (by decide) (fun c_22 => ?_) (fun c_22 => ?_)
            · -- yes
              have k_22 : ¬ (5 : Int32).toInt = (0 : Int32).toInt := ci_ne c_22
              refine lv_iconst (v := 0) hx hb dX5_isPlace_77 (by decide) ?_
              have hP9 := hP.sub (ws' := [(gh, .inr (5, [.int g_acts, g_kind, g_na, g_nb, g_nc, g_nd, g_ne, g_dropped, g_live, g_low, g_high, g_sites, g_nulls, g_there, g_lanes, g_least, g_most, g_placeLow, g_placeHigh, g_reached, g_mayThrow, .int g_status, .int g_hasRun, .int v_20, .int v_21, g_value, .ref ga_means, .ref ga_laneOf, .ref ga_sizeOf, g_cells, g_copied, .long g_state, .long g_joinedLow, .long g_joinedHigh, g_keptLow, g_keptHigh])), (ga_means, .inl (cI, 6, .inl gc_means)), (ga_laneOf, .inl (cI, 40, .inl gc_laneOf)), (ga_sizeOf, .inl (cI, 40, .inl gc_sizeOf))]) [3, 0, 1, 2] rfl
              have hD9 := hD.sub (ws' := [(gh, .inr (5, [.int g_acts, g_kind, g_na, g_nb, g_nc, g_nd, g_ne, g_dropped, g_live, g_low, g_high, g_sites, g_nulls, g_there, g_lanes, g_least, g_most, g_placeLow, g_placeHigh, g_reached, g_mayThrow, .int g_status, .int g_hasRun, .int v_20, .int v_21, g_value, .ref ga_means, .ref ga_laneOf, .ref ga_sizeOf, g_cells, g_copied, .long g_state, .long g_joinedLow, .long g_joinedHigh, g_keptLow, g_keptHigh])), (ga_means, .inl (cI, 6, .inl gc_means)), (ga_laneOf, .inl (cI, 40, .inl gc_laneOf)), (ga_sizeOf, .inl (cI, 40, .inl gc_sizeOf))]) [3, 0, 1, 2] (by decide) rfl
              exact W.zret (v := 0) (ty := .boolean) hx hb hr rfl (fun t ht hW => ⟨⟨0, (v_20, v_21), rfl, ⟨(show kZ (0 : Int32) from (by decide)), (show (¬ (0 : Int32).toInt = 0 ∧ v_20.toInt = g_threw.toInt ∧ v_21.toInt = g_whereThrown.toInt ∧ plN gc_laneOf gc_sizeOf (gc_means (ra).toNatClampNeg) la pa) ∨ ((0 : Int32).toInt = 0 ∧ plT gc_laneOf gc_sizeOf (gc_means (ra).toNatClampNeg) la pa v_20 ∧ v_21.toInt = ia.toInt) from (by omega))⟩, by rw [ht]; exact hP9, va_K.moved hW.alike hK, hD9⟩, hS.F ht⟩) hS.2.2 dX5_isPlace_78
            · -- no
              have k_22 : (5 : Int32).toInt = (0 : Int32).toInt := ci_eq c_22
              exfalso; omega
    · -- no
      have k_6 : ¬ v_4.toInt = la.toInt := ci_ne c_6
      refine lv_iconst (v := 2) hx hb dX5_isPlace_28 (by decide) ?_
      refine lv_goto (tgt := 54) hx hb dX5_isPlace_29 (by decide) ?_
      refine lv_istore (lv' := [(6, .int 2), (5, .int v_1), (0, .ref gh), (1, .int ia), (2, .int ra), (3, .int la), (4, .int pa)]) hx hb dX5_isPlace_54 hl (by decide) rfl (fun ls1 hl1 => ?_)
      replace hl := hl1; clear hl1
      refine lv_iload hx hb dX5_isPlace_56 (lv_at hl 0 rfl) ?_
      refine lv_if_le (tgt := 68) hx hb dX5_isPlace_58 (by decide) (fun c_23 => ?_) (fun c_23 => ?_)
      · -- yes
        have k_23 : (2 : Int32).toInt ≤ (0 : Int32).toInt := ci_le c_23
        exfalso; omega
      · -- no
        have k_23 : (0 : Int32).toInt < (2 : Int32).toInt := ci_nle c_23
        refine lv_aload_n hx hb dX5_isPlace_61 rfl (lv_at hl 2 rfl) ?_
        refine lv_iload_n hx hb dX5_isPlace_62 rfl (lv_at hl 3 rfl) ?_
        refine lv_iload hx hb dX5_isPlace_63 (lv_at hl 0 rfl) ?_
        have hPc := hP.sub (ws' := [(gh, .inr (5, [.int g_acts, g_kind, g_na, g_nb, g_nc, g_nd, g_ne, g_dropped, g_live, g_low, g_high, g_sites, g_nulls, g_there, g_lanes, g_least, g_most, g_placeLow, g_placeHigh, g_reached, g_mayThrow, .int g_status, .int g_hasRun, .int g_threw, .int g_whereThrown, g_value, .ref ga_means, .ref ga_laneOf, .ref ga_sizeOf, g_cells, g_copied, .long g_state, .long g_joinedLow, .long g_joinedHigh, g_keptLow, g_keptHigh]))]) [0] rfl
        have hDc := hD.sub (ws' := [(gh, .inr (5, [.int g_acts, g_kind, g_na, g_nb, g_nc, g_nd, g_ne, g_dropped, g_live, g_low, g_high, g_sites, g_nulls, g_there, g_lanes, g_least, g_most, g_placeLow, g_placeHigh, g_reached, g_mayThrow, .int g_status, .int g_hasRun, .int g_threw, .int g_whereThrown, g_value, .ref ga_means, .ref ga_laneOf, .ref ga_sizeOf, g_cells, g_copied, .long g_state, .long g_joinedLow, .long g_joinedHigh, g_keptLow, g_keptHigh]))]) [0] (by decide) rfl
        have hFc := va_free (wc := [(gh, .inr (5, [.int g_acts, g_kind, g_na, g_nb, g_nc, g_nd, g_ne, g_dropped, g_live, g_low, g_high, g_sites, g_nulls, g_there, g_lanes, g_least, g_most, g_placeLow, g_placeHigh, g_reached, g_mayThrow, .int g_status, .int g_hasRun, .int g_threw, .int g_whereThrown, g_value, .ref ga_means, .ref ga_laneOf, .ref ga_sizeOf, g_cells, g_copied, .long g_state, .long g_joinedLow, .long g_joinedHigh, g_keptLow, g_keptHigh]))]) hD hS hA [0] rfl
        refine va_callv (va_runV (As := [.int ia, .int 2]) (rest := []) ⟨hx, hb, hml, hown, hts⟩ (s_X5_fail l dC dI cI cJ cZ gh g_acts g_kind g_na g_nb g_nc g_nd g_ne g_dropped g_live g_low g_high g_sites g_nulls g_there g_lanes g_least g_most g_placeLow g_placeHigh g_reached g_mayThrow g_status g_hasRun g_threw g_whereThrown g_value (.ref ga_means) (.ref ga_laneOf) (.ref ga_sizeOf) g_cells g_copied g_state g_joinedLow g_joinedHigh g_keptLow g_keptHigh ia 2 s.heap.size q_g_hasRun) (cwV 2 hts h_X5_isPlace_X5_fail_288 rfl rfl rfl (by decide +kernel) ⟨Nat.le_of_ble_eq_true rfl, Nat.le_of_ble_eq_true rfl⟩) ⟨cPre_blind, va_recv hK hPc (ci := 5) (q0 := 0) rfl rfl, cPre_of hK hN hPc hDc⟩ rfl rfl hl.1 rfl (lv_room (Nat.le_of_ble_eq_true rfl)) dX5_isPlace_65 ⟨Nat.le_of_ble_eq_true rfl, Nat.le_of_ble_eq_true rfl⟩) hS (fun q _ h => hFc q h) hFc (fun u_24 t_24 H_24 locs_24 ht hvm hw_24 hB hz1 hk1 hS1 => ?_)
        obtain ⟨v_25, v_26⟩ := u_24
        obtain ⟨hP1, hK1, hD1⟩ := hB
        rw [ht] at hP1
        obtain ⟨hP2, hD2⟩ := va_join (wr := [(ga_means, .inl (cI, 6, .inl gc_means)), (ga_laneOf, .inl (cI, 40, .inl gc_laneOf)), (ga_sizeOf, .inl (cI, 40, .inl gc_sizeOf))]) (w1 := [(gh, .inr (5, [.int g_acts, g_kind, g_na, g_nb, g_nc, g_nd, g_ne, g_dropped, g_live, g_low, g_high, g_sites, g_nulls, g_there, g_lanes, g_least, g_most, g_placeLow, g_placeHigh, g_reached, g_mayThrow, .int g_status, .int g_hasRun, .int v_25, .int v_26, g_value, .ref ga_means, .ref ga_laneOf, .ref ga_sizeOf, g_cells, g_copied, .long g_state, .long g_joinedLow, .long g_joinedHigh, g_keptLow, g_keptHigh]))]) hP hD [0] [1, 2, 3] rfl rfl (by decide) (by decide) hk1 hFc hP1 hD1
        clear hPc hDc hFc hP1 hD1 hK1 hk1 hz1 hvm ht
        replace hP : va_P (dC, dI) vwCl [(ga_means, .inl (cI, 6, .inl gc_means)), (ga_laneOf, .inl (cI, 40, .inl gc_laneOf)), (ga_sizeOf, .inl (cI, 40, .inl gc_sizeOf)), (gh, .inr (5, [.int g_acts, g_kind, g_na, g_nb, g_nc, g_nd, g_ne, g_dropped, g_live, g_low, g_high, g_sites, g_nulls, g_there, g_lanes, g_least, g_most, g_placeLow, g_placeHigh, g_reached, g_mayThrow, .int g_status, .int g_hasRun, .int v_25, .int v_26, g_value, .ref ga_means, .ref ga_laneOf, .ref ga_sizeOf, g_cells, g_copied, .long g_state, .long g_joinedLow, .long g_joinedHigh, g_keptLow, g_keptHigh]))] H_24 := hP2
        replace hD : va_D A [(ga_means, .inl (cI, 6, .inl gc_means)), (ga_laneOf, .inl (cI, 40, .inl gc_laneOf)), (ga_sizeOf, .inl (cI, 40, .inl gc_sizeOf)), (gh, .inr (5, [.int g_acts, g_kind, g_na, g_nb, g_nc, g_nd, g_ne, g_dropped, g_live, g_low, g_high, g_sites, g_nulls, g_there, g_lanes, g_least, g_most, g_placeLow, g_placeHigh, g_reached, g_mayThrow, .int g_status, .int g_hasRun, .int v_25, .int v_26, g_value, .ref ga_means, .ref ga_laneOf, .ref ga_sizeOf, g_cells, g_copied, .long g_state, .long g_joinedLow, .long g_joinedHigh, g_keptLow, g_keptHigh]))] := hD2
        replace hS := hS1
        clear hP2 hD2 hS1
        replace hw_24 : (v_25.toInt = (2 : Int32).toInt) ∧ (v_26.toInt = ia.toInt) := hw_24
        obtain ⟨x_24_0, x_24_1⟩ := hw_24
        refine lv_iload hx hb dX5_isPlace_68 (lv_at hl 0 rfl) ?_
        refine lv_if_ne (tgt := 77) hx hb dX5_isPlace_70 (by decide) (fun c_27 => ?_) (fun c_27 => ?_)
        · -- yes
          have k_27 : ¬ (2 : Int32).toInt = (0 : Int32).toInt := ci_ne c_27
          refine lv_iconst (v := 0) hx hb dX5_isPlace_77 (by decide) ?_
          have hP9 := hP.sub (ws' := [(gh, .inr (5, [.int g_acts, g_kind, g_na, g_nb, g_nc, g_nd, g_ne, g_dropped, g_live, g_low, g_high, g_sites, g_nulls, g_there, g_lanes, g_least, g_most, g_placeLow, g_placeHigh, g_reached, g_mayThrow, .int g_status, .int g_hasRun, .int v_25, .int v_26, g_value, .ref ga_means, .ref ga_laneOf, .ref ga_sizeOf, g_cells, g_copied, .long g_state, .long g_joinedLow, .long g_joinedHigh, g_keptLow, g_keptHigh])), (ga_means, .inl (cI, 6, .inl gc_means)), (ga_laneOf, .inl (cI, 40, .inl gc_laneOf)), (ga_sizeOf, .inl (cI, 40, .inl gc_sizeOf))]) [3, 0, 1, 2] rfl
          have hD9 := hD.sub (ws' := [(gh, .inr (5, [.int g_acts, g_kind, g_na, g_nb, g_nc, g_nd, g_ne, g_dropped, g_live, g_low, g_high, g_sites, g_nulls, g_there, g_lanes, g_least, g_most, g_placeLow, g_placeHigh, g_reached, g_mayThrow, .int g_status, .int g_hasRun, .int v_25, .int v_26, g_value, .ref ga_means, .ref ga_laneOf, .ref ga_sizeOf, g_cells, g_copied, .long g_state, .long g_joinedLow, .long g_joinedHigh, g_keptLow, g_keptHigh])), (ga_means, .inl (cI, 6, .inl gc_means)), (ga_laneOf, .inl (cI, 40, .inl gc_laneOf)), (ga_sizeOf, .inl (cI, 40, .inl gc_sizeOf))]) [3, 0, 1, 2] (by decide) rfl
          exact W.zret (v := 0) (ty := .boolean) hx hb hr rfl (fun t ht hW => ⟨⟨0, (v_25, v_26), rfl, ⟨(show kZ (0 : Int32) from (by decide)), (show (¬ (0 : Int32).toInt = 0 ∧ v_25.toInt = g_threw.toInt ∧ v_26.toInt = g_whereThrown.toInt ∧ plN gc_laneOf gc_sizeOf (gc_means (ra).toNatClampNeg) la pa) ∨ ((0 : Int32).toInt = 0 ∧ plT gc_laneOf gc_sizeOf (gc_means (ra).toNatClampNeg) la pa v_25 ∧ v_26.toInt = ia.toInt) from (by omega))⟩, by rw [ht]; exact hP9, va_K.moved hW.alike hK, hD9⟩, hS.F ht⟩) hS.2.2 dX5_isPlace_78
        · -- no
          have k_27 : (2 : Int32).toInt = (0 : Int32).toInt := ci_eq c_27
          exfalso; omega
  · -- no
    have k_3 : v_1.toInt < (0 : Int32).toInt := ci_nge c_3
    refine lv_iconst (v := 1) hx hb dX5_isPlace_13 (by decide) ?_
    refine lv_goto (tgt := 54) hx hb dX5_isPlace_14 (by decide) ?_
    refine lv_istore (lv' := [(6, .int 1), (5, .int v_1), (0, .ref gh), (1, .int ia), (2, .int ra), (3, .int la), (4, .int pa)]) hx hb dX5_isPlace_54 hl (by decide) rfl (fun ls1 hl1 => ?_)
    replace hl := hl1; clear hl1
    refine lv_iload hx hb dX5_isPlace_56 (lv_at hl 0 rfl) ?_
    refine lv_if_le (tgt := 68) hx hb dX5_isPlace_58 (by decide) (fun c_28 => ?_) (fun c_28 => ?_)
    · -- yes
      have k_28 : (1 : Int32).toInt ≤ (0 : Int32).toInt := ci_le c_28
      exfalso; omega
    · -- no
      have k_28 : (0 : Int32).toInt < (1 : Int32).toInt := ci_nle c_28
      refine lv_aload_n hx hb dX5_isPlace_61 rfl (lv_at hl 2 rfl) ?_
      refine lv_iload_n hx hb dX5_isPlace_62 rfl (lv_at hl 3 rfl) ?_
      refine lv_iload hx hb dX5_isPlace_63 (lv_at hl 0 rfl) ?_
      have hPc := hP.sub (ws' := [(gh, .inr (5, [.int g_acts, g_kind, g_na, g_nb, g_nc, g_nd, g_ne, g_dropped, g_live, g_low, g_high, g_sites, g_nulls, g_there, g_lanes, g_least, g_most, g_placeLow, g_placeHigh, g_reached, g_mayThrow, .int g_status, .int g_hasRun, .int g_threw, .int g_whereThrown, g_value, .ref ga_means, .ref ga_laneOf, .ref ga_sizeOf, g_cells, g_copied, .long g_state, .long g_joinedLow, .long g_joinedHigh, g_keptLow, g_keptHigh]))]) [0] rfl
      have hDc := hD.sub (ws' := [(gh, .inr (5, [.int g_acts, g_kind, g_na, g_nb, g_nc, g_nd, g_ne, g_dropped, g_live, g_low, g_high, g_sites, g_nulls, g_there, g_lanes, g_least, g_most, g_placeLow, g_placeHigh, g_reached, g_mayThrow, .int g_status, .int g_hasRun, .int g_threw, .int g_whereThrown, g_value, .ref ga_means, .ref ga_laneOf, .ref ga_sizeOf, g_cells, g_copied, .long g_state, .long g_joinedLow, .long g_joinedHigh, g_keptLow, g_keptHigh]))]) [0] (by decide) rfl
      have hFc := va_free (wc := [(gh, .inr (5, [.int g_acts, g_kind, g_na, g_nb, g_nc, g_nd, g_ne, g_dropped, g_live, g_low, g_high, g_sites, g_nulls, g_there, g_lanes, g_least, g_most, g_placeLow, g_placeHigh, g_reached, g_mayThrow, .int g_status, .int g_hasRun, .int g_threw, .int g_whereThrown, g_value, .ref ga_means, .ref ga_laneOf, .ref ga_sizeOf, g_cells, g_copied, .long g_state, .long g_joinedLow, .long g_joinedHigh, g_keptLow, g_keptHigh]))]) hD hS hA [0] rfl
      refine va_callv (va_runV (As := [.int ia, .int 1]) (rest := []) ⟨hx, hb, hml, hown, hts⟩ (s_X5_fail l dC dI cI cJ cZ gh g_acts g_kind g_na g_nb g_nc g_nd g_ne g_dropped g_live g_low g_high g_sites g_nulls g_there g_lanes g_least g_most g_placeLow g_placeHigh g_reached g_mayThrow g_status g_hasRun g_threw g_whereThrown g_value (.ref ga_means) (.ref ga_laneOf) (.ref ga_sizeOf) g_cells g_copied g_state g_joinedLow g_joinedHigh g_keptLow g_keptHigh ia 1 s.heap.size q_g_hasRun) (cwV 2 hts h_X5_isPlace_X5_fail_288 rfl rfl rfl (by decide +kernel) ⟨Nat.le_of_ble_eq_true rfl, Nat.le_of_ble_eq_true rfl⟩) ⟨cPre_blind, va_recv hK hPc (ci := 5) (q0 := 0) rfl rfl, cPre_of hK hN hPc hDc⟩ rfl rfl hl.1 rfl (lv_room (Nat.le_of_ble_eq_true rfl)) dX5_isPlace_65 ⟨Nat.le_of_ble_eq_true rfl, Nat.le_of_ble_eq_true rfl⟩) hS (fun q _ h => hFc q h) hFc (fun u_29 t_29 H_29 locs_29 ht hvm hw_29 hB hz1 hk1 hS1 => ?_)
      obtain ⟨v_30, v_31⟩ := u_29
      obtain ⟨hP1, hK1, hD1⟩ := hB
      rw [ht] at hP1
      obtain ⟨hP2, hD2⟩ := va_join (wr := [(ga_means, .inl (cI, 6, .inl gc_means)), (ga_laneOf, .inl (cI, 40, .inl gc_laneOf)), (ga_sizeOf, .inl (cI, 40, .inl gc_sizeOf))]) (w1 := [(gh, .inr (5, [.int g_acts, g_kind, g_na, g_nb, g_nc, g_nd, g_ne, g_dropped, g_live, g_low, g_high, g_sites, g_nulls, g_there, g_lanes, g_least, g_most, g_placeLow, g_placeHigh, g_reached, g_mayThrow, .int g_status, .int g_hasRun, .int v_30, .int v_31, g_value, .ref ga_means, .ref ga_laneOf, .ref ga_sizeOf, g_cells, g_copied, .long g_state, .long g_joinedLow, .long g_joinedHigh, g_keptLow, g_keptHigh]))]) hP hD [0] [1, 2, 3] rfl rfl (by decide) (by decide) hk1 hFc hP1 hD1
      clear hPc hDc hFc hP1 hD1 hK1 hk1 hz1 hvm ht
      replace hP : va_P (dC, dI) vwCl [(ga_means, .inl (cI, 6, .inl gc_means)), (ga_laneOf, .inl (cI, 40, .inl gc_laneOf)), (ga_sizeOf, .inl (cI, 40, .inl gc_sizeOf)), (gh, .inr (5, [.int g_acts, g_kind, g_na, g_nb, g_nc, g_nd, g_ne, g_dropped, g_live, g_low, g_high, g_sites, g_nulls, g_there, g_lanes, g_least, g_most, g_placeLow, g_placeHigh, g_reached, g_mayThrow, .int g_status, .int g_hasRun, .int v_30, .int v_31, g_value, .ref ga_means, .ref ga_laneOf, .ref ga_sizeOf, g_cells, g_copied, .long g_state, .long g_joinedLow, .long g_joinedHigh, g_keptLow, g_keptHigh]))] H_29 := hP2
      replace hD : va_D A [(ga_means, .inl (cI, 6, .inl gc_means)), (ga_laneOf, .inl (cI, 40, .inl gc_laneOf)), (ga_sizeOf, .inl (cI, 40, .inl gc_sizeOf)), (gh, .inr (5, [.int g_acts, g_kind, g_na, g_nb, g_nc, g_nd, g_ne, g_dropped, g_live, g_low, g_high, g_sites, g_nulls, g_there, g_lanes, g_least, g_most, g_placeLow, g_placeHigh, g_reached, g_mayThrow, .int g_status, .int g_hasRun, .int v_30, .int v_31, g_value, .ref ga_means, .ref ga_laneOf, .ref ga_sizeOf, g_cells, g_copied, .long g_state, .long g_joinedLow, .long g_joinedHigh, g_keptLow, g_keptHigh]))] := hD2
      replace hS := hS1
      clear hP2 hD2 hS1
      replace hw_29 : (v_30.toInt = (1 : Int32).toInt) ∧ (v_31.toInt = ia.toInt) := hw_29
      obtain ⟨x_29_0, x_29_1⟩ := hw_29
      refine lv_iload hx hb dX5_isPlace_68 (lv_at hl 0 rfl) ?_
      refine lv_if_ne (tgt := 77) hx hb dX5_isPlace_70 (by decide) (fun c_32 => ?_) (fun c_32 => ?_)
      · -- yes
        have k_32 : ¬ (1 : Int32).toInt = (0 : Int32).toInt := ci_ne c_32
        refine lv_iconst (v := 0) hx hb dX5_isPlace_77 (by decide) ?_
        have hP9 := hP.sub (ws' := [(gh, .inr (5, [.int g_acts, g_kind, g_na, g_nb, g_nc, g_nd, g_ne, g_dropped, g_live, g_low, g_high, g_sites, g_nulls, g_there, g_lanes, g_least, g_most, g_placeLow, g_placeHigh, g_reached, g_mayThrow, .int g_status, .int g_hasRun, .int v_30, .int v_31, g_value, .ref ga_means, .ref ga_laneOf, .ref ga_sizeOf, g_cells, g_copied, .long g_state, .long g_joinedLow, .long g_joinedHigh, g_keptLow, g_keptHigh])), (ga_means, .inl (cI, 6, .inl gc_means)), (ga_laneOf, .inl (cI, 40, .inl gc_laneOf)), (ga_sizeOf, .inl (cI, 40, .inl gc_sizeOf))]) [3, 0, 1, 2] rfl
        have hD9 := hD.sub (ws' := [(gh, .inr (5, [.int g_acts, g_kind, g_na, g_nb, g_nc, g_nd, g_ne, g_dropped, g_live, g_low, g_high, g_sites, g_nulls, g_there, g_lanes, g_least, g_most, g_placeLow, g_placeHigh, g_reached, g_mayThrow, .int g_status, .int g_hasRun, .int v_30, .int v_31, g_value, .ref ga_means, .ref ga_laneOf, .ref ga_sizeOf, g_cells, g_copied, .long g_state, .long g_joinedLow, .long g_joinedHigh, g_keptLow, g_keptHigh])), (ga_means, .inl (cI, 6, .inl gc_means)), (ga_laneOf, .inl (cI, 40, .inl gc_laneOf)), (ga_sizeOf, .inl (cI, 40, .inl gc_sizeOf))]) [3, 0, 1, 2] (by decide) rfl
        exact W.zret (v := 0) (ty := .boolean) hx hb hr rfl (fun t ht hW => ⟨⟨0, (v_30, v_31), rfl, ⟨(show kZ (0 : Int32) from (by decide)), (show (¬ (0 : Int32).toInt = 0 ∧ v_30.toInt = g_threw.toInt ∧ v_31.toInt = g_whereThrown.toInt ∧ plN gc_laneOf gc_sizeOf (gc_means (ra).toNatClampNeg) la pa) ∨ ((0 : Int32).toInt = 0 ∧ plT gc_laneOf gc_sizeOf (gc_means (ra).toNatClampNeg) la pa v_30 ∧ v_31.toInt = ia.toInt) from (by omega))⟩, by rw [ht]; exact hP9, va_K.moved hW.alike hK, hD9⟩, hS.F ht⟩) hS.2.2 dX5_isPlace_78
      · -- no
        have k_32 : (1 : Int32).toInt = (0 : Int32).toInt := ci_eq c_32
        exfalso; omega
