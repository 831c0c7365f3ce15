def v_X5_castLow : List Cond := .code yX5_castLow cX5_castLow 5 (some .long) :: ([.methodLink RX5 139 yX5_laneLow, .static yX5_laneLow, .initialized RX5, .methodLink RX5 143 yX5_laneHigh, .static yX5_laneHigh] ++ (v_X5_laneLow ++ (v_X5_laneHigh)))
theorem im_X5_castLow_X5_laneLow : ∀ w ∈ v_X5_laneLow, w ∈ v_X5_castLow := fun _ h => List.mem_cons_of_mem _ (List.mem_append_right _ (List.mem_append_left _ h))
theorem im_X5_castLow_X5_laneHigh : ∀ w ∈ v_X5_laneHigh, w ∈ v_X5_castLow := fun _ h => List.mem_cons_of_mem _ (List.mem_append_right _ (List.mem_append_right _ (h)))
set_option maxRecDepth 20000 in
theorem gd_X5_castLow : gdL v_X5_castLow := gdC (gdW (by decide +kernel)) (gdA (gdW (by decide +kernel)) (gdA gd_X5_laneLow gd_X5_laneHigh))
set_option maxRecDepth 20000 in
theorem h_X5_castLow_X5_laneLow_139 : GoodIn v_X5_castLow (va_wsS RX5 139 yX5_laneLow v_X5_laneLow) := gdI [1, 2, 3] rfl (by decide +kernel) (im_X5_castLow_X5_laneLow) gd_X5_laneLow
set_option maxRecDepth 20000 in
theorem h_X5_castLow_X5_laneHigh_143 : GoodIn v_X5_castLow (va_wsS RX5 143 yX5_laneHigh v_X5_laneHigh) := gdI [4, 5, 3] rfl (by decide +kernel) (im_X5_castLow_X5_laneHigh) gd_X5_laneHigh
set_option maxHeartbeats 8000000 in
set_option maxRecDepth 100000 in
theorem s_X5_castLow (l : Launch) (loa : Int64) (hia : Int64) (la : Int32) (hy_lo : lGE loa) (hy_hi : lLE hia) : Met l yX5_castLow v_X5_castLow ({ frames := 1, cells := 0, slots := 0, locals := 20 }) (va_Pc [.long loa, .long hia, .int la] (fun _ => True)) (vp_Sl (fun (r : Int64) => ((∀ n w : Int, loa.toInt ≤ n → n ≤ hia.toInt → castR la.toInt n w → r.toInt ≤ w) ∧ lGE r))) 0 0 (fun _ => False) := by
  refine Met.ofW (cc := cX5_castLow) (maxL := 5) (ret := (some .long)) (by decide) rfl ?_
  intro p e s m args below meth c s₁ B hml hv
  obtain ⟨rfl, -⟩ := hv
  have hx := B.exec
  have hb := B.bytes
  have hr := B.returns
  have hts := atoms_spec (ws := v_X5_castLow) B.pre
  have hown : s.vm.findClass RX5 = some m.cls := findClass_of_methodNamed B.named
  have hlocks := B.notSynchronized
  have hl := lv_entry ([.long loa, .long hia, .int la]) (n := 5) (Nat.le_of_ble_eq_true rfl)
  rw [lg_entry_eq]
  generalize (lg_sl ([.long loa, .long hia, .int la]) ++ List.replicate (5 - (lg_sl ([.long loa, .long hia, .int la])).length) Slot.unset).toArray = ls at hl ⊢
  replace hl : lv_has ls 5 [(0, .long loa), (2, .long hia), (4, .int la)] := hl
  have z_0 : (0 : Int32).toInt = 0 := by decide
  have z_1 : (1 : Int32).toInt = 1 := by decide
  refine lv_lload_n hx hb dX5_castLow_0 rfl (lv_at hl 0 rfl) ?_
  refine lv_iload hx hb dX5_castLow_1 (lv_at hl 2 rfl) ?_
  refine vp_callSl (va_runS (As := [.int la]) (rest := [.long loa]) ⟨hx, hb, hml, hown, hts⟩ (s_X5_laneLow l la) (va_cwS 1 hts h_X5_castLow_X5_laneLow_139 rfl rfl rfl (by decide +kernel) ⟨Nat.le_of_ble_eq_true rfl, Nat.le_of_ble_eq_true rfl⟩) ⟨fun _ _ _ _ q => q, fun _ _ _ => ⟨rfl, trivial⟩⟩ rfl rfl hl.1 rfl (lv_room (Nat.le_of_ble_eq_true rfl)) dX5_castLow_3 ⟨Nat.le_of_ble_eq_true rfl, Nat.le_of_ble_eq_true rfl⟩).run (fun r_1 hw_1 => ?_)
  replace hw_1 : ((la.toInt = 0 → r_1.toInt = -128) ∧ (la.toInt = 1 → r_1.toInt = 0) ∧ (¬ la.toInt = 0 → ¬ la.toInt = 1 → r_1.toInt = -2147483648)) := hw_1
  have q_r_1 := hw_1
  refine W.lcmp hx hb dX5_castLow_6 ?_
  refine lv_if_lt (tgt := 24) hx hb dX5_castLow_7 (by decide) (fun c_2 => ?_) (fun c_2 => ?_)
  · -- yes
    have k_2 : loa.toInt < r_1.toInt := lc_lt c_2
    refine lv_iload hx hb dX5_castLow_24 (lv_at hl 2 rfl) ?_
    refine vp_callSl (va_runS (As := [.int la]) (rest := []) ⟨hx, hb, hml, hown, hts⟩ (s_X5_laneLow l la) (va_cwS 1 hts h_X5_castLow_X5_laneLow_139 rfl rfl rfl (by decide +kernel) ⟨Nat.le_of_ble_eq_true rfl, Nat.le_of_ble_eq_true rfl⟩) ⟨fun _ _ _ _ q => q, fun _ _ _ => ⟨rfl, trivial⟩⟩ rfl rfl hl.1 rfl (lv_room (Nat.le_of_ble_eq_true rfl)) dX5_castLow_26 ⟨Nat.le_of_ble_eq_true rfl, Nat.le_of_ble_eq_true rfl⟩).run (fun r_3 hw_3 => ?_)
    replace hw_3 : ((la.toInt = 0 → r_3.toInt = -128) ∧ (la.toInt = 1 → r_3.toInt = 0) ∧ (¬ la.toInt = 0 → ¬ la.toInt = 1 → r_3.toInt = -2147483648)) := hw_3
    have q_r_3 := hw_3
    exact W.lret (v := r_3) hx hb hr (fun t ht hW => ⟨r_3, rfl, (show (∀ n w : Int, loa.toInt ≤ n → n ≤ hia.toInt → castR la.toInt n w → r_3.toInt ≤ w) ∧ lGE r_3 from ⟨fun n w h1 h2 h3 => by by_cases z0 : la.toInt = 0; (· have b := h3.1 z0; have a0 := q_r_1.1 z0; have a1 := q_r_3.1 z0; clear h3 q_r_1 q_r_3; omega); (· by_cases z1 : la.toInt = 1; (· have b := h3.2.1 z1; have a0 := q_r_1.2.1 z1; have a1 := q_r_3.2.1 z1; clear h3 q_r_1 q_r_3; omega); (· have b := h3.2.2 z0 z1; have a0 := q_r_1.2.2 z0 z1; have a1 := q_r_3.2.2 z0 z1; clear h3 q_r_1 q_r_3; omega)), by by_cases z0 : la.toInt = 0; (· have a0 := q_r_1.1 z0; have a1 := q_r_3.1 z0; clear q_r_1 q_r_3; omega); (· by_cases z1 : la.toInt = 1; (· have a0 := q_r_1.2.1 z1; have a1 := q_r_3.2.1 z1; clear q_r_1 q_r_3; omega); (· have a0 := q_r_1.2.2 z0 z1; have a1 := q_r_3.2.2 z0 z1; clear q_r_1 q_r_3; omega))⟩), ht⟩) (by intro q hq; cases hq) dX5_castLow_29
  · -- no
    have k_2 : r_1.toInt ≤ loa.toInt := lc_nlt c_2
    refine lv_lload_n hx hb dX5_castLow_10 rfl (lv_at hl 1 rfl) ?_
    refine lv_iload hx hb dX5_castLow_11 (lv_at hl 2 rfl) ?_
    refine vp_callSl (va_runS (As := [.int la]) (rest := [.long hia]) ⟨hx, hb, hml, hown, hts⟩ (s_X5_laneHigh l la) (va_cwS 1 hts h_X5_castLow_X5_laneHigh_143 rfl rfl rfl (by decide +kernel) ⟨Nat.le_of_ble_eq_true rfl, Nat.le_of_ble_eq_true rfl⟩) ⟨fun _ _ _ _ q => q, fun _ _ _ => ⟨rfl, trivial⟩⟩ rfl rfl hl.1 rfl (lv_room (Nat.le_of_ble_eq_true rfl)) dX5_castLow_13 ⟨Nat.le_of_ble_eq_true rfl, Nat.le_of_ble_eq_true rfl⟩).run (fun r_4 hw_4 => ?_)
    replace hw_4 : ((la.toInt = 0 → r_4.toInt = 127) ∧ (la.toInt = 1 → r_4.toInt = 65535) ∧ (¬ la.toInt = 0 → ¬ la.toInt = 1 → r_4.toInt = 2147483647)) := hw_4
    have q_r_4 := hw_4
    refine W.lcmp hx hb dX5_castLow_16 ?_
    refine lv_if_gt (tgt := 24) hx hb dX5_castLow_17 (by decide) (fun c_5 => ?_) (fun c_5 => ?_)
    · -- yes
      have k_5 : r_4.toInt < hia.toInt := lc_gt c_5
      refine lv_iload hx hb dX5_castLow_24 (lv_at hl 2 rfl) ?_
      refine vp_callSl (va_runS (As := [.int la]) (rest := []) ⟨hx, hb, hml, hown, hts⟩ (s_X5_laneLow l la) (va_cwS 1 hts h_X5_castLow_X5_laneLow_139 rfl rfl rfl (by decide +kernel) ⟨Nat.le_of_ble_eq_true rfl, Nat.le_of_ble_eq_true rfl⟩) ⟨fun _ _ _ _ q => q, fun _ _ _ => ⟨rfl, trivial⟩⟩ rfl rfl hl.1 rfl (lv_room (Nat.le_of_ble_eq_true rfl)) dX5_castLow_26 ⟨Nat.le_of_ble_eq_true rfl, Nat.le_of_ble_eq_true rfl⟩).run (fun r_6 hw_6 => ?_)
      replace hw_6 : ((la.toInt = 0 → r_6.toInt = -128) ∧ (la.toInt = 1 → r_6.toInt = 0) ∧ (¬ la.toInt = 0 → ¬ la.toInt = 1 → r_6.toInt = -2147483648)) := hw_6
      have q_r_6 := hw_6
      exact W.lret (v := r_6) hx hb hr (fun t ht hW => ⟨r_6, rfl, (show (∀ n w : Int, loa.toInt ≤ n → n ≤ hia.toInt → castR la.toInt n w → r_6.toInt ≤ w) ∧ lGE r_6 from ⟨fun n w h1 h2 h3 => by by_cases z0 : la.toInt = 0; (· have b := h3.1 z0; have a0 := q_r_1.1 z0; have a1 := q_r_4.1 z0; have a2 := q_r_6.1 z0; clear h3 q_r_1 q_r_4 q_r_6; omega); (· by_cases z1 : la.toInt = 1; (· have b := h3.2.1 z1; have a0 := q_r_1.2.1 z1; have a1 := q_r_4.2.1 z1; have a2 := q_r_6.2.1 z1; clear h3 q_r_1 q_r_4 q_r_6; omega); (· have b := h3.2.2 z0 z1; have a0 := q_r_1.2.2 z0 z1; have a1 := q_r_4.2.2 z0 z1; have a2 := q_r_6.2.2 z0 z1; clear h3 q_r_1 q_r_4 q_r_6; omega)), by by_cases z0 : la.toInt = 0; (· have a0 := q_r_1.1 z0; have a1 := q_r_4.1 z0; have a2 := q_r_6.1 z0; clear q_r_1 q_r_4 q_r_6; omega); (· by_cases z1 : la.toInt = 1; (· have a0 := q_r_1.2.1 z1; have a1 := q_r_4.2.1 z1; have a2 := q_r_6.2.1 z1; clear q_r_1 q_r_4 q_r_6; omega); (· have a0 := q_r_1.2.2 z0 z1; have a1 := q_r_4.2.2 z0 z1; have a2 := q_r_6.2.2 z0 z1; clear q_r_1 q_r_4 q_r_6; omega))⟩), ht⟩) (by intro q hq; cases hq) dX5_castLow_29
    · -- no
      have k_5 : hia.toInt ≤ r_4.toInt := lc_ngt c_5
      refine lv_lload_n hx hb dX5_castLow_20 rfl (lv_at hl 0 rfl) ?_
      refine lv_goto (tgt := 29) hx hb dX5_castLow_21 (by decide) ?_
      exact W.lret (v := loa) hx hb hr (fun t ht hW => ⟨loa, rfl, (show (∀ n w : Int, loa.toInt ≤ n → n ≤ hia.toInt → castR la.toInt n w → loa.toInt ≤ w) ∧ lGE loa from ⟨fun n w h1 h2 h3 => by by_cases z0 : la.toInt = 0; (· have b := h3.1 z0; have a0 := q_r_1.1 z0; have a1 := q_r_4.1 z0; clear h3 q_r_1 q_r_4; omega); (· by_cases z1 : la.toInt = 1; (· have b := h3.2.1 z1; have a0 := q_r_1.2.1 z1; have a1 := q_r_4.2.1 z1; clear h3 q_r_1 q_r_4; omega); (· have b := h3.2.2 z0 z1; have a0 := q_r_1.2.2 z0 z1; have a1 := q_r_4.2.2 z0 z1; clear h3 q_r_1 q_r_4; omega)), by by_cases z0 : la.toInt = 0; (· have a0 := q_r_1.1 z0; have a1 := q_r_4.1 z0; clear q_r_1 q_r_4; omega); (· by_cases z1 : la.toInt = 1; (· have a0 := q_r_1.2.1 z1; have a1 := q_r_4.2.1 z1; clear q_r_1 q_r_4; omega); (· have a0 := q_r_1.2.2 z0 z1; have a1 := q_r_4.2.2 z0 z1; clear q_r_1 q_r_4; omega))⟩), ht⟩) (by intro q hq; cases hq) dX5_castLow_29
