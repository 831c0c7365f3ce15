def v_X5_laneLow : List Cond := .code yX5_laneLow cX5_laneLow 1 (some .long) :: ([.constantLong RX5 131 (-2147483648), .constantLong RX5 129 (-128)] ++ ([]))
set_option maxRecDepth 20000 in
theorem gd_X5_laneLow : gdL v_X5_laneLow := gdC (gdW (by decide +kernel)) (gdA (gdW (by decide +kernel)) gdE)
set_option maxHeartbeats 8000000 in
set_option maxRecDepth 100000 in
theorem s_X5_laneLow (l : Launch) (la : Int32) : Met l yX5_laneLow v_X5_laneLow ({ frames := 0, cells := 0, slots := 0, locals := 0 }) (va_Pc [.int la] (fun _ => True)) (vp_Sl (fun (r : Int64) => True)) 0 0 (fun _ => False) := by
  refine Met.ofW (cc := cX5_laneLow) (maxL := 1) (ret := (some .long)) (by decide) rfl ?_
  intro p e s m args below meth c s₁ B hml hv
  obtain ⟨rfl, -⟩ := hv
  have hx := B.exec
  have hb := B.bytes
  have hr := B.returns
  have hts := atoms_spec (ws := v_X5_laneLow) B.pre
  have hown : s.vm.findClass RX5 = some m.cls := findClass_of_methodNamed B.named
  have hlocks := B.notSynchronized
  have hl := lv_entry ([.int la]) (n := 1) (Nat.le_of_ble_eq_true rfl)
  rw [lg_entry_eq]
  generalize (lg_sl ([.int la]) ++ List.replicate (1 - (lg_sl ([.int la])).length) Slot.unset).toArray = ls at hl ⊢
  replace hl : lv_has ls 1 [(0, .int la)] := hl
  have z_0 : (0 : Int32).toInt = 0 := by decide
  have z_1 : (1 : Int32).toInt = 1 := by decide
  have zl_m2147483648 : (-2147483648 : Int64).toInt = -2147483648 := by decide
  have zl_m128 : (-128 : Int64).toInt = -128 := by decide
  have zl_0 : (0 : Int64).toInt = 0 := by decide
  refine lv_iload_n hx hb dX5_laneLow_0 rfl (lv_at hl 0 rfl) ?_
  refine my_joinP (S := Int64) (fun u => (-2147483648 ≤ (u).toInt ∧ (u).toInt ≤ 0)) (fun u => [(0, .int la)]) (fun u => [.long (u)]) (nL := 1) 22 (fun u_2 hu_2 ls1 hl1 => ?_) (fun jn_2 => ?_)
  · -- behind 22
    obtain ⟨v_3, rfl⟩ : ∃ z, z = u_2 := ⟨_, rfl⟩
    replace hu_2 : (-2147483648 ≤ v_3.toInt ∧ v_3.toInt ≤ 0) := hu_2
    have q_v_3 := hu_2
    replace hl : lv_has ls1 1 [(0, .int la)] := hl1
    clear hl1
    exact W.lret (v := v_3) hx hb hr (fun t ht hW => ⟨v_3, rfl, trivial, ht⟩) (by intro q hq; cases hq) dX5_laneLow_22
  · -- ahead of 22
    refine lv_if_ne (tgt := 10) hx hb dX5_laneLow_1 (by decide) (fun c_4 => ?_) (fun c_4 => ?_)
    · -- yes
      have k_4 : ¬ la.toInt = (0 : Int32).toInt := ci_ne c_4
      refine lv_iload_n hx hb dX5_laneLow_10 rfl (lv_at hl 0 rfl) ?_
      refine lv_iconst (v := 1) hx hb dX5_laneLow_11 (by decide) ?_
      refine lv_icmp_ne (tgt := 19) hx hb dX5_laneLow_12 (by decide) (fun c_5 => ?_) (fun c_5 => ?_)
      · -- yes
        have k_5 : ¬ la.toInt = (1 : Int32).toInt := ci_ne c_5
        refine lv_ldc2 hx hb hown (hts (.constantLong RX5 131 (-2147483648)) (List.mem_of_getElem? (i := 1) rfl)) dX5_laneLow_19 ?_
        exact jn_2 ((-2147483648) : Int64) (show (-2147483648 ≤ ((-2147483648) : Int64).toInt ∧ ((-2147483648) : Int64).toInt ≤ 0) from ⟨by omega, by omega⟩) _ (lv_sub hl [0] rfl)
      · -- no
        have k_5 : la.toInt = (1 : Int32).toInt := ci_eq c_5
        refine lv_lconst (v := 0) hx hb dX5_laneLow_15 (by decide) ?_
        refine lv_goto (tgt := 22) hx hb dX5_laneLow_16 (by decide) ?_
        exact jn_2 (0 : Int64) (show (-2147483648 ≤ (0 : Int64).toInt ∧ (0 : Int64).toInt ≤ 0) from ⟨by omega, by omega⟩) _ (lv_sub hl [0] rfl)
    · -- no
      have k_4 : la.toInt = (0 : Int32).toInt := ci_eq c_4
      refine lv_ldc2 hx hb hown (hts (.constantLong RX5 129 (-128)) (List.mem_of_getElem? (i := 2) rfl)) dX5_laneLow_4 ?_
      refine lv_goto (tgt := 22) hx hb dX5_laneLow_7 (by decide) ?_
      exact jn_2 ((-128) : Int64) (show (-2147483648 ≤ ((-128) : Int64).toInt ∧ ((-128) : Int64).toInt ≤ 0) from ⟨by omega, by omega⟩) _ (lv_sub hl [0] rfl)

def v_X5_laneHigh : List Cond := .code yX5_laneHigh cX5_laneHigh 1 (some .long) :: ([.constantLong RX5 137 (2147483647), .constantLong RX5 135 (65535), .constantLong RX5 133 (127)] ++ ([]))
set_option maxRecDepth 20000 in
theorem gd_X5_laneHigh : gdL v_X5_laneHigh := gdC (gdW (by decide +kernel)) (gdA (gdW (by decide +kernel)) gdE)
set_option maxHeartbeats 8000000 in
set_option maxRecDepth 100000 in
theorem s_X5_laneHigh (l : Launch) (la : Int32) : Met l yX5_laneHigh v_X5_laneHigh ({ frames := 0, cells := 0, slots := 0, locals := 0 }) (va_Pc [.int la] (fun _ => True)) (vp_Sl (fun (r : Int64) => True)) 0 0 (fun _ => False) := by
  refine Met.ofW (cc := cX5_laneHigh) (maxL := 1) (ret := (some .long)) (by decide) rfl ?_
  intro p e s m args below meth c s₁ B hml hv
  obtain ⟨rfl, -⟩ := hv
  have hx := B.exec
  have hb := B.bytes
  have hr := B.returns
  have hts := atoms_spec (ws := v_X5_laneHigh) B.pre
  have hown : s.vm.findClass RX5 = some m.cls := findClass_of_methodNamed B.named
  have hlocks := B.notSynchronized
  have hl := lv_entry ([.int la]) (n := 1) (Nat.le_of_ble_eq_true rfl)
  rw [lg_entry_eq]
  generalize (lg_sl ([.int la]) ++ List.replicate (1 - (lg_sl ([.int la])).length) Slot.unset).toArray = ls at hl ⊢
  replace hl : lv_has ls 1 [(0, .int la)] := hl
  have z_0 : (0 : Int32).toInt = 0 := by decide
  have z_1 : (1 : Int32).toInt = 1 := by decide
  have zl_127 : (127 : Int64).toInt = 127 := by decide
  have zl_65535 : (65535 : Int64).toInt = 65535 := by decide
  have zl_2147483647 : (2147483647 : Int64).toInt = 2147483647 := by decide
  refine lv_iload_n hx hb dX5_laneHigh_0 rfl (lv_at hl 0 rfl) ?_
  refine my_joinP (S := Int64) (fun u => (127 ≤ (u).toInt ∧ (u).toInt ≤ 2147483647)) (fun u => [(0, .int la)]) (fun u => [.long (u)]) (nL := 1) 24 (fun u_2 hu_2 ls1 hl1 => ?_) (fun jn_2 => ?_)
  · -- behind 24
    obtain ⟨v_3, rfl⟩ : ∃ z, z = u_2 := ⟨_, rfl⟩
    replace hu_2 : (127 ≤ v_3.toInt ∧ v_3.toInt ≤ 2147483647) := hu_2
    have q_v_3 := hu_2
    replace hl : lv_has ls1 1 [(0, .int la)] := hl1
    clear hl1
    exact W.lret (v := v_3) hx hb hr (fun t ht hW => ⟨v_3, rfl, trivial, ht⟩) (by intro q hq; cases hq) dX5_laneHigh_24
  · -- ahead of 24
    refine lv_if_ne (tgt := 10) hx hb dX5_laneHigh_1 (by decide) (fun c_4 => ?_) (fun c_4 => ?_)
    · -- yes
      have k_4 : ¬ la.toInt = (0 : Int32).toInt := ci_ne c_4
      refine lv_iload_n hx hb dX5_laneHigh_10 rfl (lv_at hl 0 rfl) ?_
      refine lv_iconst (v := 1) hx hb dX5_laneHigh_11 (by decide) ?_
      refine lv_icmp_ne (tgt := 21) hx hb dX5_laneHigh_12 (by decide) (fun c_5 => ?_) (fun c_5 => ?_)
      · -- yes
        have k_5 : ¬ la.toInt = (1 : Int32).toInt := ci_ne c_5
        refine lv_ldc2 hx hb hown (hts (.constantLong RX5 137 (2147483647)) (List.mem_of_getElem? (i := 1) rfl)) dX5_laneHigh_21 ?_
        exact jn_2 (2147483647 : Int64) (show (127 ≤ (2147483647 : Int64).toInt ∧ (2147483647 : Int64).toInt ≤ 2147483647) from ⟨by omega, by omega⟩) _ (lv_sub hl [0] rfl)
      · -- no
        have k_5 : la.toInt = (1 : Int32).toInt := ci_eq c_5
        refine lv_ldc2 hx hb hown (hts (.constantLong RX5 135 (65535)) (List.mem_of_getElem? (i := 2) rfl)) dX5_laneHigh_15 ?_
        refine lv_goto (tgt := 24) hx hb dX5_laneHigh_18 (by decide) ?_
        exact jn_2 (65535 : Int64) (show (127 ≤ (65535 : Int64).toInt ∧ (65535 : Int64).toInt ≤ 2147483647) from ⟨by omega, by omega⟩) _ (lv_sub hl [0] rfl)
    · -- no
      have k_4 : la.toInt = (0 : Int32).toInt := ci_eq c_4
      refine lv_ldc2 hx hb hown (hts (.constantLong RX5 133 (127)) (List.mem_of_getElem? (i := 3) rfl)) dX5_laneHigh_4 ?_
      refine lv_goto (tgt := 24) hx hb dX5_laneHigh_7 (by decide) ?_
      exact jn_2 (127 : Int64) (show (127 ≤ (127 : Int64).toInt ∧ (127 : Int64).toInt ≤ 2147483647) from ⟨by omega, by omega⟩) _ (lv_sub hl [0] rfl)

def v_X5_castLow : List Cond := .code yX5_castLow cX5_castLow 5 (some .long) :: ([.methodLink RX5 139 yX5_laneLow, .static yX5_laneLow, .initialized RX5, .methodLink RX5 143 yX5_laneHigh, .static yX5_laneHigh] ++ (v_X5_laneLow ++ (v_X5_laneHigh)))
theorem im_X5_castLow_X5_laneLow : ∀ w ∈ v_X5_laneLow, w ∈ v_X5_castLow := fun _ h => List.mem_cons_of_mem _ (List.mem_append_right _ (List.mem_append_left _ h))
theorem im_X5_castLow_X5_laneHigh : ∀ w ∈ v_X5_laneHigh, w ∈ v_X5_castLow := fun _ h => List.mem_cons_of_mem _ (List.mem_append_right _ (List.mem_append_right _ (h)))
set_option maxRecDepth 20000 in
theorem gd_X5_castLow : gdL v_X5_castLow := gdC (gdW (by decide +kernel)) (gdA (gdW (by decide +kernel)) (gdA gd_X5_laneLow gd_X5_laneHigh))
set_option maxRecDepth 20000 in
theorem h_X5_castLow_X5_laneLow_139 : GoodIn v_X5_castLow (va_wsS RX5 139 yX5_laneLow v_X5_laneLow) := gdI [1, 2, 3] rfl (by decide +kernel) (im_X5_castLow_X5_laneLow) gd_X5_laneLow
set_option maxRecDepth 20000 in
theorem h_X5_castLow_X5_laneHigh_143 : GoodIn v_X5_castLow (va_wsS RX5 143 yX5_laneHigh v_X5_laneHigh) := gdI [4, 5, 3] rfl (by decide +kernel) (im_X5_castLow_X5_laneHigh) gd_X5_laneHigh
set_option maxHeartbeats 8000000 in
set_option maxRecDepth 100000 in
theorem s_X5_castLow (l : Launch) (loa : Int64) (hia : Int64) (la : Int32) : Met l yX5_castLow v_X5_castLow ({ frames := 1, cells := 0, slots := 0, locals := 20 }) (va_Pc [.long loa, .long hia, .int la] (fun _ => True)) (vp_Sl (fun (r : Int64) => True)) 0 0 (fun _ => False) := by
  refine Met.ofW (cc := cX5_castLow) (maxL := 5) (ret := (some .long)) (by decide) rfl ?_
  intro p e s m args below meth c s₁ B hml hv
  obtain ⟨rfl, -⟩ := hv
  have hx := B.exec
  have hb := B.bytes
  have hr := B.returns
  have hts := atoms_spec (ws := v_X5_castLow) B.pre
  have hown : s.vm.findClass RX5 = some m.cls := findClass_of_methodNamed B.named
  have hlocks := B.notSynchronized
  have hl := lv_entry ([.long loa, .long hia, .int la]) (n := 5) (Nat.le_of_ble_eq_true rfl)
  rw [lg_entry_eq]
  generalize (lg_sl ([.long loa, .long hia, .int la]) ++ List.replicate (5 - (lg_sl ([.long loa, .long hia, .int la])).length) Slot.unset).toArray = ls at hl ⊢
  replace hl : lv_has ls 5 [(0, .long loa), (2, .long hia), (4, .int la)] := hl
  have z_0 : (0 : Int32).toInt = 0 := by decide
  have z_1 : (1 : Int32).toInt = 1 := by decide
  refine lv_lload_n hx hb dX5_castLow_0 rfl (lv_at hl 0 rfl) ?_
  refine lv_iload hx hb dX5_castLow_1 (lv_at hl 2 rfl) ?_
  refine vp_callSl (va_runS (As := [.int la]) (rest := [.long loa]) ⟨hx, hb, hml, hown, hts⟩ (s_X5_laneLow l la) (va_cwS 1 hts h_X5_castLow_X5_laneLow_139 rfl rfl rfl (by decide +kernel) ⟨Nat.le_of_ble_eq_true rfl, Nat.le_of_ble_eq_true rfl⟩) ⟨fun _ _ _ _ q => q, fun _ _ _ => ⟨rfl, trivial⟩⟩ rfl rfl hl.1 rfl (lv_room (Nat.le_of_ble_eq_true rfl)) dX5_castLow_3 ⟨Nat.le_of_ble_eq_true rfl, Nat.le_of_ble_eq_true rfl⟩).run (fun r_1 hw_1 => ?_)
  refine W.lcmp hx hb dX5_castLow_6 ?_
  refine my_joinP (S := Int64) (fun u => True) (fun u => [(0, .long loa), (2, .long hia), (4, .int la)]) (fun u => [.long (u)]) (nL := 5) 29 (fun u_3 hu_3 ls1 hl1 => ?_) (fun jn_3 => ?_)
  · -- behind 29
    obtain ⟨v_4, rfl⟩ : ∃ z, z = u_3 := ⟨_, rfl⟩
    replace hl : lv_has ls1 5 [(0, .long loa), (2, .long hia), (4, .int la)] := hl1
    clear hl1
    exact W.lret (v := v_4) hx hb hr (fun t ht hW => ⟨v_4, rfl, trivial, ht⟩) (by intro q hq; cases hq) dX5_castLow_29
  · -- ahead of 29
    refine lv_if_lt (tgt := 24) hx hb dX5_castLow_7 (by decide) (fun c_5 => ?_) (fun c_5 => ?_)
    · -- yes
      have k_5 : loa.toInt < r_1.toInt := lc_lt c_5
      refine lv_iload hx hb dX5_castLow_24 (lv_at hl 2 rfl) ?_
      refine vp_callSl (va_runS (As := [.int la]) (rest := []) ⟨hx, hb, hml, hown, hts⟩ (s_X5_laneLow l la) (va_cwS 1 hts h_X5_castLow_X5_laneLow_139 rfl rfl rfl (by decide +kernel) ⟨Nat.le_of_ble_eq_true rfl, Nat.le_of_ble_eq_true rfl⟩) ⟨fun _ _ _ _ q => q, fun _ _ _ => ⟨rfl, trivial⟩⟩ rfl rfl hl.1 rfl (lv_room (Nat.le_of_ble_eq_true rfl)) dX5_castLow_26 ⟨Nat.le_of_ble_eq_true rfl, Nat.le_of_ble_eq_true rfl⟩).run (fun r_6 hw_6 => ?_)
      exact jn_3 r_6 (show True from trivial) _ (lv_sub hl [0, 1, 2] rfl)
    · -- no
      have k_5 : r_1.toInt ≤ loa.toInt := lc_nlt c_5
      refine lv_lload_n hx hb dX5_castLow_10 rfl (lv_at hl 1 rfl) ?_
      refine lv_iload hx hb dX5_castLow_11 (lv_at hl 2 rfl) ?_
      refine vp_callSl (va_runS (As := [.int la]) (rest := [.long hia]) ⟨hx, hb, hml, hown, hts⟩ (s_X5_laneHigh l la) (va_cwS 1 hts h_X5_castLow_X5_laneHigh_143 rfl rfl rfl (by decide +kernel) ⟨Nat.le_of_ble_eq_true rfl, Nat.le_of_ble_eq_true rfl⟩) ⟨fun _ _ _ _ q => q, fun _ _ _ => ⟨rfl, trivial⟩⟩ rfl rfl hl.1 rfl (lv_room (Nat.le_of_ble_eq_true rfl)) dX5_castLow_13 ⟨Nat.le_of_ble_eq_true rfl, Nat.le_of_ble_eq_true rfl⟩).run (fun r_7 hw_7 => ?_)
      refine W.lcmp hx hb dX5_castLow_16 ?_
      refine lv_if_gt (tgt := 24) hx hb dX5_castLow_17 (by decide) (fun c_8 => ?_) (fun c_8 => ?_)
      · -- yes
        have k_8 : r_7.toInt < hia.toInt := lc_gt c_8
        refine lv_iload hx hb dX5_castLow_24 (lv_at hl 2 rfl) ?_
        refine vp_callSl (va_runS (As := [.int la]) (rest := []) ⟨hx, hb, hml, hown, hts⟩ (s_X5_laneLow l la) (va_cwS 1 hts h_X5_castLow_X5_laneLow_139 rfl rfl rfl (by decide +kernel) ⟨Nat.le_of_ble_eq_true rfl, Nat.le_of_ble_eq_true rfl⟩) ⟨fun _ _ _ _ q => q, fun _ _ _ => ⟨rfl, trivial⟩⟩ rfl rfl hl.1 rfl (lv_room (Nat.le_of_ble_eq_true rfl)) dX5_castLow_26 ⟨Nat.le_of_ble_eq_true rfl, Nat.le_of_ble_eq_true rfl⟩).run (fun r_9 hw_9 => ?_)
        exact jn_3 r_9 (show True from trivial) _ (lv_sub hl [0, 1, 2] rfl)
      · -- no
        have k_8 : hia.toInt ≤ r_7.toInt := lc_ngt c_8
        refine lv_lload_n hx hb dX5_castLow_20 rfl (lv_at hl 0 rfl) ?_
        refine lv_goto (tgt := 29) hx hb dX5_castLow_21 (by decide) ?_
        exact jn_3 loa (show True from trivial) _ (lv_sub hl [0, 1, 2] rfl)

def v_X5_castHigh : List Cond := .code yX5_castHigh cX5_castHigh 5 (some .long) :: ([.methodLink RX5 139 yX5_laneLow, .static yX5_laneLow, .initialized RX5, .methodLink RX5 143 yX5_laneHigh, .static yX5_laneHigh] ++ (v_X5_laneLow ++ (v_X5_laneHigh)))
theorem im_X5_castHigh_X5_laneLow : ∀ w ∈ v_X5_laneLow, w ∈ v_X5_castHigh := fun _ h => List.mem_cons_of_mem _ (List.mem_append_right _ (List.mem_append_left _ h))
theorem im_X5_castHigh_X5_laneHigh : ∀ w ∈ v_X5_laneHigh, w ∈ v_X5_castHigh := fun _ h => List.mem_cons_of_mem _ (List.mem_append_right _ (List.mem_append_right _ (h)))
set_option maxRecDepth 20000 in
theorem gd_X5_castHigh : gdL v_X5_castHigh := gdC (gdW (by decide +kernel)) (gdA (gdW (by decide +kernel)) (gdA gd_X5_laneLow gd_X5_laneHigh))
set_option maxRecDepth 20000 in
theorem h_X5_castHigh_X5_laneLow_139 : GoodIn v_X5_castHigh (va_wsS RX5 139 yX5_laneLow v_X5_laneLow) := gdI [1, 2, 3] rfl (by decide +kernel) (im_X5_castHigh_X5_laneLow) gd_X5_laneLow
set_option maxRecDepth 20000 in
theorem h_X5_castHigh_X5_laneHigh_143 : GoodIn v_X5_castHigh (va_wsS RX5 143 yX5_laneHigh v_X5_laneHigh) := gdI [4, 5, 3] rfl (by decide +kernel) (im_X5_castHigh_X5_laneHigh) gd_X5_laneHigh
set_option maxHeartbeats 8000000 in
set_option maxRecDepth 100000 in
theorem s_X5_castHigh (l : Launch) (loa : Int64) (hia : Int64) (la : Int32) : Met l yX5_castHigh v_X5_castHigh ({ frames := 1, cells := 0, slots := 0, locals := 20 }) (va_Pc [.long loa, .long hia, .int la] (fun _ => True)) (vp_Sl (fun (r : Int64) => True)) 0 0 (fun _ => False) := by
  refine Met.ofW (cc := cX5_castHigh) (maxL := 5) (ret := (some .long)) (by decide) rfl ?_
  intro p e s m args below meth c s₁ B hml hv
  obtain ⟨rfl, -⟩ := hv
  have hx := B.exec
  have hb := B.bytes
  have hr := B.returns
  have hts := atoms_spec (ws := v_X5_castHigh) B.pre
  have hown : s.vm.findClass RX5 = some m.cls := findClass_of_methodNamed B.named
  have hlocks := B.notSynchronized
  have hl := lv_entry ([.long loa, .long hia, .int la]) (n := 5) (Nat.le_of_ble_eq_true rfl)
  rw [lg_entry_eq]
  generalize (lg_sl ([.long loa, .long hia, .int la]) ++ List.replicate (5 - (lg_sl ([.long loa, .long hia, .int la])).length) Slot.unset).toArray = ls at hl ⊢
  replace hl : lv_has ls 5 [(0, .long loa), (2, .long hia), (4, .int la)] := hl
  have z_0 : (0 : Int32).toInt = 0 := by decide
  have z_1 : (1 : Int32).toInt = 1 := by decide
  refine lv_lload_n hx hb dX5_castHigh_0 rfl (lv_at hl 0 rfl) ?_
  refine lv_iload hx hb dX5_castHigh_1 (lv_at hl 2 rfl) ?_
  refine vp_callSl (va_runS (As := [.int la]) (rest := [.long loa]) ⟨hx, hb, hml, hown, hts⟩ (s_X5_laneLow l la) (va_cwS 1 hts h_X5_castHigh_X5_laneLow_139 rfl rfl rfl (by decide +kernel) ⟨Nat.le_of_ble_eq_true rfl, Nat.le_of_ble_eq_true rfl⟩) ⟨fun _ _ _ _ q => q, fun _ _ _ => ⟨rfl, trivial⟩⟩ rfl rfl hl.1 rfl (lv_room (Nat.le_of_ble_eq_true rfl)) dX5_castHigh_3 ⟨Nat.le_of_ble_eq_true rfl, Nat.le_of_ble_eq_true rfl⟩).run (fun r_1 hw_1 => ?_)
  refine W.lcmp hx hb dX5_castHigh_6 ?_
  refine my_joinP (S := Int64) (fun u => True) (fun u => [(0, .long loa), (2, .long hia), (4, .int la)]) (fun u => [.long (u)]) (nL := 5) 29 (fun u_3 hu_3 ls1 hl1 => ?_) (fun jn_3 => ?_)
  · -- behind 29
    obtain ⟨v_4, rfl⟩ : ∃ z, z = u_3 := ⟨_, rfl⟩
    replace hl : lv_has ls1 5 [(0, .long loa), (2, .long hia), (4, .int la)] := hl1
    clear hl1
    exact W.lret (v := v_4) hx hb hr (fun t ht hW => ⟨v_4, rfl, trivial, ht⟩) (by intro q hq; cases hq) dX5_castHigh_29
  · -- ahead of 29
    refine lv_if_lt (tgt := 24) hx hb dX5_castHigh_7 (by decide) (fun c_5 => ?_) (fun c_5 => ?_)
    · -- yes
      have k_5 : loa.toInt < r_1.toInt := lc_lt c_5
      refine lv_iload hx hb dX5_castHigh_24 (lv_at hl 2 rfl) ?_
      refine vp_callSl (va_runS (As := [.int la]) (rest := []) ⟨hx, hb, hml, hown, hts⟩ (s_X5_laneHigh l la) (va_cwS 1 hts h_X5_castHigh_X5_laneHigh_143 rfl rfl rfl (by decide +kernel) ⟨Nat.le_of_ble_eq_true rfl, Nat.le_of_ble_eq_true rfl⟩) ⟨fun _ _ _ _ q => q, fun _ _ _ => ⟨rfl, trivial⟩⟩ rfl rfl hl.1 rfl (lv_room (Nat.le_of_ble_eq_true rfl)) dX5_castHigh_26 ⟨Nat.le_of_ble_eq_true rfl, Nat.le_of_ble_eq_true rfl⟩).run (fun r_6 hw_6 => ?_)
      exact jn_3 r_6 (show True from trivial) _ (lv_sub hl [0, 1, 2] rfl)
    · -- no
      have k_5 : r_1.toInt ≤ loa.toInt := lc_nlt c_5
      refine lv_lload_n hx hb dX5_castHigh_10 rfl (lv_at hl 1 rfl) ?_
      refine lv_iload hx hb dX5_castHigh_11 (lv_at hl 2 rfl) ?_
      refine vp_callSl (va_runS (As := [.int la]) (rest := [.long hia]) ⟨hx, hb, hml, hown, hts⟩ (s_X5_laneHigh l la) (va_cwS 1 hts h_X5_castHigh_X5_laneHigh_143 rfl rfl rfl (by decide +kernel) ⟨Nat.le_of_ble_eq_true rfl, Nat.le_of_ble_eq_true rfl⟩) ⟨fun _ _ _ _ q => q, fun _ _ _ => ⟨rfl, trivial⟩⟩ rfl rfl hl.1 rfl (lv_room (Nat.le_of_ble_eq_true rfl)) dX5_castHigh_13 ⟨Nat.le_of_ble_eq_true rfl, Nat.le_of_ble_eq_true rfl⟩).run (fun r_7 hw_7 => ?_)
      refine W.lcmp hx hb dX5_castHigh_16 ?_
      refine lv_if_gt (tgt := 24) hx hb dX5_castHigh_17 (by decide) (fun c_8 => ?_) (fun c_8 => ?_)
      · -- yes
        have k_8 : r_7.toInt < hia.toInt := lc_gt c_8
        refine lv_iload hx hb dX5_castHigh_24 (lv_at hl 2 rfl) ?_
        refine vp_callSl (va_runS (As := [.int la]) (rest := []) ⟨hx, hb, hml, hown, hts⟩ (s_X5_laneHigh l la) (va_cwS 1 hts h_X5_castHigh_X5_laneHigh_143 rfl rfl rfl (by decide +kernel) ⟨Nat.le_of_ble_eq_true rfl, Nat.le_of_ble_eq_true rfl⟩) ⟨fun _ _ _ _ q => q, fun _ _ _ => ⟨rfl, trivial⟩⟩ rfl rfl hl.1 rfl (lv_room (Nat.le_of_ble_eq_true rfl)) dX5_castHigh_26 ⟨Nat.le_of_ble_eq_true rfl, Nat.le_of_ble_eq_true rfl⟩).run (fun r_9 hw_9 => ?_)
        exact jn_3 r_9 (show True from trivial) _ (lv_sub hl [0, 1, 2] rfl)
      · -- no
        have k_8 : hia.toInt ≤ r_7.toInt := lc_ngt c_8
        refine lv_lload_n hx hb dX5_castHigh_20 rfl (lv_at hl 1 rfl) ?_
        refine lv_goto (tgt := 29) hx hb dX5_castHigh_21 (by decide) ?_
        exact jn_3 hia (show True from trivial) _ (lv_sub hl [0, 1, 2] rfl)

def v_X5_cast : List Cond := .code yX5_cast cX5_cast 2 (some .int) :: ([.constant RX5 287 (65535)] ++ ([]))
set_option maxRecDepth 20000 in
theorem gd_X5_cast : gdL v_X5_cast := gdC (gdW (by decide +kernel)) (gdA (gdW (by decide +kernel)) gdE)
set_option maxHeartbeats 8000000 in
set_option maxRecDepth 100000 in
theorem s_X5_cast (l : Launch) (va : Int32) (la : Int32) : Met l yX5_cast v_X5_cast ({ frames := 0, cells := 0, slots := 0, locals := 0 }) (va_Pc [.int va, .int la] (fun _ => True)) (vp_Si (fun (r : Int32) => True)) 0 0 (fun _ => False) := by
  refine Met.ofW (cc := cX5_cast) (maxL := 2) (ret := (some .int)) (by decide) rfl ?_
  intro p e s m args below meth c s₁ B hml hv
  obtain ⟨rfl, -⟩ := hv
  have hx := B.exec
  have hb := B.bytes
  have hr := B.returns
  have hts := atoms_spec (ws := v_X5_cast) B.pre
  have hown : s.vm.findClass RX5 = some m.cls := findClass_of_methodNamed B.named
  have hlocks := B.notSynchronized
  have hl := lv_entry ([.int va, .int la]) (n := 2) (Nat.le_of_ble_eq_true rfl)
  rw [lg_entry_eq]
  generalize (lg_sl ([.int va, .int la]) ++ List.replicate (2 - (lg_sl ([.int va, .int la])).length) Slot.unset).toArray = ls at hl ⊢
  replace hl : lv_has ls 2 [(0, .int va), (1, .int la)] := hl
  have z_0 : (0 : Int32).toInt = 0 := by decide
  have z_1 : (1 : Int32).toInt = 1 := by decide
  refine lv_iload_n hx hb dX5_cast_0 rfl (lv_at hl 1 rfl) ?_
  refine my_joinP (S := Int32) (fun u => True) (fun u => [(0, .int va), (1, .int la)]) (fun u => [.int (u)]) (nL := 2) 23 (fun u_2 hu_2 ls1 hl1 => ?_) (fun jn_2 => ?_)
  · -- behind 23
    obtain ⟨v_3, rfl⟩ : ∃ z, z = u_2 := ⟨_, rfl⟩
    replace hl : lv_has ls1 2 [(0, .int va), (1, .int la)] := hl1
    clear hl1
    exact W.iret (v := v_3) hx hb hr (fun t ht hW => ⟨v_3, rfl, trivial, ht⟩) (by intro q hq; cases hq) dX5_cast_23
  · -- ahead of 23
    refine lv_if_ne (tgt := 9) hx hb dX5_cast_1 (by decide) (fun c_4 => ?_) (fun c_4 => ?_)
    · -- yes
      have k_4 : ¬ la.toInt = (0 : Int32).toInt := ci_ne c_4
      refine lv_iload_n hx hb dX5_cast_9 rfl (lv_at hl 1 rfl) ?_
      refine lv_iconst (v := 1) hx hb dX5_cast_10 (by decide) ?_
      refine lv_icmp_ne (tgt := 22) hx hb dX5_cast_11 (by decide) (fun c_5 => ?_) (fun c_5 => ?_)
      · -- yes
        have k_5 : ¬ la.toInt = (1 : Int32).toInt := ci_ne c_5
        refine lv_iload_n hx hb dX5_cast_22 rfl (lv_at hl 0 rfl) ?_
        exact jn_2 va (show True from trivial) _ (lv_sub hl [0, 1] rfl)
      · -- no
        have k_5 : la.toInt = (1 : Int32).toInt := ci_eq c_5
        refine lv_iload_n hx hb dX5_cast_14 rfl (lv_at hl 0 rfl) ?_
        refine lv_ldcw hx hb hown (hts (.constant RX5 287 (65535)) (List.mem_of_getElem? (i := 1) rfl)) dX5_cast_15 ?_
        refine lv_iand hx hb dX5_cast_18 ?_
        refine lv_topi (fun v_6 e_v_6 => ?_)
        refine lv_goto (tgt := 23) hx hb dX5_cast_19 (by decide) ?_
        exact jn_2 v_6 (show True from trivial) _ (lv_sub hl [0, 1] rfl)
    · -- no
      have k_4 : la.toInt = (0 : Int32).toInt := ci_eq c_4
      refine lv_iload_n hx hb dX5_cast_4 rfl (lv_at hl 0 rfl) ?_
      refine lv_i2b (v := _) hx hb dX5_cast_5 rfl ?_
      refine lv_topi (fun v_7 _ => ?_)
      refine lv_goto (tgt := 23) hx hb dX5_cast_6 (by decide) ?_
      exact jn_2 v_7 (show True from trivial) _ (lv_sub hl [0, 1] rfl)

def v_X5_forget : List Cond := .code yX5_forget cX5_forget 2 none :: ([.fieldLink RX5 99 "ArraySegmentsModel" "hasRun" "Z", .fieldLink RX5 103 "ArraySegmentsModel" "threw" "I", .fieldLink RX5 107 "ArraySegmentsModel" "whereThrown" "I", .fieldLink RX5 72 "ArraySegmentsModel" "value" "[I", .fieldLink RX5 75 "ArraySegmentsModel" "means" "[I"] ++ (wsX50))
theorem inv_X5_forget_X5 : ∀ w ∈ wsX50, w ∈ v_X5_forget := fun _ h => List.mem_cons_of_mem _ (List.mem_append_right _ (h))
set_option maxRecDepth 20000 in
theorem gd_X5_forget : gdL v_X5_forget := gdC (gdW (by decide +kernel)) (gdA (gdW (by decide +kernel)) gd_wsX50)
abbrev sw_X5_forget (cI cJ cZ : ClassId) (gh : Nat) (g_acts : Int32) (g_kind : Value) (g_na : Value) (g_nb : Value) (g_nc : Value) (g_nd : Value) (g_ne : Value) (g_dropped : Value) (g_live : Value) (g_low : Value) (g_high : Value) (g_sites : Value) (g_nulls : Value) (g_there : Value) (g_lanes : Value) (g_least : Value) (g_most : Value) (g_placeLow : Value) (g_placeHigh : Value) (g_reached : Value) (g_mayThrow : Value) (g_status : Int32) (g_hasRun : Int32) (g_threw : Int32) (g_whereThrown : Int32) (ga_value : Nat) (ga_means : Nat) (g_laneOf : Value) (g_sizeOf : Value) (g_cells : Value) (g_copied : Value) (g_state : Int64) (g_joinedLow : Int64) (g_joinedHigh : Int64) (g_keptLow : Value) (g_keptHigh : Value) (gc_value : Nat → Int32) (gc_means : Nat → Int32) : va_W := [(gh, .inr (5, [.int g_acts, g_kind, g_na, g_nb, g_nc, g_nd, g_ne, g_dropped, g_live, g_low, g_high, g_sites, g_nulls, g_there, g_lanes, g_least, g_most, g_placeLow, g_placeHigh, g_reached, g_mayThrow, .int g_status, .int g_hasRun, .int g_threw, .int g_whereThrown, .ref ga_value, .ref ga_means, g_laneOf, g_sizeOf, g_cells, g_copied, .long g_state, .long g_joinedLow, .long g_joinedHigh, g_keptLow, g_keptHigh])), (ga_value, .inl (cI, 6, .inl gc_value)), (ga_means, .inl (cI, 6, .inl gc_means))]
set_option maxHeartbeats 8000000 in
set_option maxRecDepth 100000 in
theorem s_X5_forget (l : Launch) (dC : Nat → ClassId) (dI : Nat → Nat → Nat) (cI cJ cZ : ClassId) (gh : Nat) (g_acts : Int32) (g_kind : Value) (g_na : Value) (g_nb : Value) (g_nc : Value) (g_nd : Value) (g_ne : Value) (g_dropped : Value) (g_live : Value) (g_low : Value) (g_high : Value) (g_sites : Value) (g_nulls : Value) (g_there : Value) (g_lanes : Value) (g_least : Value) (g_most : Value) (g_placeLow : Value) (g_placeHigh : Value) (g_reached : Value) (g_mayThrow : Value) (g_status : Int32) (g_hasRun : Int32) (g_threw : Int32) (g_whereThrown : Int32) (ga_value : Nat) (ga_means : Nat) (g_laneOf : Value) (g_sizeOf : Value) (g_cells : Value) (g_copied : Value) (g_state : Int64) (g_joinedLow : Int64) (g_joinedHigh : Int64) (g_keptLow : Value) (g_keptHigh : Value) (gc_value : Nat → Int32) (gc_means : Nat → Int32) (sz : Nat) (q_g_hasRun : kZ g_hasRun) (h_gc_means : ∀ j : Nat, kSITE (gc_means j)) : Met l yX5_forget v_X5_forget ({ frames := 0, cells := 0, slots := 0, locals := 0 }) (va_Pc [.ref gh] (cPre dC dI cI cJ cZ sz (sw_X5_forget cI cJ cZ gh g_acts g_kind g_na g_nb g_nc g_nd g_ne g_dropped g_live g_low g_high g_sites g_nulls g_there g_lanes g_least g_most g_placeLow g_placeHigh g_reached g_mayThrow g_status g_hasRun g_threw g_whereThrown ga_value ga_means g_laneOf g_sizeOf g_cells g_copied g_state g_joinedLow g_joinedHigh g_keptLow g_keptHigh gc_value gc_means))) (va_Qv (fun (u : Int32 × Int32 × Int32 × (Nat → Int32) × (Nat → Int32)) => (kZ (u.1)) ∧ (∀ j : Nat, kSITE ((u.2.2.2.2) j)) ∧ ((u.2.1).toInt = 0)) (fun (u : Int32 × Int32 × Int32 × (Nat → Int32) × (Nat → Int32)) => cPost dC dI cI cJ cZ (va_A (sw_X5_forget cI cJ cZ gh g_acts g_kind g_na g_nb g_nc g_nd g_ne g_dropped g_live g_low g_high g_sites g_nulls g_there g_lanes g_least g_most g_placeLow g_placeHigh g_reached g_mayThrow g_status g_hasRun g_threw g_whereThrown ga_value ga_means g_laneOf g_sizeOf g_cells g_copied g_state g_joinedLow g_joinedHigh g_keptLow g_keptHigh gc_value gc_means) sz) [(gh, .inr (5, [.int g_acts, g_kind, g_na, g_nb, g_nc, g_nd, g_ne, g_dropped, g_live, g_low, g_high, g_sites, g_nulls, g_there, g_lanes, g_least, g_most, g_placeLow, g_placeHigh, g_reached, g_mayThrow, .int g_status, .int (u.1), .int (u.2.1), .int (u.2.2.1), .ref ga_value, .ref ga_means, g_laneOf, g_sizeOf, g_cells, g_copied, .long g_state, .long g_joinedLow, .long g_joinedHigh, g_keptLow, g_keptHigh])), (ga_value, .inl (cI, 6, .inl (u.2.2.2.1))), (ga_means, .inl (cI, 6, .inl (u.2.2.2.2)))]) (va_A (sw_X5_forget cI cJ cZ gh g_acts g_kind g_na g_nb g_nc g_nd g_ne g_dropped g_live g_low g_high g_sites g_nulls g_there g_lanes g_least g_most g_placeLow g_placeHigh g_reached g_mayThrow g_status g_hasRun g_threw g_whereThrown ga_value ga_means g_laneOf g_sizeOf g_cells g_copied g_state g_joinedLow g_joinedHigh g_keptLow g_keptHigh gc_value gc_means) sz)) 0 0 (va_A (sw_X5_forget cI cJ cZ gh g_acts g_kind g_na g_nb g_nc g_nd g_ne g_dropped g_live g_low g_high g_sites g_nulls g_there g_lanes g_least g_most g_placeLow g_placeHigh g_reached g_mayThrow g_status g_hasRun g_threw g_whereThrown ga_value ga_means g_laneOf g_sizeOf g_cells g_copied g_state g_joinedLow g_joinedHigh g_keptLow g_keptHigh gc_value gc_means) sz) := by
  refine Met.ofW (cc := cX5_forget) (maxL := 2) (ret := none) (by decide) rfl ?_
  intro p e s m args below meth c s₁ B hml hv
  obtain ⟨rfl, hsz, hP, hK, hD0, hN⟩ := hv
  have hx := B.exec
  have hb := B.bytes
  have hr := B.returns
  have hts := atoms_spec (ws := v_X5_forget) B.pre
  have hown : s.vm.findClass RX5 = some m.cls := findClass_of_methodNamed B.named
  have hlocks := B.notSynchronized
  subst hsz
  have hD := hD0.self (sz := s.heap.size)
  generalize hAe : va_A (sw_X5_forget cI cJ cZ gh g_acts g_kind g_na g_nb g_nc g_nd g_ne g_dropped g_live g_low g_high g_sites g_nulls g_there g_lanes g_least g_most g_placeLow g_placeHigh g_reached g_mayThrow g_status g_hasRun g_threw g_whereThrown ga_value ga_means g_laneOf g_sizeOf g_cells g_copied g_state g_joinedLow g_joinedHigh g_keptLow g_keptHigh gc_value gc_means) s.heap.size = A at hD ⊢
  have hA : ∀ q : Nat, s.heap.size ≤ q → A q := fun q h => by rw [← hAe]; exact Or.inr h
  clear hAe hD0
  have hS : va_S A s.heap s.heap [] := va_S.rf
  replace hP : va_P (dC, dI) vwCl [(gh, .inr (5, [.int g_acts, g_kind, g_na, g_nb, g_nc, g_nd, g_ne, g_dropped, g_live, g_low, g_high, g_sites, g_nulls, g_there, g_lanes, g_least, g_most, g_placeLow, g_placeHigh, g_reached, g_mayThrow, .int g_status, .int g_hasRun, .int g_threw, .int g_whereThrown, .ref ga_value, .ref ga_means, g_laneOf, g_sizeOf, g_cells, g_copied, .long g_state, .long g_joinedLow, .long g_joinedHigh, g_keptLow, g_keptHigh])), (ga_value, .inl (cI, 6, .inl gc_value)), (ga_means, .inl (cI, 6, .inl gc_means))] s.heap := hP
  replace hD : va_D A [(gh, .inr (5, [.int g_acts, g_kind, g_na, g_nb, g_nc, g_nd, g_ne, g_dropped, g_live, g_low, g_high, g_sites, g_nulls, g_there, g_lanes, g_least, g_most, g_placeLow, g_placeHigh, g_reached, g_mayThrow, .int g_status, .int g_hasRun, .int g_threw, .int g_whereThrown, .ref ga_value, .ref ga_means, g_laneOf, g_sizeOf, g_cells, g_copied, .long g_state, .long g_joinedLow, .long g_joinedHigh, g_keptLow, g_keptHigh])), (ga_value, .inl (cI, 6, .inl gc_value)), (ga_means, .inl (cI, 6, .inl gc_means))] := hD
  have hl := lv_entry ([.ref gh]) (n := 2) (Nat.le_of_ble_eq_true rfl)
  rw [lg_entry_eq]
  generalize (lg_sl ([.ref gh]) ++ List.replicate (2 - (lg_sl ([.ref gh])).length) Slot.unset).toArray = ls at hl ⊢
  replace hl : lv_has ls 2 [(0, .ref gh)] := hl
  have z_m1 : (-1 : Int32).toInt = -1 := by decide
  have z_0 : (0 : Int32).toInt = 0 := by decide
  have z_1 : (1 : Int32).toInt = 1 := by decide
  have z_6 : (6 : Int32).toInt = 6 := by decide
  refine lv_aload_n hx hb dX5_forget_0 rfl (lv_at hl 0 rfl) ?_
  refine lv_iconst (v := 0) hx hb dX5_forget_1 (by decide) ?_
  refine va_put (D := (dC, dI)) (ci := 5) (v := .int 0) (ty := .boolean) (C := RX5) (T := TX5) (N := 36) hx hb hts inv_X5_forget_X5 tyX5 tyX5_ok nmX5 hown hK hP hD hS 0 rfl rfl 22 (by decide) (hts (.fieldLink RX5 99 "ArraySegmentsModel" "hasRun" "Z") (List.mem_of_getElem? (i := 1) rfl)) (fun _ h9 => h9) rfl (by decide +kernel) rfl rfl (Nat.le_of_ble_eq_true rfl) dX5_forget_2 (fun H_1 locs_1 hP1 hD1 hS1 => ?_)
  replace hP : va_P (dC, dI) vwCl [(gh, .inr (5, [.int g_acts, g_kind, g_na, g_nb, g_nc, g_nd, g_ne, g_dropped, g_live, g_low, g_high, g_sites, g_nulls, g_there, g_lanes, g_least, g_most, g_placeLow, g_placeHigh, g_reached, g_mayThrow, .int g_status, .int 0, .int g_threw, .int g_whereThrown, .ref ga_value, .ref ga_means, g_laneOf, g_sizeOf, g_cells, g_copied, .long g_state, .long g_joinedLow, .long g_joinedHigh, g_keptLow, g_keptHigh])), (ga_value, .inl (cI, 6, .inl gc_value)), (ga_means, .inl (cI, 6, .inl gc_means))] H_1 := hP1
  replace hD : va_D A [(gh, .inr (5, [.int g_acts, g_kind, g_na, g_nb, g_nc, g_nd, g_ne, g_dropped, g_live, g_low, g_high, g_sites, g_nulls, g_there, g_lanes, g_least, g_most, g_placeLow, g_placeHigh, g_reached, g_mayThrow, .int g_status, .int 0, .int g_threw, .int g_whereThrown, .ref ga_value, .ref ga_means, g_laneOf, g_sizeOf, g_cells, g_copied, .long g_state, .long g_joinedLow, .long g_joinedHigh, g_keptLow, g_keptHigh])), (ga_value, .inl (cI, 6, .inl gc_value)), (ga_means, .inl (cI, 6, .inl gc_means))] := hD1
  replace hS := hS1
  clear hP1 hD1 hS1
  refine lv_aload_n hx hb dX5_forget_5 rfl (lv_at hl 0 rfl) ?_
  refine lv_iconst (v := 0) hx hb dX5_forget_6 (by decide) ?_
  refine va_put (D := (dC, dI)) (ci := 5) (v := .int 0) (ty := .int) (C := RX5) (T := TX5) (N := 36) hx hb hts inv_X5_forget_X5 tyX5 tyX5_ok nmX5 hown hK hP hD hS 0 rfl rfl 23 (by decide) (hts (.fieldLink RX5 103 "ArraySegmentsModel" "threw" "I") (List.mem_of_getElem? (i := 2) rfl)) (fun _ h9 => h9) rfl (by decide +kernel) rfl rfl (Nat.le_of_ble_eq_true rfl) dX5_forget_7 (fun H_2 locs_2 hP1 hD1 hS1 => ?_)
  replace hP : va_P (dC, dI) vwCl [(gh, .inr (5, [.int g_acts, g_kind, g_na, g_nb, g_nc, g_nd, g_ne, g_dropped, g_live, g_low, g_high, g_sites, g_nulls, g_there, g_lanes, g_least, g_most, g_placeLow, g_placeHigh, g_reached, g_mayThrow, .int g_status, .int 0, .int 0, .int g_whereThrown, .ref ga_value, .ref ga_means, g_laneOf, g_sizeOf, g_cells, g_copied, .long g_state, .long g_joinedLow, .long g_joinedHigh, g_keptLow, g_keptHigh])), (ga_value, .inl (cI, 6, .inl gc_value)), (ga_means, .inl (cI, 6, .inl gc_means))] H_2 := hP1
  replace hD : va_D A [(gh, .inr (5, [.int g_acts, g_kind, g_na, g_nb, g_nc, g_nd, g_ne, g_dropped, g_live, g_low, g_high, g_sites, g_nulls, g_there, g_lanes, g_least, g_most, g_placeLow, g_placeHigh, g_reached, g_mayThrow, .int g_status, .int 0, .int 0, .int g_whereThrown, .ref ga_value, .ref ga_means, g_laneOf, g_sizeOf, g_cells, g_copied, .long g_state, .long g_joinedLow, .long g_joinedHigh, g_keptLow, g_keptHigh])), (ga_value, .inl (cI, 6, .inl gc_value)), (ga_means, .inl (cI, 6, .inl gc_means))] := hD1
  replace hS := hS1
  clear hP1 hD1 hS1
  refine lv_aload_n hx hb dX5_forget_10 rfl (lv_at hl 0 rfl) ?_
  refine lv_iconst (v := (-1)) hx hb dX5_forget_11 (by decide) ?_
  refine va_put (D := (dC, dI)) (ci := 5) (v := .int (-1)) (ty := .int) (C := RX5) (T := TX5) (N := 36) hx hb hts inv_X5_forget_X5 tyX5 tyX5_ok nmX5 hown hK hP hD hS 0 rfl rfl 24 (by decide) (hts (.fieldLink RX5 107 "ArraySegmentsModel" "whereThrown" "I") (List.mem_of_getElem? (i := 3) rfl)) (fun _ h9 => h9) rfl (by decide +kernel) rfl rfl (Nat.le_of_ble_eq_true rfl) dX5_forget_12 (fun H_3 locs_3 hP1 hD1 hS1 => ?_)
  replace hP : va_P (dC, dI) vwCl [(gh, .inr (5, [.int g_acts, g_kind, g_na, g_nb, g_nc, g_nd, g_ne, g_dropped, g_live, g_low, g_high, g_sites, g_nulls, g_there, g_lanes, g_least, g_most, g_placeLow, g_placeHigh, g_reached, g_mayThrow, .int g_status, .int 0, .int 0, .int (-1), .ref ga_value, .ref ga_means, g_laneOf, g_sizeOf, g_cells, g_copied, .long g_state, .long g_joinedLow, .long g_joinedHigh, g_keptLow, g_keptHigh])), (ga_value, .inl (cI, 6, .inl gc_value)), (ga_means, .inl (cI, 6, .inl gc_means))] H_3 := hP1
  replace hD : va_D A [(gh, .inr (5, [.int g_acts, g_kind, g_na, g_nb, g_nc, g_nd, g_ne, g_dropped, g_live, g_low, g_high, g_sites, g_nulls, g_there, g_lanes, g_least, g_most, g_placeLow, g_placeHigh, g_reached, g_mayThrow, .int g_status, .int 0, .int 0, .int (-1), .ref ga_value, .ref ga_means, g_laneOf, g_sizeOf, g_cells, g_copied, .long g_state, .long g_joinedLow, .long g_joinedHigh, g_keptLow, g_keptHigh])), (ga_value, .inl (cI, 6, .inl gc_value)), (ga_means, .inl (cI, 6, .inl gc_means))] := hD1
  replace hS := hS1
  clear hP1 hD1 hS1
  refine lv_iconst (v := 0) hx hb dX5_forget_15 (by decide) ?_
  refine lv_istore_n (lv' := [(1, .int 0), (0, .ref gh)]) hx hb dX5_forget_16 rfl hl (by decide) rfl (fun ls1 hl1 => ?_)
  replace hl := hl1; clear hl1
  refine my_wloop (S := Int32 × (Nat → Int32) × (Nat → Int32)) (fun u => (0 ≤ (u.1).toInt ∧ (u.1).toInt ≤ 6) ∧ (∀ j : Nat, kSITE ((u.2.2) j))) (fun u => (6 - (u.1).toInt).toNat) (fun u => [(gh, .inr (5, [.int g_acts, g_kind, g_na, g_nb, g_nc, g_nd, g_ne, g_dropped, g_live, g_low, g_high, g_sites, g_nulls, g_there, g_lanes, g_least, g_most, g_placeLow, g_placeHigh, g_reached, g_mayThrow, .int g_status, .int 0, .int 0, .int (-1), .ref ga_value, .ref ga_means, g_laneOf, g_sizeOf, g_cells, g_copied, .long g_state, .long g_joinedLow, .long g_joinedHigh, g_keptLow, g_keptHigh])), (ga_value, .inl (cI, 6, .inl (u.2.1))), (ga_means, .inl (cI, 6, .inl (u.2.2)))]) (fun u => [(1, .int (u.1)), (0, .ref gh)]) (H0 := s.heap) (A := A) (D := (dC, dI)) (cl := vwCl) ((0 : Int32), gc_value, gc_means) (show (0 ≤ (0 : Int32).toInt ∧ (0 : Int32).toInt ≤ 6) ∧ (∀ j : Nat, kSITE (gc_means j)) from ⟨⟨by omega, by omega⟩, h_gc_means⟩) (by exact hP) (by exact hD) hS (by exact hl) (fun u_4 hu_4 ih_4 H_4 locs_4 ls1 hP1 hD1 hS1 hl1 => ?_)
  obtain ⟨v_5, f_6, f_7⟩ := u_4
  replace hu_4 : (0 ≤ v_5.toInt ∧ v_5.toInt ≤ 6) ∧ (∀ j : Nat, kSITE (f_7 j)) := hu_4
  obtain ⟨q_v_5, h_f_7⟩ := hu_4
  replace hP : va_P (dC, dI) vwCl [(gh, .inr (5, [.int g_acts, g_kind, g_na, g_nb, g_nc, g_nd, g_ne, g_dropped, g_live, g_low, g_high, g_sites, g_nulls, g_there, g_lanes, g_least, g_most, g_placeLow, g_placeHigh, g_reached, g_mayThrow, .int g_status, .int 0, .int 0, .int (-1), .ref ga_value, .ref ga_means, g_laneOf, g_sizeOf, g_cells, g_copied, .long g_state, .long g_joinedLow, .long g_joinedHigh, g_keptLow, g_keptHigh])), (ga_value, .inl (cI, 6, .inl f_6)), (ga_means, .inl (cI, 6, .inl f_7))] H_4 := hP1
  replace hD : va_D A [(gh, .inr (5, [.int g_acts, g_kind, g_na, g_nb, g_nc, g_nd, g_ne, g_dropped, g_live, g_low, g_high, g_sites, g_nulls, g_there, g_lanes, g_least, g_most, g_placeLow, g_placeHigh, g_reached, g_mayThrow, .int g_status, .int 0, .int 0, .int (-1), .ref ga_value, .ref ga_means, g_laneOf, g_sizeOf, g_cells, g_copied, .long g_state, .long g_joinedLow, .long g_joinedHigh, g_keptLow, g_keptHigh])), (ga_value, .inl (cI, 6, .inl f_6)), (ga_means, .inl (cI, 6, .inl f_7))] := hD1
  replace hS := hS1
  clear hP1 hD1 hS1
  replace hl : lv_has ls1 2 [(1, .int v_5), (0, .ref gh)] := hl1
  clear hl1
  refine lv_iload_n hx hb dX5_forget_17 rfl (lv_at hl 0 rfl) ?_
  refine lv_bipush (v := 6) hx hb dX5_forget_18 (by decide) ?_
  refine lv_icmp_ge (tgt := 43) hx hb dX5_forget_20 (by decide) (fun c_8 => ?_) (fun c_8 => ?_)
  · -- yes
    have k_8 : (6 : Int32).toInt ≤ v_5.toInt := ci_ge c_8
    have hP9 := hP.sub (ws' := [(gh, .inr (5, [.int g_acts, g_kind, g_na, g_nb, g_nc, g_nd, g_ne, g_dropped, g_live, g_low, g_high, g_sites, g_nulls, g_there, g_lanes, g_least, g_most, g_placeLow, g_placeHigh, g_reached, g_mayThrow, .int g_status, .int 0, .int 0, .int (-1), .ref ga_value, .ref ga_means, g_laneOf, g_sizeOf, g_cells, g_copied, .long g_state, .long g_joinedLow, .long g_joinedHigh, g_keptLow, g_keptHigh])), (ga_value, .inl (cI, 6, .inl f_6)), (ga_means, .inl (cI, 6, .inl f_7))]) [0, 1, 2] rfl
    have hD9 := hD.sub (ws' := [(gh, .inr (5, [.int g_acts, g_kind, g_na, g_nb, g_nc, g_nd, g_ne, g_dropped, g_live, g_low, g_high, g_sites, g_nulls, g_there, g_lanes, g_least, g_most, g_placeLow, g_placeHigh, g_reached, g_mayThrow, .int g_status, .int 0, .int 0, .int (-1), .ref ga_value, .ref ga_means, g_laneOf, g_sizeOf, g_cells, g_copied, .long g_state, .long g_joinedLow, .long g_joinedHigh, g_keptLow, g_keptHigh])), (ga_value, .inl (cI, 6, .inl f_6)), (ga_means, .inl (cI, 6, .inl f_7))]) [0, 1, 2] (by decide) rfl
    exact W.vret hx hb hr (fun t ht hW => ⟨⟨((0 : Int32), (0 : Int32), ((-1) : Int32), f_6, f_7), rfl, ⟨(show kZ (0 : Int32) from (by decide)), (show ∀ j : Nat, kSITE (f_7 j) from h_f_7), (show (0 : Int32).toInt = 0 from (by decide))⟩, by rw [ht]; exact hP9, va_K.moved hW.alike hK, hD9⟩, hS.F ht⟩) hS.2.2 dX5_forget_43
  · -- no
    have k_8 : v_5.toInt < (6 : Int32).toInt := ci_nge c_8
    refine lv_aload_n hx hb dX5_forget_23 rfl (lv_at hl 1 rfl) ?_
    refine va_get (D := (dC, dI)) (ci := 5) (v := .ref ga_value) (C := RX5) (T := TX5) (N := 36) hx hb hts inv_X5_forget_X5 hown hK hP 0 rfl rfl 25 (by decide) (hts (.fieldLink RX5 72 "ArraySegmentsModel" "value" "[I") (List.mem_of_getElem? (i := 4) rfl)) (fun _ h9 => h9) rfl dX5_forget_24 ?_
    refine lv_iload_n hx hb dX5_forget_27 rfl (lv_at hl 0 rfl) ?_
    refine lv_iconst (v := 0) hx hb dX5_forget_28 (by decide) ?_
    refine sf_iast kT hx hb hK hP hD hS 1 0 rfl rfl (fun _ => trivial) trivial (vp_in_iff.mpr ⟨by omega, by omega⟩) dX5_forget_29 (fun f_9 h_f_9 e_f_9 H_10 locs_10 hP1 hD1 hS1 => ?_)
    replace hP : va_P (dC, dI) vwCl [(gh, .inr (5, [.int g_acts, g_kind, g_na, g_nb, g_nc, g_nd, g_ne, g_dropped, g_live, g_low, g_high, g_sites, g_nulls, g_there, g_lanes, g_least, g_most, g_placeLow, g_placeHigh, g_reached, g_mayThrow, .int g_status, .int 0, .int 0, .int (-1), .ref ga_value, .ref ga_means, g_laneOf, g_sizeOf, g_cells, g_copied, .long g_state, .long g_joinedLow, .long g_joinedHigh, g_keptLow, g_keptHigh])), (ga_value, .inl (cI, 6, .inl f_9)), (ga_means, .inl (cI, 6, .inl f_7))] H_10 := hP1
    replace hD : va_D A [(gh, .inr (5, [.int g_acts, g_kind, g_na, g_nb, g_nc, g_nd, g_ne, g_dropped, g_live, g_low, g_high, g_sites, g_nulls, g_there, g_lanes, g_least, g_most, g_placeLow, g_placeHigh, g_reached, g_mayThrow, .int g_status, .int 0, .int 0, .int (-1), .ref ga_value, .ref ga_means, g_laneOf, g_sizeOf, g_cells, g_copied, .long g_state, .long g_joinedLow, .long g_joinedHigh, g_keptLow, g_keptHigh])), (ga_value, .inl (cI, 6, .inl f_9)), (ga_means, .inl (cI, 6, .inl f_7))] := hD1
    replace hS := hS1
    clear hP1 hD1 hS1
    refine lv_aload_n hx hb dX5_forget_30 rfl (lv_at hl 1 rfl) ?_
    refine va_get (D := (dC, dI)) (ci := 5) (v := .ref ga_means) (C := RX5) (T := TX5) (N := 36) hx hb hts inv_X5_forget_X5 hown hK hP 0 rfl rfl 26 (by decide) (hts (.fieldLink RX5 75 "ArraySegmentsModel" "means" "[I") (List.mem_of_getElem? (i := 5) rfl)) (fun _ h9 => h9) rfl dX5_forget_31 ?_
    refine lv_iload_n hx hb dX5_forget_34 rfl (lv_at hl 0 rfl) ?_
    refine lv_iconst (v := (-1)) hx hb dX5_forget_35 (by decide) ?_
    refine sf_iast kSITE hx hb hK hP hD hS 2 0 rfl rfl h_f_7 (show kSITE ((-1) : Int32) from by omega) (vp_in_iff.mpr ⟨by omega, by omega⟩) dX5_forget_36 (fun f_11 h_f_11 e_f_11 H_12 locs_12 hP1 hD1 hS1 => ?_)
    replace hP : va_P (dC, dI) vwCl [(gh, .inr (5, [.int g_acts, g_kind, g_na, g_nb, g_nc, g_nd, g_ne, g_dropped, g_live, g_low, g_high, g_sites, g_nulls, g_there, g_lanes, g_least, g_most, g_placeLow, g_placeHigh, g_reached, g_mayThrow, .int g_status, .int 0, .int 0, .int (-1), .ref ga_value, .ref ga_means, g_laneOf, g_sizeOf, g_cells, g_copied, .long g_state, .long g_joinedLow, .long g_joinedHigh, g_keptLow, g_keptHigh])), (ga_value, .inl (cI, 6, .inl f_9)), (ga_means, .inl (cI, 6, .inl f_11))] H_12 := hP1
    replace hD : va_D A [(gh, .inr (5, [.int g_acts, g_kind, g_na, g_nb, g_nc, g_nd, g_ne, g_dropped, g_live, g_low, g_high, g_sites, g_nulls, g_there, g_lanes, g_least, g_most, g_placeLow, g_placeHigh, g_reached, g_mayThrow, .int g_status, .int 0, .int 0, .int (-1), .ref ga_value, .ref ga_means, g_laneOf, g_sizeOf, g_cells, g_copied, .long g_state, .long g_joinedLow, .long g_joinedHigh, g_keptLow, g_keptHigh])), (ga_value, .inl (cI, 6, .inl f_9)), (ga_means, .inl (cI, 6, .inl f_11))] := hD1
    replace hS := hS1
    clear hP1 hD1 hS1
    refine sf_iinc hx hb dX5_forget_37 hl (k := 0) (x := v_5) (w := 1) rfl (by decide) (by decide) ⟨by omega, by omega⟩ (fun v_13 q_v_13 ls1 hl1 => ?_)
    replace hl : lv_has ls1 2 [(1, .int v_13), (0, .ref gh)] := hl1
    clear hl1
    refine lv_goto (tgt := 17) hx hb dX5_forget_40 (by decide) ?_
    exact ih_4 (v_13, f_9, f_11) (show (0 ≤ v_13.toInt ∧ v_13.toInt ≤ 6) ∧ (∀ j : Nat, kSITE (f_11 j)) from ⟨⟨by omega, by omega⟩, h_f_11⟩) (by show (6 - v_13.toInt).toNat < (6 - v_5.toInt).toNat; omega) _ _ _ (hP.sub [0, 1, 2] rfl) (hD.sub [0, 1, 2] (by decide) rfl) hS (lv_sub hl [0, 1] rfl)

def v_X5_setSpan : List Cond := .code yX5_setSpan cX5_setSpan 7 none :: ([.constantLong RX5 131 (-2147483648), .constantLong RX5 137 (2147483647), .fieldLink RX5 35 "ArraySegmentsModel" "low" "[J", .fieldLink RX5 39 "ArraySegmentsModel" "high" "[J"] ++ (wsX50))
theorem inv_X5_setSpan_X5 : ∀ w ∈ wsX50, w ∈ v_X5_setSpan := fun _ h => List.mem_cons_of_mem _ (List.mem_append_right _ (h))
set_option maxRecDepth 20000 in
theorem gd_X5_setSpan : gdL v_X5_setSpan := gdC (gdW (by decide +kernel)) (gdA (gdW (by decide +kernel)) gd_wsX50)
abbrev sw_X5_setSpan (cI cJ cZ : ClassId) (gh : Nat) (g_acts : Int32) (g_kind : Value) (g_na : Value) (g_nb : Value) (g_nc : Value) (g_nd : Value) (g_ne : Value) (g_dropped : Value) (g_live : Value) (ga_low : Nat) (ga_high : Nat) (g_sites : Value) (g_nulls : Value) (g_there : Value) (g_lanes : Value) (g_least : Value) (g_most : Value) (g_placeLow : Value) (g_placeHigh : Value) (g_reached : Value) (g_mayThrow : Value) (g_status : Int32) (g_hasRun : Int32) (g_threw : Int32) (g_whereThrown : Int32) (g_value : Value) (g_means : Value) (g_laneOf : Value) (g_sizeOf : Value) (g_cells : Value) (g_copied : Value) (g_state : Int64) (g_joinedLow : Int64) (g_joinedHigh : Int64) (g_keptLow : Value) (g_keptHigh : Value) (gc_low : Nat → Int64) (gc_high : Nat → Int64) (xa : Int32) (loa : Int64) (hia : Int64) : va_W := [(gh, .inr (5, [.int g_acts, g_kind, g_na, g_nb, g_nc, g_nd, g_ne, g_dropped, g_live, .ref ga_low, .ref ga_high, g_sites, g_nulls, g_there, g_lanes, g_least, g_most, g_placeLow, g_placeHigh, g_reached, g_mayThrow, .int g_status, .int g_hasRun, .int g_threw, .int g_whereThrown, g_value, g_means, g_laneOf, g_sizeOf, g_cells, g_copied, .long g_state, .long g_joinedLow, .long g_joinedHigh, g_keptLow, g_keptHigh])), (ga_low, .inl (cJ, 12, .inr (.inl gc_low))), (ga_high, .inl (cJ, 12, .inr (.inl gc_high)))]
set_option maxHeartbeats 8000000 in
set_option maxRecDepth 100000 in
theorem s_X5_setSpan (l : Launch) (dC : Nat → ClassId) (dI : Nat → Nat → Nat) (cI cJ cZ : ClassId) (gh : Nat) (g_acts : Int32) (g_kind : Value) (g_na : Value) (g_nb : Value) (g_nc : Value) (g_nd : Value) (g_ne : Value) (g_dropped : Value) (g_live : Value) (ga_low : Nat) (ga_high : Nat) (g_sites : Value) (g_nulls : Value) (g_there : Value) (g_lanes : Value) (g_least : Value) (g_most : Value) (g_placeLow : Value) (g_placeHigh : Value) (g_reached : Value) (g_mayThrow : Value) (g_status : Int32) (g_hasRun : Int32) (g_threw : Int32) (g_whereThrown : Int32) (g_value : Value) (g_means : Value) (g_laneOf : Value) (g_sizeOf : Value) (g_cells : Value) (g_copied : Value) (g_state : Int64) (g_joinedLow : Int64) (g_joinedHigh : Int64) (g_keptLow : Value) (g_keptHigh : Value) (gc_low : Nat → Int64) (gc_high : Nat → Int64) (xa : Int32) (loa : Int64) (hia : Int64) (sz : Nat) (q_g_hasRun : kZ g_hasRun) (hy_xa : V6 xa) : Met l yX5_setSpan v_X5_setSpan ({ frames := 0, cells := 0, slots := 0, locals := 0 }) (va_Pc [.ref gh, .int xa, .long loa, .long hia] (cPre dC dI cI cJ cZ sz (sw_X5_setSpan cI cJ cZ gh g_acts g_kind g_na g_nb g_nc g_nd g_ne g_dropped g_live ga_low ga_high g_sites g_nulls g_there g_lanes g_least g_most g_placeLow g_placeHigh g_reached g_mayThrow g_status g_hasRun g_threw g_whereThrown g_value g_means g_laneOf g_sizeOf g_cells g_copied g_state g_joinedLow g_joinedHigh g_keptLow g_keptHigh gc_low gc_high xa loa hia))) (va_Qv (fun (u : (Nat → Int64) × (Nat → Int64)) => True) (fun (u : (Nat → Int64) × (Nat → Int64)) => cPost dC dI cI cJ cZ (va_A (sw_X5_setSpan cI cJ cZ gh g_acts g_kind g_na g_nb g_nc g_nd g_ne g_dropped g_live ga_low ga_high g_sites g_nulls g_there g_lanes g_least g_most g_placeLow g_placeHigh g_reached g_mayThrow g_status g_hasRun g_threw g_whereThrown g_value g_means g_laneOf g_sizeOf g_cells g_copied g_state g_joinedLow g_joinedHigh g_keptLow g_keptHigh gc_low gc_high xa loa hia) sz) [(gh, .inr (5, [.int g_acts, g_kind, g_na, g_nb, g_nc, g_nd, g_ne, g_dropped, g_live, .ref ga_low, .ref ga_high, g_sites, g_nulls, g_there, g_lanes, g_least, g_most, g_placeLow, g_placeHigh, g_reached, g_mayThrow, .int g_status, .int g_hasRun, .int g_threw, .int g_whereThrown, g_value, g_means, g_laneOf, g_sizeOf, g_cells, g_copied, .long g_state, .long g_joinedLow, .long g_joinedHigh, g_keptLow, g_keptHigh])), (ga_low, .inl (cJ, 12, .inr (.inl (u.1)))), (ga_high, .inl (cJ, 12, .inr (.inl (u.2))))]) (va_A (sw_X5_setSpan cI cJ cZ gh g_acts g_kind g_na g_nb g_nc g_nd g_ne g_dropped g_live ga_low ga_high g_sites g_nulls g_there g_lanes g_least g_most g_placeLow g_placeHigh g_reached g_mayThrow g_status g_hasRun g_threw g_whereThrown g_value g_means g_laneOf g_sizeOf g_cells g_copied g_state g_joinedLow g_joinedHigh g_keptLow g_keptHigh gc_low gc_high xa loa hia) sz)) 0 0 (va_A (sw_X5_setSpan cI cJ cZ gh g_acts g_kind g_na g_nb g_nc g_nd g_ne g_dropped g_live ga_low ga_high g_sites g_nulls g_there g_lanes g_least g_most g_placeLow g_placeHigh g_reached g_mayThrow g_status g_hasRun g_threw g_whereThrown g_value g_means g_laneOf g_sizeOf g_cells g_copied g_state g_joinedLow g_joinedHigh g_keptLow g_keptHigh gc_low gc_high xa loa hia) sz) := by
  refine Met.ofW (cc := cX5_setSpan) (maxL := 7) (ret := none) (by decide) rfl ?_
  intro p e s m args below meth c s₁ B hml hv
  obtain ⟨rfl, hsz, hP, hK, hD0, hN⟩ := hv
  have hx := B.exec
  have hb := B.bytes
  have hr := B.returns
  have hts := atoms_spec (ws := v_X5_setSpan) B.pre
  have hown : s.vm.findClass RX5 = some m.cls := findClass_of_methodNamed B.named
  have hlocks := B.notSynchronized
  subst hsz
  have hD := hD0.self (sz := s.heap.size)
  generalize hAe : va_A (sw_X5_setSpan cI cJ cZ gh g_acts g_kind g_na g_nb g_nc g_nd g_ne g_dropped g_live ga_low ga_high g_sites g_nulls g_there g_lanes g_least g_most g_placeLow g_placeHigh g_reached g_mayThrow g_status g_hasRun g_threw g_whereThrown g_value g_means g_laneOf g_sizeOf g_cells g_copied g_state g_joinedLow g_joinedHigh g_keptLow g_keptHigh gc_low gc_high xa loa hia) s.heap.size = A at hD ⊢
  have hA : ∀ q : Nat, s.heap.size ≤ q → A q := fun q h => by rw [← hAe]; exact Or.inr h
  clear hAe hD0
  have hS : va_S A s.heap s.heap [] := va_S.rf
  replace hP : va_P (dC, dI) vwCl [(gh, .inr (5, [.int g_acts, g_kind, g_na, g_nb, g_nc, g_nd, g_ne, g_dropped, g_live, .ref ga_low, .ref ga_high, g_sites, g_nulls, g_there, g_lanes, g_least, g_most, g_placeLow, g_placeHigh, g_reached, g_mayThrow, .int g_status, .int g_hasRun, .int g_threw, .int g_whereThrown, g_value, g_means, g_laneOf, g_sizeOf, g_cells, g_copied, .long g_state, .long g_joinedLow, .long g_joinedHigh, g_keptLow, g_keptHigh])), (ga_low, .inl (cJ, 12, .inr (.inl gc_low))), (ga_high, .inl (cJ, 12, .inr (.inl gc_high)))] s.heap := hP
  replace hD : va_D A [(gh, .inr (5, [.int g_acts, g_kind, g_na, g_nb, g_nc, g_nd, g_ne, g_dropped, g_live, .ref ga_low, .ref ga_high, g_sites, g_nulls, g_there, g_lanes, g_least, g_most, g_placeLow, g_placeHigh, g_reached, g_mayThrow, .int g_status, .int g_hasRun, .int g_threw, .int g_whereThrown, g_value, g_means, g_laneOf, g_sizeOf, g_cells, g_copied, .long g_state, .long g_joinedLow, .long g_joinedHigh, g_keptLow, g_keptHigh])), (ga_low, .inl (cJ, 12, .inr (.inl gc_low))), (ga_high, .inl (cJ, 12, .inr (.inl gc_high)))] := hD
  have hl := lv_entry ([.ref gh, .int xa, .long loa, .long hia]) (n := 7) (Nat.le_of_ble_eq_true rfl)
  rw [lg_entry_eq]
  generalize (lg_sl ([.ref gh, .int xa, .long loa, .long hia]) ++ List.replicate (7 - (lg_sl ([.ref gh, .int xa, .long loa, .long hia])).length) Slot.unset).toArray = ls at hl ⊢
  replace hl : lv_has ls 7 [(0, .ref gh), (1, .int xa), (2, .long loa), (4, .long hia)] := hl
  have z_0 : (0 : Int32).toInt = 0 := by decide
  have z_1 : (1 : Int32).toInt = 1 := by decide
  have zl_m2147483648 : (-2147483648 : Int64).toInt = -2147483648 := by decide
  have zl_2147483647 : (2147483647 : Int64).toInt = 2147483647 := by decide
  refine lv_lload_n hx hb dX5_setSpan_0 rfl (lv_at hl 2 rfl) ?_
  refine lv_ldc2 hx hb hown (hts (.constantLong RX5 131 (-2147483648)) (List.mem_of_getElem? (i := 1) rfl)) dX5_setSpan_1 ?_
  refine W.lcmp hx hb dX5_setSpan_4 ?_
  refine my_join (S := Int32) (fun u => (kZ (u))) (fun u => [(gh, .inr (5, [.int g_acts, g_kind, g_na, g_nb, g_nc, g_nd, g_ne, g_dropped, g_live, .ref ga_low, .ref ga_high, g_sites, g_nulls, g_there, g_lanes, g_least, g_most, g_placeLow, g_placeHigh, g_reached, g_mayThrow, .int g_status, .int g_hasRun, .int g_threw, .int g_whereThrown, g_value, g_means, g_laneOf, g_sizeOf, g_cells, g_copied, .long g_state, .long g_joinedLow, .long g_joinedHigh, g_keptLow, g_keptHigh])), (ga_low, .inl (cJ, 12, .inr (.inl gc_low))), (ga_high, .inl (cJ, 12, .inr (.inl gc_high)))]) (fun u => [(0, .ref gh), (1, .int xa), (2, .long loa), (4, .long hia)]) (fun u => [.int (u)]) (nL := 7) (H0 := s.heap) (A := A) (D := (dC, dI)) (cl := vwCl) 22 (fun u_2 hu_2 H_2 locs_2 ls1 hP1 hD1 hS1 hl1 => ?_) (fun jn_2 => ?_)
  · -- behind 22
    obtain ⟨v_3, rfl⟩ : ∃ z, z = u_2 := ⟨_, rfl⟩
    replace hu_2 : (kZ v_3) := hu_2
    have q_v_3 := hu_2
    replace hP : va_P (dC, dI) vwCl [(gh, .inr (5, [.int g_acts, g_kind, g_na, g_nb, g_nc, g_nd, g_ne, g_dropped, g_live, .ref ga_low, .ref ga_high, g_sites, g_nulls, g_there, g_lanes, g_least, g_most, g_placeLow, g_placeHigh, g_reached, g_mayThrow, .int g_status, .int g_hasRun, .int g_threw, .int g_whereThrown, g_value, g_means, g_laneOf, g_sizeOf, g_cells, g_copied, .long g_state, .long g_joinedLow, .long g_joinedHigh, g_keptLow, g_keptHigh])), (ga_low, .inl (cJ, 12, .inr (.inl gc_low))), (ga_high, .inl (cJ, 12, .inr (.inl gc_high)))] H_2 := hP1
    replace hD : va_D A [(gh, .inr (5, [.int g_acts, g_kind, g_na, g_nb, g_nc, g_nd, g_ne, g_dropped, g_live, .ref ga_low, .ref ga_high, g_sites, g_nulls, g_there, g_lanes, g_least, g_most, g_placeLow, g_placeHigh, g_reached, g_mayThrow, .int g_status, .int g_hasRun, .int g_threw, .int g_whereThrown, g_value, g_means, g_laneOf, g_sizeOf, g_cells, g_copied, .long g_state, .long g_joinedLow, .long g_joinedHigh, g_keptLow, g_keptHigh])), (ga_low, .inl (cJ, 12, .inr (.inl gc_low))), (ga_high, .inl (cJ, 12, .inr (.inl gc_high)))] := hD1
    replace hS := hS1
    clear hP1 hD1 hS1
    replace hl : lv_has ls1 7 [(0, .ref gh), (1, .int xa), (2, .long loa), (4, .long hia)] := hl1
    clear hl1
    refine lv_istore (lv' := [(6, .int v_3), (0, .ref gh), (1, .int xa), (2, .long loa), (4, .long hia)]) hx hb dX5_setSpan_22 hl (by decide) rfl (fun ls1 hl1 => ?_)
    replace hl := hl1; clear hl1
    refine lv_aload_n hx hb dX5_setSpan_24 rfl (lv_at hl 1 rfl) ?_
    refine va_get (D := (dC, dI)) (ci := 5) (v := .ref ga_low) (C := RX5) (T := TX5) (N := 36) hx hb hts inv_X5_setSpan_X5 hown hK hP 0 rfl rfl 9 (by decide) (hts (.fieldLink RX5 35 "ArraySegmentsModel" "low" "[J") (List.mem_of_getElem? (i := 3) rfl)) (fun _ h9 => h9) rfl dX5_setSpan_25 ?_
    refine lv_iload_n hx hb dX5_setSpan_28 rfl (lv_at hl 2 rfl) ?_
    refine lv_iload hx hb dX5_setSpan_29 (lv_at hl 0 rfl) ?_
    refine my_join (S := Int64) (fun u => True) (fun u => [(gh, .inr (5, [.int g_acts, g_kind, g_na, g_nb, g_nc, g_nd, g_ne, g_dropped, g_live, .ref ga_low, .ref ga_high, g_sites, g_nulls, g_there, g_lanes, g_least, g_most, g_placeLow, g_placeHigh, g_reached, g_mayThrow, .int g_status, .int g_hasRun, .int g_threw, .int g_whereThrown, g_value, g_means, g_laneOf, g_sizeOf, g_cells, g_copied, .long g_state, .long g_joinedLow, .long g_joinedHigh, g_keptLow, g_keptHigh])), (ga_low, .inl (cJ, 12, .inr (.inl gc_low))), (ga_high, .inl (cJ, 12, .inr (.inl gc_high)))]) (fun u => [(6, .int v_3), (0, .ref gh), (1, .int xa), (2, .long loa), (4, .long hia)]) (fun u => [.long (u), .int xa, .ref ga_low]) (nL := 7) (H0 := s.heap) (A := A) (D := (dC, dI)) (cl := vwCl) 41 (fun u_5 hu_5 H_5 locs_5 ls1 hP1 hD1 hS1 hl1 => ?_) (fun jn_5 => ?_)
    · -- behind 41
      obtain ⟨v_6, rfl⟩ : ∃ z, z = u_5 := ⟨_, rfl⟩
      replace hP : va_P (dC, dI) vwCl [(gh, .inr (5, [.int g_acts, g_kind, g_na, g_nb, g_nc, g_nd, g_ne, g_dropped, g_live, .ref ga_low, .ref ga_high, g_sites, g_nulls, g_there, g_lanes, g_least, g_most, g_placeLow, g_placeHigh, g_reached, g_mayThrow, .int g_status, .int g_hasRun, .int g_threw, .int g_whereThrown, g_value, g_means, g_laneOf, g_sizeOf, g_cells, g_copied, .long g_state, .long g_joinedLow, .long g_joinedHigh, g_keptLow, g_keptHigh])), (ga_low, .inl (cJ, 12, .inr (.inl gc_low))), (ga_high, .inl (cJ, 12, .inr (.inl gc_high)))] H_5 := hP1
      replace hD : va_D A [(gh, .inr (5, [.int g_acts, g_kind, g_na, g_nb, g_nc, g_nd, g_ne, g_dropped, g_live, .ref ga_low, .ref ga_high, g_sites, g_nulls, g_there, g_lanes, g_least, g_most, g_placeLow, g_placeHigh, g_reached, g_mayThrow, .int g_status, .int g_hasRun, .int g_threw, .int g_whereThrown, g_value, g_means, g_laneOf, g_sizeOf, g_cells, g_copied, .long g_state, .long g_joinedLow, .long g_joinedHigh, g_keptLow, g_keptHigh])), (ga_low, .inl (cJ, 12, .inr (.inl gc_low))), (ga_high, .inl (cJ, 12, .inr (.inl gc_high)))] := hD1
      replace hS := hS1
      clear hP1 hD1 hS1
      replace hl : lv_has ls1 7 [(6, .int v_3), (0, .ref gh), (1, .int xa), (2, .long loa), (4, .long hia)] := hl1
      clear hl1
      refine sf_last lT hx hb hK hP hD hS 1 1 rfl rfl (fun _ => trivial) trivial (vp_in_iff.mpr ⟨by omega, by omega⟩) dX5_setSpan_41 (fun f_7 h_f_7 e_f_7 H_8 locs_8 hP1 hD1 hS1 => ?_)
      replace hP : va_P (dC, dI) vwCl [(gh, .inr (5, [.int g_acts, g_kind, g_na, g_nb, g_nc, g_nd, g_ne, g_dropped, g_live, .ref ga_low, .ref ga_high, g_sites, g_nulls, g_there, g_lanes, g_least, g_most, g_placeLow, g_placeHigh, g_reached, g_mayThrow, .int g_status, .int g_hasRun, .int g_threw, .int g_whereThrown, g_value, g_means, g_laneOf, g_sizeOf, g_cells, g_copied, .long g_state, .long g_joinedLow, .long g_joinedHigh, g_keptLow, g_keptHigh])), (ga_low, .inl (cJ, 12, .inr (.inl f_7))), (ga_high, .inl (cJ, 12, .inr (.inl gc_high)))] H_8 := hP1
      replace hD : va_D A [(gh, .inr (5, [.int g_acts, g_kind, g_na, g_nb, g_nc, g_nd, g_ne, g_dropped, g_live, .ref ga_low, .ref ga_high, g_sites, g_nulls, g_there, g_lanes, g_least, g_most, g_placeLow, g_placeHigh, g_reached, g_mayThrow, .int g_status, .int g_hasRun, .int g_threw, .int g_whereThrown, g_value, g_means, g_laneOf, g_sizeOf, g_cells, g_copied, .long g_state, .long g_joinedLow, .long g_joinedHigh, g_keptLow, g_keptHigh])), (ga_low, .inl (cJ, 12, .inr (.inl f_7))), (ga_high, .inl (cJ, 12, .inr (.inl gc_high)))] := hD1
      replace hS := hS1
      clear hP1 hD1 hS1
      refine lv_aload_n hx hb dX5_setSpan_42 rfl (lv_at hl 1 rfl) ?_
      refine va_get (D := (dC, dI)) (ci := 5) (v := .ref ga_high) (C := RX5) (T := TX5) (N := 36) hx hb hts inv_X5_setSpan_X5 hown hK hP 0 rfl rfl 10 (by decide) (hts (.fieldLink RX5 39 "ArraySegmentsModel" "high" "[J") (List.mem_of_getElem? (i := 4) rfl)) (fun _ h9 => h9) rfl dX5_setSpan_43 ?_
      refine lv_iload_n hx hb dX5_setSpan_46 rfl (lv_at hl 2 rfl) ?_
      refine lv_iload hx hb dX5_setSpan_47 (lv_at hl 0 rfl) ?_
      refine my_join (S := Int64) (fun u => True) (fun u => [(gh, .inr (5, [.int g_acts, g_kind, g_na, g_nb, g_nc, g_nd, g_ne, g_dropped, g_live, .ref ga_low, .ref ga_high, g_sites, g_nulls, g_there, g_lanes, g_least, g_most, g_placeLow, g_placeHigh, g_reached, g_mayThrow, .int g_status, .int g_hasRun, .int g_threw, .int g_whereThrown, g_value, g_means, g_laneOf, g_sizeOf, g_cells, g_copied, .long g_state, .long g_joinedLow, .long g_joinedHigh, g_keptLow, g_keptHigh])), (ga_low, .inl (cJ, 12, .inr (.inl f_7))), (ga_high, .inl (cJ, 12, .inr (.inl gc_high)))]) (fun u => [(6, .int v_3), (0, .ref gh), (1, .int xa), (2, .long loa), (4, .long hia)]) (fun u => [.long (u), .int xa, .ref ga_high]) (nL := 7) (H0 := s.heap) (A := A) (D := (dC, dI)) (cl := vwCl) 60 (fun u_10 hu_10 H_10 locs_10 ls1 hP1 hD1 hS1 hl1 => ?_) (fun jn_10 => ?_)
      · -- behind 60
        obtain ⟨v_11, rfl⟩ : ∃ z, z = u_10 := ⟨_, rfl⟩
        replace hP : va_P (dC, dI) vwCl [(gh, .inr (5, [.int g_acts, g_kind, g_na, g_nb, g_nc, g_nd, g_ne, g_dropped, g_live, .ref ga_low, .ref ga_high, g_sites, g_nulls, g_there, g_lanes, g_least, g_most, g_placeLow, g_placeHigh, g_reached, g_mayThrow, .int g_status, .int g_hasRun, .int g_threw, .int g_whereThrown, g_value, g_means, g_laneOf, g_sizeOf, g_cells, g_copied, .long g_state, .long g_joinedLow, .long g_joinedHigh, g_keptLow, g_keptHigh])), (ga_low, .inl (cJ, 12, .inr (.inl f_7))), (ga_high, .inl (cJ, 12, .inr (.inl gc_high)))] H_10 := hP1
        replace hD : va_D A [(gh, .inr (5, [.int g_acts, g_kind, g_na, g_nb, g_nc, g_nd, g_ne, g_dropped, g_live, .ref ga_low, .ref ga_high, g_sites, g_nulls, g_there, g_lanes, g_least, g_most, g_placeLow, g_placeHigh, g_reached, g_mayThrow, .int g_status, .int g_hasRun, .int g_threw, .int g_whereThrown, g_value, g_means, g_laneOf, g_sizeOf, g_cells, g_copied, .long g_state, .long g_joinedLow, .long g_joinedHigh, g_keptLow, g_keptHigh])), (ga_low, .inl (cJ, 12, .inr (.inl f_7))), (ga_high, .inl (cJ, 12, .inr (.inl gc_high)))] := hD1
        replace hS := hS1
        clear hP1 hD1 hS1
        replace hl : lv_has ls1 7 [(6, .int v_3), (0, .ref gh), (1, .int xa), (2, .long loa), (4, .long hia)] := hl1
        clear hl1
        refine sf_last lT hx hb hK hP hD hS 2 1 rfl rfl (fun _ => trivial) trivial (vp_in_iff.mpr ⟨by omega, by omega⟩) dX5_setSpan_60 (fun f_12 h_f_12 e_f_12 H_13 locs_13 hP1 hD1 hS1 => ?_)
        replace hP : va_P (dC, dI) vwCl [(gh, .inr (5, [.int g_acts, g_kind, g_na, g_nb, g_nc, g_nd, g_ne, g_dropped, g_live, .ref ga_low, .ref ga_high, g_sites, g_nulls, g_there, g_lanes, g_least, g_most, g_placeLow, g_placeHigh, g_reached, g_mayThrow, .int g_status, .int g_hasRun, .int g_threw, .int g_whereThrown, g_value, g_means, g_laneOf, g_sizeOf, g_cells, g_copied, .long g_state, .long g_joinedLow, .long g_joinedHigh, g_keptLow, g_keptHigh])), (ga_low, .inl (cJ, 12, .inr (.inl f_7))), (ga_high, .inl (cJ, 12, .inr (.inl f_12)))] H_13 := hP1
        replace hD : va_D A [(gh, .inr (5, [.int g_acts, g_kind, g_na, g_nb, g_nc, g_nd, g_ne, g_dropped, g_live, .ref ga_low, .ref ga_high, g_sites, g_nulls, g_there, g_lanes, g_least, g_most, g_placeLow, g_placeHigh, g_reached, g_mayThrow, .int g_status, .int g_hasRun, .int g_threw, .int g_whereThrown, g_value, g_means, g_laneOf, g_sizeOf, g_cells, g_copied, .long g_state, .long g_joinedLow, .long g_joinedHigh, g_keptLow, g_keptHigh])), (ga_low, .inl (cJ, 12, .inr (.inl f_7))), (ga_high, .inl (cJ, 12, .inr (.inl f_12)))] := hD1
        replace hS := hS1
        clear hP1 hD1 hS1
        have hP9 := hP.sub (ws' := [(gh, .inr (5, [.int g_acts, g_kind, g_na, g_nb, g_nc, g_nd, g_ne, g_dropped, g_live, .ref ga_low, .ref ga_high, g_sites, g_nulls, g_there, g_lanes, g_least, g_most, g_placeLow, g_placeHigh, g_reached, g_mayThrow, .int g_status, .int g_hasRun, .int g_threw, .int g_whereThrown, g_value, g_means, g_laneOf, g_sizeOf, g_cells, g_copied, .long g_state, .long g_joinedLow, .long g_joinedHigh, g_keptLow, g_keptHigh])), (ga_low, .inl (cJ, 12, .inr (.inl f_7))), (ga_high, .inl (cJ, 12, .inr (.inl f_12)))]) [0, 1, 2] rfl
        have hD9 := hD.sub (ws' := [(gh, .inr (5, [.int g_acts, g_kind, g_na, g_nb, g_nc, g_nd, g_ne, g_dropped, g_live, .ref ga_low, .ref ga_high, g_sites, g_nulls, g_there, g_lanes, g_least, g_most, g_placeLow, g_placeHigh, g_reached, g_mayThrow, .int g_status, .int g_hasRun, .int g_threw, .int g_whereThrown, g_value, g_means, g_laneOf, g_sizeOf, g_cells, g_copied, .long g_state, .long g_joinedLow, .long g_joinedHigh, g_keptLow, g_keptHigh])), (ga_low, .inl (cJ, 12, .inr (.inl f_7))), (ga_high, .inl (cJ, 12, .inr (.inl f_12)))]) [0, 1, 2] (by decide) rfl
        exact W.vret hx hb hr (fun t ht hW => ⟨⟨(f_7, f_12), rfl, trivial, by rw [ht]; exact hP9, va_K.moved hW.alike hK, hD9⟩, hS.F ht⟩) hS.2.2 dX5_setSpan_61
      · -- ahead of 60
        refine lv_if_eq (tgt := 58) hx hb dX5_setSpan_49 (by decide) (fun c_14 => ?_) (fun c_14 => ?_)
        · -- yes
          have k_14 : v_3.toInt = (0 : Int32).toInt := ci_eq c_14
          refine lv_lload hx hb dX5_setSpan_58 (lv_at hl 4 rfl) ?_
          exact jn_10 hia (show True from trivial) _ _ _ (hP.sub [0, 1, 2] rfl) (hD.sub [0, 1, 2] (by decide) rfl) hS (lv_sub hl [0, 1, 2, 3, 4] rfl)
        · -- no
          have k_14 : ¬ v_3.toInt = (0 : Int32).toInt := ci_ne c_14
          refine lv_ldc2 hx hb hown (hts (.constantLong RX5 137 (2147483647)) (List.mem_of_getElem? (i := 2) rfl)) dX5_setSpan_52 ?_
          refine lv_goto (tgt := 60) hx hb dX5_setSpan_55 (by decide) ?_
          exact jn_10 (2147483647 : Int64) (show True from trivial) _ _ _ (hP.sub [0, 1, 2] rfl) (hD.sub [0, 1, 2] (by decide) rfl) hS (lv_sub hl [0, 1, 2, 3, 4] rfl)
    · -- ahead of 41
      refine lv_if_eq (tgt := 40) hx hb dX5_setSpan_31 (by decide) (fun c_15 => ?_) (fun c_15 => ?_)
      · -- yes
        have k_15 : v_3.toInt = (0 : Int32).toInt := ci_eq c_15
        refine lv_lload_n hx hb dX5_setSpan_40 rfl (lv_at hl 3 rfl) ?_
        exact jn_5 loa (show True from trivial) _ _ _ (hP.sub [0, 1, 2] rfl) (hD.sub [0, 1, 2] (by decide) rfl) hS (lv_sub hl [0, 1, 2, 3, 4] rfl)
      · -- no
        have k_15 : ¬ v_3.toInt = (0 : Int32).toInt := ci_ne c_15
        refine lv_ldc2 hx hb hown (hts (.constantLong RX5 131 (-2147483648)) (List.mem_of_getElem? (i := 1) rfl)) dX5_setSpan_34 ?_
        refine lv_goto (tgt := 41) hx hb dX5_setSpan_37 (by decide) ?_
        exact jn_5 ((-2147483648) : Int64) (show True from trivial) _ _ _ (hP.sub [0, 1, 2] rfl) (hD.sub [0, 1, 2] (by decide) rfl) hS (lv_sub hl [0, 1, 2, 3, 4] rfl)
  · -- ahead of 22
    refine lv_if_lt (tgt := 17) hx hb dX5_setSpan_5 (by decide) (fun c_16 => ?_) (fun c_16 => ?_)
    · -- yes
      have k_16 : loa.toInt < (-2147483648 : Int64).toInt := lc_lt c_16
      refine lv_iconst (v := 1) hx hb dX5_setSpan_17 (by decide) ?_
      refine lv_goto (tgt := 22) hx hb dX5_setSpan_18 (by decide) ?_
      exact jn_2 (1 : Int32) (show (kZ (1 : Int32)) from (by decide)) _ _ _ (hP.sub [0, 1, 2] rfl) (hD.sub [0, 1, 2] (by decide) rfl) hS (lv_sub hl [0, 1, 2, 3] rfl)
    · -- no
      have k_16 : (-2147483648 : Int64).toInt ≤ loa.toInt := lc_nlt c_16
      refine lv_lload hx hb dX5_setSpan_8 (lv_at hl 3 rfl) ?_
      refine lv_ldc2 hx hb hown (hts (.constantLong RX5 137 (2147483647)) (List.mem_of_getElem? (i := 2) rfl)) dX5_setSpan_10 ?_
      refine W.lcmp hx hb dX5_setSpan_13 ?_
      refine lv_if_le (tgt := 21) hx hb dX5_setSpan_14 (by decide) (fun c_17 => ?_) (fun c_17 => ?_)
      · -- yes
        have k_17 : hia.toInt ≤ (2147483647 : Int64).toInt := lc_le c_17
        refine lv_iconst (v := 0) hx hb dX5_setSpan_21 (by decide) ?_
        exact jn_2 (0 : Int32) (show (kZ (0 : Int32)) from (by decide)) _ _ _ (hP.sub [0, 1, 2] rfl) (hD.sub [0, 1, 2] (by decide) rfl) hS (lv_sub hl [0, 1, 2, 3] rfl)
      · -- no
        have k_17 : (2147483647 : Int64).toInt < hia.toInt := lc_nle c_17
        refine lv_iconst (v := 1) hx hb dX5_setSpan_17 (by decide) ?_
        refine lv_goto (tgt := 22) hx hb dX5_setSpan_18 (by decide) ?_
        exact jn_2 (1 : Int32) (show (kZ (1 : Int32)) from (by decide)) _ _ _ (hP.sub [0, 1, 2] rfl) (hD.sub [0, 1, 2] (by decide) rfl) hS (lv_sub hl [0, 1, 2, 3] rfl)

def v_X5_has : List Cond := .code yX5_has cX5_has 3 (some .boolean) :: ([.fieldLink RX5 42 "ArraySegmentsModel" "sites" "[J"] ++ (wsX50))
theorem inv_X5_has_X5 : ∀ w ∈ wsX50, w ∈ v_X5_has := fun _ h => List.mem_cons_of_mem _ (List.mem_append_right _ (h))
set_option maxRecDepth 20000 in
theorem gd_X5_has : gdL v_X5_has := gdC (gdW (by decide +kernel)) (gdA (gdW (by decide +kernel)) gd_wsX50)
abbrev sw_X5_has (cI cJ cZ : ClassId) (gh : Nat) (g_acts : Int32) (g_kind : Value) (g_na : Value) (g_nb : Value) (g_nc : Value) (g_nd : Value) (g_ne : Value) (g_dropped : Value) (g_live : Value) (g_low : Value) (g_high : Value) (ga_sites : Nat) (g_nulls : Value) (g_there : Value) (g_lanes : Value) (g_least : Value) (g_most : Value) (g_placeLow : Value) (g_placeHigh : Value) (g_reached : Value) (g_mayThrow : Value) (g_status : Int32) (g_hasRun : Int32) (g_threw : Int32) (g_whereThrown : Int32) (g_value : Value) (g_means : Value) (g_laneOf : Value) (g_sizeOf : Value) (g_cells : Value) (g_copied : Value) (g_state : Int64) (g_joinedLow : Int64) (g_joinedHigh : Int64) (g_keptLow : Value) (g_keptHigh : Value) (gc_sites : Nat → Int64) (ra : Int32) (ia : Int32) : va_W := [(gh, .inr (5, [.int g_acts, g_kind, g_na, g_nb, g_nc, g_nd, g_ne, g_dropped, g_live, g_low, g_high, .ref ga_sites, g_nulls, g_there, g_lanes, g_least, g_most, g_placeLow, g_placeHigh, g_reached, g_mayThrow, .int g_status, .int g_hasRun, .int g_threw, .int g_whereThrown, g_value, g_means, g_laneOf, g_sizeOf, g_cells, g_copied, .long g_state, .long g_joinedLow, .long g_joinedHigh, g_keptLow, g_keptHigh])), (ga_sites, .inl (cJ, 12, .inr (.inl gc_sites)))]
set_option maxHeartbeats 8000000 in
set_option maxRecDepth 100000 in
theorem s_X5_has (l : Launch) (dC : Nat → ClassId) (dI : Nat → Nat → Nat) (cI cJ cZ : ClassId) (gh : Nat) (g_acts : Int32) (g_kind : Value) (g_na : Value) (g_nb : Value) (g_nc : Value) (g_nd : Value) (g_ne : Value) (g_dropped : Value) (g_live : Value) (g_low : Value) (g_high : Value) (ga_sites : Nat) (g_nulls : Value) (g_there : Value) (g_lanes : Value) (g_least : Value) (g_most : Value) (g_placeLow : Value) (g_placeHigh : Value) (g_reached : Value) (g_mayThrow : Value) (g_status : Int32) (g_hasRun : Int32) (g_threw : Int32) (g_whereThrown : Int32) (g_value : Value) (g_means : Value) (g_laneOf : Value) (g_sizeOf : Value) (g_cells : Value) (g_copied : Value) (g_state : Int64) (g_joinedLow : Int64) (g_joinedHigh : Int64) (g_keptLow : Value) (g_keptHigh : Value) (gc_sites : Nat → Int64) (ra : Int32) (ia : Int32) (sz : Nat) (q_g_hasRun : kZ g_hasRun) (hy_ra : V6 ra) : Met l yX5_has v_X5_has ({ frames := 0, cells := 0, slots := 0, locals := 0 }) (va_Pc [.ref gh, .int ra, .int ia] (cPre dC dI cI cJ cZ sz (sw_X5_has cI cJ cZ gh g_acts g_kind g_na g_nb g_nc g_nd g_ne g_dropped g_live g_low g_high ga_sites g_nulls g_there g_lanes g_least g_most g_placeLow g_placeHigh g_reached g_mayThrow g_status g_hasRun g_threw g_whereThrown g_value g_means g_laneOf g_sizeOf g_cells g_copied g_state g_joinedLow g_joinedHigh g_keptLow g_keptHigh gc_sites ra ia))) (va_Qi (fun (r : Int32) (u : Unit) => (kZ r)) (fun (u : Unit) => cPost dC dI cI cJ cZ (va_A (sw_X5_has cI cJ cZ gh g_acts g_kind g_na g_nb g_nc g_nd g_ne g_dropped g_live g_low g_high ga_sites g_nulls g_there g_lanes g_least g_most g_placeLow g_placeHigh g_reached g_mayThrow g_status g_hasRun g_threw g_whereThrown g_value g_means g_laneOf g_sizeOf g_cells g_copied g_state g_joinedLow g_joinedHigh g_keptLow g_keptHigh gc_sites ra ia) sz) [(gh, .inr (5, [.int g_acts, g_kind, g_na, g_nb, g_nc, g_nd, g_ne, g_dropped, g_live, g_low, g_high, .ref ga_sites, g_nulls, g_there, g_lanes, g_least, g_most, g_placeLow, g_placeHigh, g_reached, g_mayThrow, .int g_status, .int g_hasRun, .int g_threw, .int g_whereThrown, g_value, g_means, g_laneOf, g_sizeOf, g_cells, g_copied, .long g_state, .long g_joinedLow, .long g_joinedHigh, g_keptLow, g_keptHigh])), (ga_sites, .inl (cJ, 12, .inr (.inl gc_sites)))]) (va_A (sw_X5_has cI cJ cZ gh g_acts g_kind g_na g_nb g_nc g_nd g_ne g_dropped g_live g_low g_high ga_sites g_nulls g_there g_lanes g_least g_most g_placeLow g_placeHigh g_reached g_mayThrow g_status g_hasRun g_threw g_whereThrown g_value g_means g_laneOf g_sizeOf g_cells g_copied g_state g_joinedLow g_joinedHigh g_keptLow g_keptHigh gc_sites ra ia) sz)) 0 0 (va_A (sw_X5_has cI cJ cZ gh g_acts g_kind g_na g_nb g_nc g_nd g_ne g_dropped g_live g_low g_high ga_sites g_nulls g_there g_lanes g_least g_most g_placeLow g_placeHigh g_reached g_mayThrow g_status g_hasRun g_threw g_whereThrown g_value g_means g_laneOf g_sizeOf g_cells g_copied g_state g_joinedLow g_joinedHigh g_keptLow g_keptHigh gc_sites ra ia) sz) := by
  refine Met.ofW (cc := cX5_has) (maxL := 3) (ret := (some .boolean)) (by decide) rfl ?_
  intro p e s m args below meth c s₁ B hml hv
  obtain ⟨rfl, hsz, hP, hK, hD0, hN⟩ := hv
  have hx := B.exec
  have hb := B.bytes
  have hr := B.returns
  have hts := atoms_spec (ws := v_X5_has) B.pre
  have hown : s.vm.findClass RX5 = some m.cls := findClass_of_methodNamed B.named
  have hlocks := B.notSynchronized
  subst hsz
  have hD := hD0.self (sz := s.heap.size)
  generalize hAe : va_A (sw_X5_has cI cJ cZ gh g_acts g_kind g_na g_nb g_nc g_nd g_ne g_dropped g_live g_low g_high ga_sites g_nulls g_there g_lanes g_least g_most g_placeLow g_placeHigh g_reached g_mayThrow g_status g_hasRun g_threw g_whereThrown g_value g_means g_laneOf g_sizeOf g_cells g_copied g_state g_joinedLow g_joinedHigh g_keptLow g_keptHigh gc_sites ra ia) s.heap.size = A at hD ⊢
  have hA : ∀ q : Nat, s.heap.size ≤ q → A q := fun q h => by rw [← hAe]; exact Or.inr h
  clear hAe hD0
  have hS : va_S A s.heap s.heap [] := va_S.rf
  replace hP : va_P (dC, dI) vwCl [(gh, .inr (5, [.int g_acts, g_kind, g_na, g_nb, g_nc, g_nd, g_ne, g_dropped, g_live, g_low, g_high, .ref ga_sites, g_nulls, g_there, g_lanes, g_least, g_most, g_placeLow, g_placeHigh, g_reached, g_mayThrow, .int g_status, .int g_hasRun, .int g_threw, .int g_whereThrown, g_value, g_means, g_laneOf, g_sizeOf, g_cells, g_copied, .long g_state, .long g_joinedLow, .long g_joinedHigh, g_keptLow, g_keptHigh])), (ga_sites, .inl (cJ, 12, .inr (.inl gc_sites)))] s.heap := hP
  replace hD : va_D A [(gh, .inr (5, [.int g_acts, g_kind, g_na, g_nb, g_nc, g_nd, g_ne, g_dropped, g_live, g_low, g_high, .ref ga_sites, g_nulls, g_there, g_lanes, g_least, g_most, g_placeLow, g_placeHigh, g_reached, g_mayThrow, .int g_status, .int g_hasRun, .int g_threw, .int g_whereThrown, g_value, g_means, g_laneOf, g_sizeOf, g_cells, g_copied, .long g_state, .long g_joinedLow, .long g_joinedHigh, g_keptLow, g_keptHigh])), (ga_sites, .inl (cJ, 12, .inr (.inl gc_sites)))] := hD
  have hl := lv_entry ([.ref gh, .int ra, .int ia]) (n := 3) (Nat.le_of_ble_eq_true rfl)
  rw [lg_entry_eq]
  generalize (lg_sl ([.ref gh, .int ra, .int ia]) ++ List.replicate (3 - (lg_sl ([.ref gh, .int ra, .int ia])).length) Slot.unset).toArray = ls at hl ⊢
  replace hl : lv_has ls 3 [(0, .ref gh), (1, .int ra), (2, .int ia)] := hl
  have z_0 : (0 : Int32).toInt = 0 := by decide
  have z_1 : (1 : Int32).toInt = 1 := by decide
  have zl_1 : (1 : Int64).toInt = 1 := by decide
  refine lv_aload_n hx hb dX5_has_0 rfl (lv_at hl 0 rfl) ?_
  refine va_get (D := (dC, dI)) (ci := 5) (v := .ref ga_sites) (C := RX5) (T := TX5) (N := 36) hx hb hts inv_X5_has_X5 hown hK hP 0 rfl rfl 11 (by decide) (hts (.fieldLink RX5 42 "ArraySegmentsModel" "sites" "[J") (List.mem_of_getElem? (i := 1) rfl)) (fun _ h9 => h9) rfl dX5_has_1 ?_
  refine lv_iload_n hx hb dX5_has_4 rfl (lv_at hl 1 rfl) ?_
  refine sf_lald lT hx hb hK hP 1 1 rfl rfl (fun _ => trivial) (vp_in_iff.mpr ⟨by omega, by omega⟩) dX5_has_5 (fun v_1 q_v_1 e_v_1 => ?_)
  refine lv_iload_n hx hb dX5_has_6 rfl (lv_at hl 2 rfl) ?_
  refine lv_lshr (v := _) hx hb dX5_has_7 rfl ?_
  refine lv_topl (fun v_2 _ => ?_)
  refine lv_lconst (v := 1) hx hb dX5_has_8 (by decide) ?_
  refine lv_land hx hb dX5_has_9 ?_
  refine lv_topl (fun v_3 e_v_3 => ?_)
  refine lv_lconst (v := 1) hx hb dX5_has_10 (by decide) ?_
  refine W.lcmp hx hb dX5_has_11 ?_
  refine my_join (S := Int32) (fun u => (kZ (u))) (fun u => [(gh, .inr (5, [.int g_acts, g_kind, g_na, g_nb, g_nc, g_nd, g_ne, g_dropped, g_live, g_low, g_high, .ref ga_sites, g_nulls, g_there, g_lanes, g_least, g_most, g_placeLow, g_placeHigh, g_reached, g_mayThrow, .int g_status, .int g_hasRun, .int g_threw, .int g_whereThrown, g_value, g_means, g_laneOf, g_sizeOf, g_cells, g_copied, .long g_state, .long g_joinedLow, .long g_joinedHigh, g_keptLow, g_keptHigh])), (ga_sites, .inl (cJ, 12, .inr (.inl gc_sites)))]) (fun u => [(0, .ref gh), (1, .int ra), (2, .int ia)]) (fun u => [.int (u)]) (nL := 3) (H0 := s.heap) (A := A) (D := (dC, dI)) (cl := vwCl) 20 (fun u_5 hu_5 H_5 locs_5 ls1 hP1 hD1 hS1 hl1 => ?_) (fun jn_5 => ?_)
  · -- behind 20
    obtain ⟨v_6, rfl⟩ : ∃ z, z = u_5 := ⟨_, rfl⟩
    replace hu_5 : (kZ v_6) := hu_5
    have q_v_6 := hu_5
    replace hP : va_P (dC, dI) vwCl [(gh, .inr (5, [.int g_acts, g_kind, g_na, g_nb, g_nc, g_nd, g_ne, g_dropped, g_live, g_low, g_high, .ref ga_sites, g_nulls, g_there, g_lanes, g_least, g_most, g_placeLow, g_placeHigh, g_reached, g_mayThrow, .int g_status, .int g_hasRun, .int g_threw, .int g_whereThrown, g_value, g_means, g_laneOf, g_sizeOf, g_cells, g_copied, .long g_state, .long g_joinedLow, .long g_joinedHigh, g_keptLow, g_keptHigh])), (ga_sites, .inl (cJ, 12, .inr (.inl gc_sites)))] H_5 := hP1
    replace hD : va_D A [(gh, .inr (5, [.int g_acts, g_kind, g_na, g_nb, g_nc, g_nd, g_ne, g_dropped, g_live, g_low, g_high, .ref ga_sites, g_nulls, g_there, g_lanes, g_least, g_most, g_placeLow, g_placeHigh, g_reached, g_mayThrow, .int g_status, .int g_hasRun, .int g_threw, .int g_whereThrown, g_value, g_means, g_laneOf, g_sizeOf, g_cells, g_copied, .long g_state, .long g_joinedLow, .long g_joinedHigh, g_keptLow, g_keptHigh])), (ga_sites, .inl (cJ, 12, .inr (.inl gc_sites)))] := hD1
    replace hS := hS1
    clear hP1 hD1 hS1
    replace hl : lv_has ls1 3 [(0, .ref gh), (1, .int ra), (2, .int ia)] := hl1
    clear hl1
    have hP9 := hP.sub (ws' := [(gh, .inr (5, [.int g_acts, g_kind, g_na, g_nb, g_nc, g_nd, g_ne, g_dropped, g_live, g_low, g_high, .ref ga_sites, g_nulls, g_there, g_lanes, g_least, g_most, g_placeLow, g_placeHigh, g_reached, g_mayThrow, .int g_status, .int g_hasRun, .int g_threw, .int g_whereThrown, g_value, g_means, g_laneOf, g_sizeOf, g_cells, g_copied, .long g_state, .long g_joinedLow, .long g_joinedHigh, g_keptLow, g_keptHigh])), (ga_sites, .inl (cJ, 12, .inr (.inl gc_sites)))]) [0, 1] rfl
    have hD9 := hD.sub (ws' := [(gh, .inr (5, [.int g_acts, g_kind, g_na, g_nb, g_nc, g_nd, g_ne, g_dropped, g_live, g_low, g_high, .ref ga_sites, g_nulls, g_there, g_lanes, g_least, g_most, g_placeLow, g_placeHigh, g_reached, g_mayThrow, .int g_status, .int g_hasRun, .int g_threw, .int g_whereThrown, g_value, g_means, g_laneOf, g_sizeOf, g_cells, g_copied, .long g_state, .long g_joinedLow, .long g_joinedHigh, g_keptLow, g_keptHigh])), (ga_sites, .inl (cJ, 12, .inr (.inl gc_sites)))]) [0, 1] (by decide) rfl
    exact W.zret (v := v_6) (ty := .boolean) hx hb hr (nar01 q_v_6) (fun t ht hW => ⟨⟨v_6, (), rfl, (show kZ v_6 from q_v_6), by rw [ht]; exact hP9, va_K.moved hW.alike hK, hD9⟩, hS.F ht⟩) hS.2.2 dX5_has_20
  · -- ahead of 20
    refine lv_if_ne (tgt := 19) hx hb dX5_has_12 (by decide) (fun c_7 => ?_) (fun c_7 => ?_)
    · -- yes
      have k_7 : ¬ v_3.toInt = (1 : Int64).toInt := lc_ne c_7
      refine lv_iconst (v := 0) hx hb dX5_has_19 (by decide) ?_
      exact jn_5 (0 : Int32) (show (kZ (0 : Int32)) from (by decide)) _ _ _ (hP.sub [0, 1] rfl) (hD.sub [0, 1] (by decide) rfl) hS (lv_sub hl [0, 1, 2] rfl)
    · -- no
      have k_7 : v_3.toInt = (1 : Int64).toInt := lc_eq c_7
      refine lv_iconst (v := 1) hx hb dX5_has_15 (by decide) ?_
      refine lv_goto (tgt := 20) hx hb dX5_has_16 (by decide) ?_
      exact jn_5 (1 : Int32) (show (kZ (1 : Int32)) from (by decide)) _ _ _ (hP.sub [0, 1] rfl) (hD.sub [0, 1] (by decide) rfl) hS (lv_sub hl [0, 1, 2] rfl)

def v_X5_copySite : List Cond := .code yX5_copySite cX5_copySite 4 none :: ([.fieldLink RX5 48 "ArraySegmentsModel" "there" "[Z", .fieldLink RX5 51 "ArraySegmentsModel" "lanes" "[I", .fieldLink RX5 54 "ArraySegmentsModel" "least" "[J", .fieldLink RX5 57 "ArraySegmentsModel" "most" "[J", .fieldLink RX5 60 "ArraySegmentsModel" "placeLow" "[J", .fieldLink RX5 63 "ArraySegmentsModel" "placeHigh" "[J"] ++ (wsX50))
theorem inv_X5_copySite_X5 : ∀ w ∈ wsX50, w ∈ v_X5_copySite := fun _ h => List.mem_cons_of_mem _ (List.mem_append_right _ (h))
set_option maxRecDepth 20000 in
theorem gd_X5_copySite : gdL v_X5_copySite := gdC (gdW (by decide +kernel)) (gdA (gdW (by decide +kernel)) gd_wsX50)
abbrev sw_X5_copySite (cI cJ cZ : ClassId) (gh : Nat) (g_acts : Int32) (g_kind : Value) (g_na : Value) (g_nb : Value) (g_nc : Value) (g_nd : Value) (g_ne : Value) (g_dropped : Value) (g_live : Value) (g_low : Value) (g_high : Value) (g_sites : Value) (g_nulls : Value) (ga_there : Nat) (ga_lanes : Nat) (ga_least : Nat) (ga_most : Nat) (ga_placeLow : Nat) (ga_placeHigh : Nat) (g_reached : Value) (g_mayThrow : Value) (g_status : Int32) (g_hasRun : Int32) (g_threw : Int32) (g_whereThrown : Int32) (g_value : Value) (g_means : Value) (g_laneOf : Value) (g_sizeOf : Value) (g_cells : Value) (g_copied : Value) (g_state : Int64) (g_joinedLow : Int64) (g_joinedHigh : Int64) (g_keptLow : Value) (g_keptHigh : Value) (gc_there : Nat → Int32) (gc_lanes : Nat → Int32) (gc_least : Nat → Int64) (gc_most : Nat → Int64) (gc_placeLow : Nat → Int64) (gc_placeHigh : Nat → Int64) (aa : Int32) (ba : Int32) : va_W := [(gh, .inr (5, [.int g_acts, g_kind, g_na, g_nb, g_nc, g_nd, g_ne, g_dropped, g_live, g_low, g_high, g_sites, g_nulls, .ref ga_there, .ref ga_lanes, .ref ga_least, .ref ga_most, .ref ga_placeLow, .ref ga_placeHigh, g_reached, g_mayThrow, .int g_status, .int g_hasRun, .int g_threw, .int g_whereThrown, g_value, g_means, g_laneOf, g_sizeOf, g_cells, g_copied, .long g_state, .long g_joinedLow, .long g_joinedHigh, g_keptLow, g_keptHigh])), (ga_there, .inl (cZ, 80, .inl gc_there)), (ga_lanes, .inl (cI, 80, .inl gc_lanes)), (ga_least, .inl (cJ, 80, .inr (.inl gc_least))), (ga_most, .inl (cJ, 80, .inr (.inl gc_most))), (ga_placeLow, .inl (cJ, 960, .inr (.inl gc_placeLow))), (ga_placeHigh, .inl (cJ, 960, .inr (.inl gc_placeHigh)))]
set_option maxHeartbeats 8000000 in
set_option maxRecDepth 100000 in
theorem s_X5_copySite (l : Launch) (dC : Nat → ClassId) (dI : Nat → Nat → Nat) (cI cJ cZ : ClassId) (gh : Nat) (g_acts : Int32) (g_kind : Value) (g_na : Value) (g_nb : Value) (g_nc : Value) (g_nd : Value) (g_ne : Value) (g_dropped : Value) (g_live : Value) (g_low : Value) (g_high : Value) (g_sites : Value) (g_nulls : Value) (ga_there : Nat) (ga_lanes : Nat) (ga_least : Nat) (ga_most : Nat) (ga_placeLow : Nat) (ga_placeHigh : Nat) (g_reached : Value) (g_mayThrow : Value) (g_status : Int32) (g_hasRun : Int32) (g_threw : Int32) (g_whereThrown : Int32) (g_value : Value) (g_means : Value) (g_laneOf : Value) (g_sizeOf : Value) (g_cells : Value) (g_copied : Value) (g_state : Int64) (g_joinedLow : Int64) (g_joinedHigh : Int64) (g_keptLow : Value) (g_keptHigh : Value) (gc_there : Nat → Int32) (gc_lanes : Nat → Int32) (gc_least : Nat → Int64) (gc_most : Nat → Int64) (gc_placeLow : Nat → Int64) (gc_placeHigh : Nat → Int64) (aa : Int32) (ba : Int32) (sz : Nat) (q_g_hasRun : kZ g_hasRun) (h_gc_there : ∀ j : Nat, kZ (gc_there j)) (h_gc_most : ∀ j : Nat, l12 (gc_most j)) (hy_aa : 0 ≤ aa.toInt ∧ aa.toInt ≤ 79) (hy_ba : 0 ≤ ba.toInt ∧ ba.toInt ≤ 79) : Met l yX5_copySite v_X5_copySite ({ frames := 0, cells := 0, slots := 0, locals := 0 }) (va_Pc [.ref gh, .int aa, .int ba] (cPre dC dI cI cJ cZ sz (sw_X5_copySite cI cJ cZ gh g_acts g_kind g_na g_nb g_nc g_nd g_ne g_dropped g_live g_low g_high g_sites g_nulls ga_there ga_lanes ga_least ga_most ga_placeLow ga_placeHigh g_reached g_mayThrow g_status g_hasRun g_threw g_whereThrown g_value g_means g_laneOf g_sizeOf g_cells g_copied g_state g_joinedLow g_joinedHigh g_keptLow g_keptHigh gc_there gc_lanes gc_least gc_most gc_placeLow gc_placeHigh aa ba))) (va_Qv (fun (u : (Nat → Int32) × (Nat → Int32) × (Nat → Int64) × (Nat → Int64) × (Nat → Int64) × (Nat → Int64)) => (∀ j : Nat, kZ ((u.1) j)) ∧ (∀ j : Nat, l12 ((u.2.2.2.1) j))) (fun (u : (Nat → Int32) × (Nat → Int32) × (Nat → Int64) × (Nat → Int64) × (Nat → Int64) × (Nat → Int64)) => cPost dC dI cI cJ cZ (va_A (sw_X5_copySite cI cJ cZ gh g_acts g_kind g_na g_nb g_nc g_nd g_ne g_dropped g_live g_low g_high g_sites g_nulls ga_there ga_lanes ga_least ga_most ga_placeLow ga_placeHigh g_reached g_mayThrow g_status g_hasRun g_threw g_whereThrown g_value g_means g_laneOf g_sizeOf g_cells g_copied g_state g_joinedLow g_joinedHigh g_keptLow g_keptHigh gc_there gc_lanes gc_least gc_most gc_placeLow gc_placeHigh aa ba) sz) [(gh, .inr (5, [.int g_acts, g_kind, g_na, g_nb, g_nc, g_nd, g_ne, g_dropped, g_live, g_low, g_high, g_sites, g_nulls, .ref ga_there, .ref ga_lanes, .ref ga_least, .ref ga_most, .ref ga_placeLow, .ref ga_placeHigh, g_reached, g_mayThrow, .int g_status, .int g_hasRun, .int g_threw, .int g_whereThrown, g_value, g_means, g_laneOf, g_sizeOf, g_cells, g_copied, .long g_state, .long g_joinedLow, .long g_joinedHigh, g_keptLow, g_keptHigh])), (ga_there, .inl (cZ, 80, .inl (u.1))), (ga_lanes, .inl (cI, 80, .inl (u.2.1))), (ga_least, .inl (cJ, 80, .inr (.inl (u.2.2.1)))), (ga_most, .inl (cJ, 80, .inr (.inl (u.2.2.2.1)))), (ga_placeLow, .inl (cJ, 960, .inr (.inl (u.2.2.2.2.1)))), (ga_placeHigh, .inl (cJ, 960, .inr (.inl (u.2.2.2.2.2))))]) (va_A (sw_X5_copySite cI cJ cZ gh g_acts g_kind g_na g_nb g_nc g_nd g_ne g_dropped g_live g_low g_high g_sites g_nulls ga_there ga_lanes ga_least ga_most ga_placeLow ga_placeHigh g_reached g_mayThrow g_status g_hasRun g_threw g_whereThrown g_value g_means g_laneOf g_sizeOf g_cells g_copied g_state g_joinedLow g_joinedHigh g_keptLow g_keptHigh gc_there gc_lanes gc_least gc_most gc_placeLow gc_placeHigh aa ba) sz)) 0 0 (va_A (sw_X5_copySite cI cJ cZ gh g_acts g_kind g_na g_nb g_nc g_nd g_ne g_dropped g_live g_low g_high g_sites g_nulls ga_there ga_lanes ga_least ga_most ga_placeLow ga_placeHigh g_reached g_mayThrow g_status g_hasRun g_threw g_whereThrown g_value g_means g_laneOf g_sizeOf g_cells g_copied g_state g_joinedLow g_joinedHigh g_keptLow g_keptHigh gc_there gc_lanes gc_least gc_most gc_placeLow gc_placeHigh aa ba) sz) := by
  refine Met.ofW (cc := cX5_copySite) (maxL := 4) (ret := none) (by decide) rfl ?_
  intro p e s m args below meth c s₁ B hml hv
  obtain ⟨rfl, hsz, hP, hK, hD0, hN⟩ := hv
  have hx := B.exec
  have hb := B.bytes
  have hr := B.returns
  have hts := atoms_spec (ws := v_X5_copySite) B.pre
  have hown : s.vm.findClass RX5 = some m.cls := findClass_of_methodNamed B.named
  have hlocks := B.notSynchronized
  subst hsz
  have hD := hD0.self (sz := s.heap.size)
  generalize hAe : va_A (sw_X5_copySite cI cJ cZ gh g_acts g_kind g_na g_nb g_nc g_nd g_ne g_dropped g_live g_low g_high g_sites g_nulls ga_there ga_lanes ga_least ga_most ga_placeLow ga_placeHigh g_reached g_mayThrow g_status g_hasRun g_threw g_whereThrown g_value g_means g_laneOf g_sizeOf g_cells g_copied g_state g_joinedLow g_joinedHigh g_keptLow g_keptHigh gc_there gc_lanes gc_least gc_most gc_placeLow gc_placeHigh aa ba) s.heap.size = A at hD ⊢
  have hA : ∀ q : Nat, s.heap.size ≤ q → A q := fun q h => by rw [← hAe]; exact Or.inr h
  clear hAe hD0
  have hS : va_S A s.heap s.heap [] := va_S.rf
  replace hP : va_P (dC, dI) vwCl [(gh, .inr (5, [.int g_acts, g_kind, g_na, g_nb, g_nc, g_nd, g_ne, g_dropped, g_live, g_low, g_high, g_sites, g_nulls, .ref ga_there, .ref ga_lanes, .ref ga_least, .ref ga_most, .ref ga_placeLow, .ref ga_placeHigh, g_reached, g_mayThrow, .int g_status, .int g_hasRun, .int g_threw, .int g_whereThrown, g_value, g_means, g_laneOf, g_sizeOf, g_cells, g_copied, .long g_state, .long g_joinedLow, .long g_joinedHigh, g_keptLow, g_keptHigh])), (ga_there, .inl (cZ, 80, .inl gc_there)), (ga_lanes, .inl (cI, 80, .inl gc_lanes)), (ga_least, .inl (cJ, 80, .inr (.inl gc_least))), (ga_most, .inl (cJ, 80, .inr (.inl gc_most))), (ga_placeLow, .inl (cJ, 960, .inr (.inl gc_placeLow))), (ga_placeHigh, .inl (cJ, 960, .inr (.inl gc_placeHigh)))] s.heap := hP
  replace hD : va_D A [(gh, .inr (5, [.int g_acts, g_kind, g_na, g_nb, g_nc, g_nd, g_ne, g_dropped, g_live, g_low, g_high, g_sites, g_nulls, .ref ga_there, .ref ga_lanes, .ref ga_least, .ref ga_most, .ref ga_placeLow, .ref ga_placeHigh, g_reached, g_mayThrow, .int g_status, .int g_hasRun, .int g_threw, .int g_whereThrown, g_value, g_means, g_laneOf, g_sizeOf, g_cells, g_copied, .long g_state, .long g_joinedLow, .long g_joinedHigh, g_keptLow, g_keptHigh])), (ga_there, .inl (cZ, 80, .inl gc_there)), (ga_lanes, .inl (cI, 80, .inl gc_lanes)), (ga_least, .inl (cJ, 80, .inr (.inl gc_least))), (ga_most, .inl (cJ, 80, .inr (.inl gc_most))), (ga_placeLow, .inl (cJ, 960, .inr (.inl gc_placeLow))), (ga_placeHigh, .inl (cJ, 960, .inr (.inl gc_placeHigh)))] := hD
  have hl := lv_entry ([.ref gh, .int aa, .int ba]) (n := 4) (Nat.le_of_ble_eq_true rfl)
  rw [lg_entry_eq]
  generalize (lg_sl ([.ref gh, .int aa, .int ba]) ++ List.replicate (4 - (lg_sl ([.ref gh, .int aa, .int ba])).length) Slot.unset).toArray = ls at hl ⊢
  replace hl : lv_has ls 4 [(0, .ref gh), (1, .int aa), (2, .int ba)] := hl
  have z_0 : (0 : Int32).toInt = 0 := by decide
  have z_1 : (1 : Int32).toInt = 1 := by decide
  have z_12 : (12 : Int32).toInt = 12 := by decide
  refine lv_aload_n hx hb dX5_copySite_0 rfl (lv_at hl 0 rfl) ?_
  refine va_get (D := (dC, dI)) (ci := 5) (v := .ref ga_there) (C := RX5) (T := TX5) (N := 36) hx hb hts inv_X5_copySite_X5 hown hK hP 0 rfl rfl 13 (by decide) (hts (.fieldLink RX5 48 "ArraySegmentsModel" "there" "[Z") (List.mem_of_getElem? (i := 1) rfl)) (fun _ h9 => h9) rfl dX5_copySite_1 ?_
  refine lv_iload_n hx hb dX5_copySite_4 rfl (lv_at hl 2 rfl) ?_
  refine lv_aload_n hx hb dX5_copySite_5 rfl (lv_at hl 0 rfl) ?_
  refine va_get (D := (dC, dI)) (ci := 5) (v := .ref ga_there) (C := RX5) (T := TX5) (N := 36) hx hb hts inv_X5_copySite_X5 hown hK hP 0 rfl rfl 13 (by decide) (hts (.fieldLink RX5 48 "ArraySegmentsModel" "there" "[Z") (List.mem_of_getElem? (i := 1) rfl)) (fun _ h9 => h9) rfl dX5_copySite_6 ?_
  refine lv_iload_n hx hb dX5_copySite_9 rfl (lv_at hl 1 rfl) ?_
  refine sf_zald kZ hx hb hK hP 1 2 rfl rfl h_gc_there (vp_in_iff.mpr ⟨by omega, by omega⟩) dX5_copySite_10 (fun v_1 q_v_1 e_v_1 => ?_)
  refine sf_zast hx hb hK hP hD hS 1 2 rfl rfl h_gc_there (vp_in_iff.mpr ⟨by omega, by omega⟩) dX5_copySite_11 (fun f_2 h_f_2 e_f_2 H_3 locs_3 hP1 hD1 hS1 => ?_)
  replace hP : va_P (dC, dI) vwCl [(gh, .inr (5, [.int g_acts, g_kind, g_na, g_nb, g_nc, g_nd, g_ne, g_dropped, g_live, g_low, g_high, g_sites, g_nulls, .ref ga_there, .ref ga_lanes, .ref ga_least, .ref ga_most, .ref ga_placeLow, .ref ga_placeHigh, g_reached, g_mayThrow, .int g_status, .int g_hasRun, .int g_threw, .int g_whereThrown, g_value, g_means, g_laneOf, g_sizeOf, g_cells, g_copied, .long g_state, .long g_joinedLow, .long g_joinedHigh, g_keptLow, g_keptHigh])), (ga_there, .inl (cZ, 80, .inl f_2)), (ga_lanes, .inl (cI, 80, .inl gc_lanes)), (ga_least, .inl (cJ, 80, .inr (.inl gc_least))), (ga_most, .inl (cJ, 80, .inr (.inl gc_most))), (ga_placeLow, .inl (cJ, 960, .inr (.inl gc_placeLow))), (ga_placeHigh, .inl (cJ, 960, .inr (.inl gc_placeHigh)))] H_3 := hP1
  replace hD : va_D A [(gh, .inr (5, [.int g_acts, g_kind, g_na, g_nb, g_nc, g_nd, g_ne, g_dropped, g_live, g_low, g_high, g_sites, g_nulls, .ref ga_there, .ref ga_lanes, .ref ga_least, .ref ga_most, .ref ga_placeLow, .ref ga_placeHigh, g_reached, g_mayThrow, .int g_status, .int g_hasRun, .int g_threw, .int g_whereThrown, g_value, g_means, g_laneOf, g_sizeOf, g_cells, g_copied, .long g_state, .long g_joinedLow, .long g_joinedHigh, g_keptLow, g_keptHigh])), (ga_there, .inl (cZ, 80, .inl f_2)), (ga_lanes, .inl (cI, 80, .inl gc_lanes)), (ga_least, .inl (cJ, 80, .inr (.inl gc_least))), (ga_most, .inl (cJ, 80, .inr (.inl gc_most))), (ga_placeLow, .inl (cJ, 960, .inr (.inl gc_placeLow))), (ga_placeHigh, .inl (cJ, 960, .inr (.inl gc_placeHigh)))] := hD1
  replace hS := hS1
  clear hP1 hD1 hS1
  refine lv_aload_n hx hb dX5_copySite_12 rfl (lv_at hl 0 rfl) ?_
  refine va_get (D := (dC, dI)) (ci := 5) (v := .ref ga_lanes) (C := RX5) (T := TX5) (N := 36) hx hb hts inv_X5_copySite_X5 hown hK hP 0 rfl rfl 14 (by decide) (hts (.fieldLink RX5 51 "ArraySegmentsModel" "lanes" "[I") (List.mem_of_getElem? (i := 2) rfl)) (fun _ h9 => h9) rfl dX5_copySite_13 ?_
  refine lv_iload_n hx hb dX5_copySite_16 rfl (lv_at hl 2 rfl) ?_
  refine lv_aload_n hx hb dX5_copySite_17 rfl (lv_at hl 0 rfl) ?_
  refine va_get (D := (dC, dI)) (ci := 5) (v := .ref ga_lanes) (C := RX5) (T := TX5) (N := 36) hx hb hts inv_X5_copySite_X5 hown hK hP 0 rfl rfl 14 (by decide) (hts (.fieldLink RX5 51 "ArraySegmentsModel" "lanes" "[I") (List.mem_of_getElem? (i := 2) rfl)) (fun _ h9 => h9) rfl dX5_copySite_18 ?_
  refine lv_iload_n hx hb dX5_copySite_21 rfl (lv_at hl 1 rfl) ?_
  refine sf_iald kT hx hb hK hP 2 0 rfl rfl (fun _ => trivial) (vp_in_iff.mpr ⟨by omega, by omega⟩) dX5_copySite_22 (fun v_4 q_v_4 e_v_4 => ?_)
  refine sf_iast kT hx hb hK hP hD hS 2 0 rfl rfl (fun _ => trivial) trivial (vp_in_iff.mpr ⟨by omega, by omega⟩) dX5_copySite_23 (fun f_5 h_f_5 e_f_5 H_6 locs_6 hP1 hD1 hS1 => ?_)
  replace hP : va_P (dC, dI) vwCl [(gh, .inr (5, [.int g_acts, g_kind, g_na, g_nb, g_nc, g_nd, g_ne, g_dropped, g_live, g_low, g_high, g_sites, g_nulls, .ref ga_there, .ref ga_lanes, .ref ga_least, .ref ga_most, .ref ga_placeLow, .ref ga_placeHigh, g_reached, g_mayThrow, .int g_status, .int g_hasRun, .int g_threw, .int g_whereThrown, g_value, g_means, g_laneOf, g_sizeOf, g_cells, g_copied, .long g_state, .long g_joinedLow, .long g_joinedHigh, g_keptLow, g_keptHigh])), (ga_there, .inl (cZ, 80, .inl f_2)), (ga_lanes, .inl (cI, 80, .inl f_5)), (ga_least, .inl (cJ, 80, .inr (.inl gc_least))), (ga_most, .inl (cJ, 80, .inr (.inl gc_most))), (ga_placeLow, .inl (cJ, 960, .inr (.inl gc_placeLow))), (ga_placeHigh, .inl (cJ, 960, .inr (.inl gc_placeHigh)))] H_6 := hP1
  replace hD : va_D A [(gh, .inr (5, [.int g_acts, g_kind, g_na, g_nb, g_nc, g_nd, g_ne, g_dropped, g_live, g_low, g_high, g_sites, g_nulls, .ref ga_there, .ref ga_lanes, .ref ga_least, .ref ga_most, .ref ga_placeLow, .ref ga_placeHigh, g_reached, g_mayThrow, .int g_status, .int g_hasRun, .int g_threw, .int g_whereThrown, g_value, g_means, g_laneOf, g_sizeOf, g_cells, g_copied, .long g_state, .long g_joinedLow, .long g_joinedHigh, g_keptLow, g_keptHigh])), (ga_there, .inl (cZ, 80, .inl f_2)), (ga_lanes, .inl (cI, 80, .inl f_5)), (ga_least, .inl (cJ, 80, .inr (.inl gc_least))), (ga_most, .inl (cJ, 80, .inr (.inl gc_most))), (ga_placeLow, .inl (cJ, 960, .inr (.inl gc_placeLow))), (ga_placeHigh, .inl (cJ, 960, .inr (.inl gc_placeHigh)))] := hD1
  replace hS := hS1
  clear hP1 hD1 hS1
  refine lv_aload_n hx hb dX5_copySite_24 rfl (lv_at hl 0 rfl) ?_
  refine va_get (D := (dC, dI)) (ci := 5) (v := .ref ga_least) (C := RX5) (T := TX5) (N := 36) hx hb hts inv_X5_copySite_X5 hown hK hP 0 rfl rfl 15 (by decide) (hts (.fieldLink RX5 54 "ArraySegmentsModel" "least" "[J") (List.mem_of_getElem? (i := 3) rfl)) (fun _ h9 => h9) rfl dX5_copySite_25 ?_
  refine lv_iload_n hx hb dX5_copySite_28 rfl (lv_at hl 2 rfl) ?_
  refine lv_aload_n hx hb dX5_copySite_29 rfl (lv_at hl 0 rfl) ?_
  refine va_get (D := (dC, dI)) (ci := 5) (v := .ref ga_least) (C := RX5) (T := TX5) (N := 36) hx hb hts inv_X5_copySite_X5 hown hK hP 0 rfl rfl 15 (by decide) (hts (.fieldLink RX5 54 "ArraySegmentsModel" "least" "[J") (List.mem_of_getElem? (i := 3) rfl)) (fun _ h9 => h9) rfl dX5_copySite_30 ?_
  refine lv_iload_n hx hb dX5_copySite_33 rfl (lv_at hl 1 rfl) ?_
  refine sf_lald lT hx hb hK hP 3 1 rfl rfl (fun _ => trivial) (vp_in_iff.mpr ⟨by omega, by omega⟩) dX5_copySite_34 (fun v_7 q_v_7 e_v_7 => ?_)
  refine sf_last lT hx hb hK hP hD hS 3 1 rfl rfl (fun _ => trivial) trivial (vp_in_iff.mpr ⟨by omega, by omega⟩) dX5_copySite_35 (fun f_8 h_f_8 e_f_8 H_9 locs_9 hP1 hD1 hS1 => ?_)
  replace hP : va_P (dC, dI) vwCl [(gh, .inr (5, [.int g_acts, g_kind, g_na, g_nb, g_nc, g_nd, g_ne, g_dropped, g_live, g_low, g_high, g_sites, g_nulls, .ref ga_there, .ref ga_lanes, .ref ga_least, .ref ga_most, .ref ga_placeLow, .ref ga_placeHigh, g_reached, g_mayThrow, .int g_status, .int g_hasRun, .int g_threw, .int g_whereThrown, g_value, g_means, g_laneOf, g_sizeOf, g_cells, g_copied, .long g_state, .long g_joinedLow, .long g_joinedHigh, g_keptLow, g_keptHigh])), (ga_there, .inl (cZ, 80, .inl f_2)), (ga_lanes, .inl (cI, 80, .inl f_5)), (ga_least, .inl (cJ, 80, .inr (.inl f_8))), (ga_most, .inl (cJ, 80, .inr (.inl gc_most))), (ga_placeLow, .inl (cJ, 960, .inr (.inl gc_placeLow))), (ga_placeHigh, .inl (cJ, 960, .inr (.inl gc_placeHigh)))] H_9 := hP1
  replace hD : va_D A [(gh, .inr (5, [.int g_acts, g_kind, g_na, g_nb, g_nc, g_nd, g_ne, g_dropped, g_live, g_low, g_high, g_sites, g_nulls, .ref ga_there, .ref ga_lanes, .ref ga_least, .ref ga_most, .ref ga_placeLow, .ref ga_placeHigh, g_reached, g_mayThrow, .int g_status, .int g_hasRun, .int g_threw, .int g_whereThrown, g_value, g_means, g_laneOf, g_sizeOf, g_cells, g_copied, .long g_state, .long g_joinedLow, .long g_joinedHigh, g_keptLow, g_keptHigh])), (ga_there, .inl (cZ, 80, .inl f_2)), (ga_lanes, .inl (cI, 80, .inl f_5)), (ga_least, .inl (cJ, 80, .inr (.inl f_8))), (ga_most, .inl (cJ, 80, .inr (.inl gc_most))), (ga_placeLow, .inl (cJ, 960, .inr (.inl gc_placeLow))), (ga_placeHigh, .inl (cJ, 960, .inr (.inl gc_placeHigh)))] := hD1
  replace hS := hS1
  clear hP1 hD1 hS1
  refine lv_aload_n hx hb dX5_copySite_36 rfl (lv_at hl 0 rfl) ?_
  refine va_get (D := (dC, dI)) (ci := 5) (v := .ref ga_most) (C := RX5) (T := TX5) (N := 36) hx hb hts inv_X5_copySite_X5 hown hK hP 0 rfl rfl 16 (by decide) (hts (.fieldLink RX5 57 "ArraySegmentsModel" "most" "[J") (List.mem_of_getElem? (i := 4) rfl)) (fun _ h9 => h9) rfl dX5_copySite_37 ?_
  refine lv_iload_n hx hb dX5_copySite_40 rfl (lv_at hl 2 rfl) ?_
  refine lv_aload_n hx hb dX5_copySite_41 rfl (lv_at hl 0 rfl) ?_
  refine va_get (D := (dC, dI)) (ci := 5) (v := .ref ga_most) (C := RX5) (T := TX5) (N := 36) hx hb hts inv_X5_copySite_X5 hown hK hP 0 rfl rfl 16 (by decide) (hts (.fieldLink RX5 57 "ArraySegmentsModel" "most" "[J") (List.mem_of_getElem? (i := 4) rfl)) (fun _ h9 => h9) rfl dX5_copySite_42 ?_
  refine lv_iload_n hx hb dX5_copySite_45 rfl (lv_at hl 1 rfl) ?_
  refine sf_lald l12 hx hb hK hP 4 1 rfl rfl h_gc_most (vp_in_iff.mpr ⟨by omega, by omega⟩) dX5_copySite_46 (fun v_10 q_v_10 e_v_10 => ?_)
  refine sf_last l12 hx hb hK hP hD hS 4 1 rfl rfl h_gc_most (show l12 v_10 from by omega) (vp_in_iff.mpr ⟨by omega, by omega⟩) dX5_copySite_47 (fun f_11 h_f_11 e_f_11 H_12 locs_12 hP1 hD1 hS1 => ?_)
  replace hP : va_P (dC, dI) vwCl [(gh, .inr (5, [.int g_acts, g_kind, g_na, g_nb, g_nc, g_nd, g_ne, g_dropped, g_live, g_low, g_high, g_sites, g_nulls, .ref ga_there, .ref ga_lanes, .ref ga_least, .ref ga_most, .ref ga_placeLow, .ref ga_placeHigh, g_reached, g_mayThrow, .int g_status, .int g_hasRun, .int g_threw, .int g_whereThrown, g_value, g_means, g_laneOf, g_sizeOf, g_cells, g_copied, .long g_state, .long g_joinedLow, .long g_joinedHigh, g_keptLow, g_keptHigh])), (ga_there, .inl (cZ, 80, .inl f_2)), (ga_lanes, .inl (cI, 80, .inl f_5)), (ga_least, .inl (cJ, 80, .inr (.inl f_8))), (ga_most, .inl (cJ, 80, .inr (.inl f_11))), (ga_placeLow, .inl (cJ, 960, .inr (.inl gc_placeLow))), (ga_placeHigh, .inl (cJ, 960, .inr (.inl gc_placeHigh)))] H_12 := hP1
  replace hD : va_D A [(gh, .inr (5, [.int g_acts, g_kind, g_na, g_nb, g_nc, g_nd, g_ne, g_dropped, g_live, g_low, g_high, g_sites, g_nulls, .ref ga_there, .ref ga_lanes, .ref ga_least, .ref ga_most, .ref ga_placeLow, .ref ga_placeHigh, g_reached, g_mayThrow, .int g_status, .int g_hasRun, .int g_threw, .int g_whereThrown, g_value, g_means, g_laneOf, g_sizeOf, g_cells, g_copied, .long g_state, .long g_joinedLow, .long g_joinedHigh, g_keptLow, g_keptHigh])), (ga_there, .inl (cZ, 80, .inl f_2)), (ga_lanes, .inl (cI, 80, .inl f_5)), (ga_least, .inl (cJ, 80, .inr (.inl f_8))), (ga_most, .inl (cJ, 80, .inr (.inl f_11))), (ga_placeLow, .inl (cJ, 960, .inr (.inl gc_placeLow))), (ga_placeHigh, .inl (cJ, 960, .inr (.inl gc_placeHigh)))] := hD1
  replace hS := hS1
  clear hP1 hD1 hS1
  refine lv_iconst (v := 0) hx hb dX5_copySite_48 (by decide) ?_
  refine lv_istore_n (lv' := [(3, .int 0), (0, .ref gh), (1, .int aa), (2, .int ba)]) hx hb dX5_copySite_49 rfl hl (by decide) rfl (fun ls1 hl1 => ?_)
  replace hl := hl1; clear hl1
  refine my_wloop (S := Int32 × (Nat → Int64) × (Nat → Int64)) (fun u => (0 ≤ (u.1).toInt ∧ (u.1).toInt ≤ 12)) (fun u => (12 - (u.1).toInt).toNat) (fun u => [(gh, .inr (5, [.int g_acts, g_kind, g_na, g_nb, g_nc, g_nd, g_ne, g_dropped, g_live, g_low, g_high, g_sites, g_nulls, .ref ga_there, .ref ga_lanes, .ref ga_least, .ref ga_most, .ref ga_placeLow, .ref ga_placeHigh, g_reached, g_mayThrow, .int g_status, .int g_hasRun, .int g_threw, .int g_whereThrown, g_value, g_means, g_laneOf, g_sizeOf, g_cells, g_copied, .long g_state, .long g_joinedLow, .long g_joinedHigh, g_keptLow, g_keptHigh])), (ga_there, .inl (cZ, 80, .inl f_2)), (ga_lanes, .inl (cI, 80, .inl f_5)), (ga_least, .inl (cJ, 80, .inr (.inl f_8))), (ga_most, .inl (cJ, 80, .inr (.inl f_11))), (ga_placeLow, .inl (cJ, 960, .inr (.inl (u.2.1)))), (ga_placeHigh, .inl (cJ, 960, .inr (.inl (u.2.2))))]) (fun u => [(3, .int (u.1)), (0, .ref gh), (1, .int aa), (2, .int ba)]) (H0 := s.heap) (A := A) (D := (dC, dI)) (cl := vwCl) ((0 : Int32), gc_placeLow, gc_placeHigh) (show (0 ≤ (0 : Int32).toInt ∧ (0 : Int32).toInt ≤ 12) from ⟨by omega, by omega⟩) (by exact hP) (by exact hD) hS (by exact hl) (fun u_13 hu_13 ih_13 H_13 locs_13 ls1 hP1 hD1 hS1 hl1 => ?_)
  obtain ⟨v_14, f_15, f_16⟩ := u_13
  replace hu_13 : (0 ≤ v_14.toInt ∧ v_14.toInt ≤ 12) := hu_13
  have q_v_14 := hu_13
  replace hP : va_P (dC, dI) vwCl [(gh, .inr (5, [.int g_acts, g_kind, g_na, g_nb, g_nc, g_nd, g_ne, g_dropped, g_live, g_low, g_high, g_sites, g_nulls, .ref ga_there, .ref ga_lanes, .ref ga_least, .ref ga_most, .ref ga_placeLow, .ref ga_placeHigh, g_reached, g_mayThrow, .int g_status, .int g_hasRun, .int g_threw, .int g_whereThrown, g_value, g_means, g_laneOf, g_sizeOf, g_cells, g_copied, .long g_state, .long g_joinedLow, .long g_joinedHigh, g_keptLow, g_keptHigh])), (ga_there, .inl (cZ, 80, .inl f_2)), (ga_lanes, .inl (cI, 80, .inl f_5)), (ga_least, .inl (cJ, 80, .inr (.inl f_8))), (ga_most, .inl (cJ, 80, .inr (.inl f_11))), (ga_placeLow, .inl (cJ, 960, .inr (.inl f_15))), (ga_placeHigh, .inl (cJ, 960, .inr (.inl f_16)))] H_13 := hP1
  replace hD : va_D A [(gh, .inr (5, [.int g_acts, g_kind, g_na, g_nb, g_nc, g_nd, g_ne, g_dropped, g_live, g_low, g_high, g_sites, g_nulls, .ref ga_there, .ref ga_lanes, .ref ga_least, .ref ga_most, .ref ga_placeLow, .ref ga_placeHigh, g_reached, g_mayThrow, .int g_status, .int g_hasRun, .int g_threw, .int g_whereThrown, g_value, g_means, g_laneOf, g_sizeOf, g_cells, g_copied, .long g_state, .long g_joinedLow, .long g_joinedHigh, g_keptLow, g_keptHigh])), (ga_there, .inl (cZ, 80, .inl f_2)), (ga_lanes, .inl (cI, 80, .inl f_5)), (ga_least, .inl (cJ, 80, .inr (.inl f_8))), (ga_most, .inl (cJ, 80, .inr (.inl f_11))), (ga_placeLow, .inl (cJ, 960, .inr (.inl f_15))), (ga_placeHigh, .inl (cJ, 960, .inr (.inl f_16)))] := hD1
  replace hS := hS1
  clear hP1 hD1 hS1
  replace hl : lv_has ls1 4 [(3, .int v_14), (0, .ref gh), (1, .int aa), (2, .int ba)] := hl1
  clear hl1
  refine lv_iload_n hx hb dX5_copySite_50 rfl (lv_at hl 0 rfl) ?_
  refine lv_bipush (v := 12) hx hb dX5_copySite_51 (by decide) ?_
  refine lv_icmp_ge (tgt := 106) hx hb dX5_copySite_53 (by decide) (fun c_17 => ?_) (fun c_17 => ?_)
  · -- yes
    have k_17 : (12 : Int32).toInt ≤ v_14.toInt := ci_ge c_17
    have hP9 := hP.sub (ws' := [(gh, .inr (5, [.int g_acts, g_kind, g_na, g_nb, g_nc, g_nd, g_ne, g_dropped, g_live, g_low, g_high, g_sites, g_nulls, .ref ga_there, .ref ga_lanes, .ref ga_least, .ref ga_most, .ref ga_placeLow, .ref ga_placeHigh, g_reached, g_mayThrow, .int g_status, .int g_hasRun, .int g_threw, .int g_whereThrown, g_value, g_means, g_laneOf, g_sizeOf, g_cells, g_copied, .long g_state, .long g_joinedLow, .long g_joinedHigh, g_keptLow, g_keptHigh])), (ga_there, .inl (cZ, 80, .inl f_2)), (ga_lanes, .inl (cI, 80, .inl f_5)), (ga_least, .inl (cJ, 80, .inr (.inl f_8))), (ga_most, .inl (cJ, 80, .inr (.inl f_11))), (ga_placeLow, .inl (cJ, 960, .inr (.inl f_15))), (ga_placeHigh, .inl (cJ, 960, .inr (.inl f_16)))]) [0, 1, 2, 3, 4, 5, 6] rfl
    have hD9 := hD.sub (ws' := [(gh, .inr (5, [.int g_acts, g_kind, g_na, g_nb, g_nc, g_nd, g_ne, g_dropped, g_live, g_low, g_high, g_sites, g_nulls, .ref ga_there, .ref ga_lanes, .ref ga_least, .ref ga_most, .ref ga_placeLow, .ref ga_placeHigh, g_reached, g_mayThrow, .int g_status, .int g_hasRun, .int g_threw, .int g_whereThrown, g_value, g_means, g_laneOf, g_sizeOf, g_cells, g_copied, .long g_state, .long g_joinedLow, .long g_joinedHigh, g_keptLow, g_keptHigh])), (ga_there, .inl (cZ, 80, .inl f_2)), (ga_lanes, .inl (cI, 80, .inl f_5)), (ga_least, .inl (cJ, 80, .inr (.inl f_8))), (ga_most, .inl (cJ, 80, .inr (.inl f_11))), (ga_placeLow, .inl (cJ, 960, .inr (.inl f_15))), (ga_placeHigh, .inl (cJ, 960, .inr (.inl f_16)))]) [0, 1, 2, 3, 4, 5, 6] (by decide) rfl
    exact W.vret hx hb hr (fun t ht hW => ⟨⟨(f_2, f_5, f_8, f_11, f_15, f_16), rfl, ⟨(show ∀ j : Nat, kZ (f_2 j) from h_f_2), (show ∀ j : Nat, l12 (f_11 j) from h_f_11)⟩, by rw [ht]; exact hP9, va_K.moved hW.alike hK, hD9⟩, hS.F ht⟩) hS.2.2 dX5_copySite_106
  · -- no
    have k_17 : v_14.toInt < (12 : Int32).toInt := ci_nge c_17
    refine lv_aload_n hx hb dX5_copySite_56 rfl (lv_at hl 1 rfl) ?_
    refine va_get (D := (dC, dI)) (ci := 5) (v := .ref ga_placeLow) (C := RX5) (T := TX5) (N := 36) hx hb hts inv_X5_copySite_X5 hown hK hP 0 rfl rfl 17 (by decide) (hts (.fieldLink RX5 60 "ArraySegmentsModel" "placeLow" "[J") (List.mem_of_getElem? (i := 5) rfl)) (fun _ h9 => h9) rfl dX5_copySite_57 ?_
    refine lv_bipush (v := 12) hx hb dX5_copySite_60 (by decide) ?_
    refine lv_iload_n hx hb dX5_copySite_62 rfl (lv_at hl 3 rfl) ?_
    refine sf_imul (w := 12) (z := ba.toInt) hx hb dX5_copySite_63 (by decide) rfl ⟨by omega, by omega⟩ (fun v_18 q_v_18 => ?_)
    refine lv_iload_n hx hb dX5_copySite_64 rfl (lv_at hl 0 rfl) ?_
    refine sf_iadd hx hb dX5_copySite_65 ⟨by omega, by omega⟩ (fun v_19 q_v_19 => ?_)
    refine lv_aload_n hx hb dX5_copySite_66 rfl (lv_at hl 1 rfl) ?_
    refine va_get (D := (dC, dI)) (ci := 5) (v := .ref ga_placeLow) (C := RX5) (T := TX5) (N := 36) hx hb hts inv_X5_copySite_X5 hown hK hP 0 rfl rfl 17 (by decide) (hts (.fieldLink RX5 60 "ArraySegmentsModel" "placeLow" "[J") (List.mem_of_getElem? (i := 5) rfl)) (fun _ h9 => h9) rfl dX5_copySite_67 ?_
    refine lv_bipush (v := 12) hx hb dX5_copySite_70 (by decide) ?_
    refine lv_iload_n hx hb dX5_copySite_72 rfl (lv_at hl 2 rfl) ?_
    refine sf_imul (w := 12) (z := aa.toInt) hx hb dX5_copySite_73 (by decide) rfl ⟨by omega, by omega⟩ (fun v_20 q_v_20 => ?_)
    refine lv_iload_n hx hb dX5_copySite_74 rfl (lv_at hl 0 rfl) ?_
    refine sf_iadd hx hb dX5_copySite_75 ⟨by omega, by omega⟩ (fun v_21 q_v_21 => ?_)
    refine sf_lald lT hx hb hK hP 5 1 rfl rfl (fun _ => trivial) (vp_in_iff.mpr ⟨by omega, by omega⟩) dX5_copySite_76 (fun v_22 q_v_22 e_v_22 => ?_)
    refine sf_last lT hx hb hK hP hD hS 5 1 rfl rfl (fun _ => trivial) trivial (vp_in_iff.mpr ⟨by omega, by omega⟩) dX5_copySite_77 (fun f_23 h_f_23 e_f_23 H_24 locs_24 hP1 hD1 hS1 => ?_)
    replace hP : va_P (dC, dI) vwCl [(gh, .inr (5, [.int g_acts, g_kind, g_na, g_nb, g_nc, g_nd, g_ne, g_dropped, g_live, g_low, g_high, g_sites, g_nulls, .ref ga_there, .ref ga_lanes, .ref ga_least, .ref ga_most, .ref ga_placeLow, .ref ga_placeHigh, g_reached, g_mayThrow, .int g_status, .int g_hasRun, .int g_threw, .int g_whereThrown, g_value, g_means, g_laneOf, g_sizeOf, g_cells, g_copied, .long g_state, .long g_joinedLow, .long g_joinedHigh, g_keptLow, g_keptHigh])), (ga_there, .inl (cZ, 80, .inl f_2)), (ga_lanes, .inl (cI, 80, .inl f_5)), (ga_least, .inl (cJ, 80, .inr (.inl f_8))), (ga_most, .inl (cJ, 80, .inr (.inl f_11))), (ga_placeLow, .inl (cJ, 960, .inr (.inl f_23))), (ga_placeHigh, .inl (cJ, 960, .inr (.inl f_16)))] H_24 := hP1
    replace hD : va_D A [(gh, .inr (5, [.int g_acts, g_kind, g_na, g_nb, g_nc, g_nd, g_ne, g_dropped, g_live, g_low, g_high, g_sites, g_nulls, .ref ga_there, .ref ga_lanes, .ref ga_least, .ref ga_most, .ref ga_placeLow, .ref ga_placeHigh, g_reached, g_mayThrow, .int g_status, .int g_hasRun, .int g_threw, .int g_whereThrown, g_value, g_means, g_laneOf, g_sizeOf, g_cells, g_copied, .long g_state, .long g_joinedLow, .long g_joinedHigh, g_keptLow, g_keptHigh])), (ga_there, .inl (cZ, 80, .inl f_2)), (ga_lanes, .inl (cI, 80, .inl f_5)), (ga_least, .inl (cJ, 80, .inr (.inl f_8))), (ga_most, .inl (cJ, 80, .inr (.inl f_11))), (ga_placeLow, .inl (cJ, 960, .inr (.inl f_23))), (ga_placeHigh, .inl (cJ, 960, .inr (.inl f_16)))] := hD1
    replace hS := hS1
    clear hP1 hD1 hS1
    refine lv_aload_n hx hb dX5_copySite_78 rfl (lv_at hl 1 rfl) ?_
    refine va_get (D := (dC, dI)) (ci := 5) (v := .ref ga_placeHigh) (C := RX5) (T := TX5) (N := 36) hx hb hts inv_X5_copySite_X5 hown hK hP 0 rfl rfl 18 (by decide) (hts (.fieldLink RX5 63 "ArraySegmentsModel" "placeHigh" "[J") (List.mem_of_getElem? (i := 6) rfl)) (fun _ h9 => h9) rfl dX5_copySite_79 ?_
    refine lv_bipush (v := 12) hx hb dX5_copySite_82 (by decide) ?_
    refine lv_iload_n hx hb dX5_copySite_84 rfl (lv_at hl 3 rfl) ?_
    refine sf_imul (w := 12) (z := ba.toInt) hx hb dX5_copySite_85 (by decide) rfl ⟨by omega, by omega⟩ (fun v_25 q_v_25 => ?_)
    refine lv_iload_n hx hb dX5_copySite_86 rfl (lv_at hl 0 rfl) ?_
    refine sf_iadd hx hb dX5_copySite_87 ⟨by omega, by omega⟩ (fun v_26 q_v_26 => ?_)
    refine lv_aload_n hx hb dX5_copySite_88 rfl (lv_at hl 1 rfl) ?_
    refine va_get (D := (dC, dI)) (ci := 5) (v := .ref ga_placeHigh) (C := RX5) (T := TX5) (N := 36) hx hb hts inv_X5_copySite_X5 hown hK hP 0 rfl rfl 18 (by decide) (hts (.fieldLink RX5 63 "ArraySegmentsModel" "placeHigh" "[J") (List.mem_of_getElem? (i := 6) rfl)) (fun _ h9 => h9) rfl dX5_copySite_89 ?_
    refine lv_bipush (v := 12) hx hb dX5_copySite_92 (by decide) ?_
    refine lv_iload_n hx hb dX5_copySite_94 rfl (lv_at hl 2 rfl) ?_
    refine sf_imul (w := 12) (z := aa.toInt) hx hb dX5_copySite_95 (by decide) rfl ⟨by omega, by omega⟩ (fun v_27 q_v_27 => ?_)
    refine lv_iload_n hx hb dX5_copySite_96 rfl (lv_at hl 0 rfl) ?_
    refine sf_iadd hx hb dX5_copySite_97 ⟨by omega, by omega⟩ (fun v_28 q_v_28 => ?_)
    refine sf_lald lT hx hb hK hP 6 1 rfl rfl (fun _ => trivial) (vp_in_iff.mpr ⟨by omega, by omega⟩) dX5_copySite_98 (fun v_29 q_v_29 e_v_29 => ?_)
    refine sf_last lT hx hb hK hP hD hS 6 1 rfl rfl (fun _ => trivial) trivial (vp_in_iff.mpr ⟨by omega, by omega⟩) dX5_copySite_99 (fun f_30 h_f_30 e_f_30 H_31 locs_31 hP1 hD1 hS1 => ?_)
    replace hP : va_P (dC, dI) vwCl [(gh, .inr (5, [.int g_acts, g_kind, g_na, g_nb, g_nc, g_nd, g_ne, g_dropped, g_live, g_low, g_high, g_sites, g_nulls, .ref ga_there, .ref ga_lanes, .ref ga_least, .ref ga_most, .ref ga_placeLow, .ref ga_placeHigh, g_reached, g_mayThrow, .int g_status, .int g_hasRun, .int g_threw, .int g_whereThrown, g_value, g_means, g_laneOf, g_sizeOf, g_cells, g_copied, .long g_state, .long g_joinedLow, .long g_joinedHigh, g_keptLow, g_keptHigh])), (ga_there, .inl (cZ, 80, .inl f_2)), (ga_lanes, .inl (cI, 80, .inl f_5)), (ga_least, .inl (cJ, 80, .inr (.inl f_8))), (ga_most, .inl (cJ, 80, .inr (.inl f_11))), (ga_placeLow, .inl (cJ, 960, .inr (.inl f_23))), (ga_placeHigh, .inl (cJ, 960, .inr (.inl f_30)))] H_31 := hP1
    replace hD : va_D A [(gh, .inr (5, [.int g_acts, g_kind, g_na, g_nb, g_nc, g_nd, g_ne, g_dropped, g_live, g_low, g_high, g_sites, g_nulls, .ref ga_there, .ref ga_lanes, .ref ga_least, .ref ga_most, .ref ga_placeLow, .ref ga_placeHigh, g_reached, g_mayThrow, .int g_status, .int g_hasRun, .int g_threw, .int g_whereThrown, g_value, g_means, g_laneOf, g_sizeOf, g_cells, g_copied, .long g_state, .long g_joinedLow, .long g_joinedHigh, g_keptLow, g_keptHigh])), (ga_there, .inl (cZ, 80, .inl f_2)), (ga_lanes, .inl (cI, 80, .inl f_5)), (ga_least, .inl (cJ, 80, .inr (.inl f_8))), (ga_most, .inl (cJ, 80, .inr (.inl f_11))), (ga_placeLow, .inl (cJ, 960, .inr (.inl f_23))), (ga_placeHigh, .inl (cJ, 960, .inr (.inl f_30)))] := hD1
    replace hS := hS1
    clear hP1 hD1 hS1
    refine sf_iinc hx hb dX5_copySite_100 hl (k := 0) (x := v_14) (w := 1) rfl (by decide) (by decide) ⟨by omega, by omega⟩ (fun v_32 q_v_32 ls1 hl1 => ?_)
    replace hl : lv_has ls1 4 [(3, .int v_32), (0, .ref gh), (1, .int aa), (2, .int ba)] := hl1
    clear hl1
    refine lv_goto (tgt := 50) hx hb dX5_copySite_103 (by decide) ?_
    exact ih_13 (v_32, f_23, f_30) (show (0 ≤ v_32.toInt ∧ v_32.toInt ≤ 12) from ⟨by omega, by omega⟩) (by show (12 - v_32.toInt).toNat < (12 - v_14.toInt).toNat; omega) _ _ _ (hP.sub [0, 1, 2, 3, 4, 5, 6] rfl) (hD.sub [0, 1, 2, 3, 4, 5, 6] (by decide) rfl) hS (lv_sub hl [0, 1, 2, 3] rfl)

def v_X5_joinPlace : List Cond := .code yX5_joinPlace cX5_joinPlace 8 none :: ([.fieldLink RX5 60 "ArraySegmentsModel" "placeLow" "[J", .fieldLink RX5 63 "ArraySegmentsModel" "placeHigh" "[J"] ++ (wsX50))
theorem inv_X5_joinPlace_X5 : ∀ w ∈ wsX50, w ∈ v_X5_joinPlace := fun _ h => List.mem_cons_of_mem _ (List.mem_append_right _ (h))
set_option maxRecDepth 20000 in
theorem gd_X5_joinPlace : gdL v_X5_joinPlace := gdC (gdW (by decide +kernel)) (gdA (gdW (by decide +kernel)) gd_wsX50)
abbrev sw_X5_joinPlace (cI cJ cZ : ClassId) (gh : Nat) (g_acts : Int32) (g_kind : Value) (g_na : Value) (g_nb : Value) (g_nc : Value) (g_nd : Value) (g_ne : Value) (g_dropped : Value) (g_live : Value) (g_low : Value) (g_high : Value) (g_sites : Value) (g_nulls : Value) (g_there : Value) (g_lanes : Value) (g_least : Value) (g_most : Value) (ga_placeLow : Nat) (ga_placeHigh : Nat) (g_reached : Value) (g_mayThrow : Value) (g_status : Int32) (g_hasRun : Int32) (g_threw : Int32) (g_whereThrown : Int32) (g_value : Value) (g_means : Value) (g_laneOf : Value) (g_sizeOf : Value) (g_cells : Value) (g_copied : Value) (g_state : Int64) (g_joinedLow : Int64) (g_joinedHigh : Int64) (g_keptLow : Value) (g_keptHigh : Value) (gc_placeLow : Nat → Int64) (gc_placeHigh : Nat → Int64) (ia : Int32) (pa : Int32) (loa : Int64) (hia : Int64) : va_W := [(gh, .inr (5, [.int g_acts, g_kind, g_na, g_nb, g_nc, g_nd, g_ne, g_dropped, g_live, g_low, g_high, g_sites, g_nulls, g_there, g_lanes, g_least, g_most, .ref ga_placeLow, .ref ga_placeHigh, g_reached, g_mayThrow, .int g_status, .int g_hasRun, .int g_threw, .int g_whereThrown, g_value, g_means, g_laneOf, g_sizeOf, g_cells, g_copied, .long g_state, .long g_joinedLow, .long g_joinedHigh, g_keptLow, g_keptHigh])), (ga_placeLow, .inl (cJ, 960, .inr (.inl gc_placeLow))), (ga_placeHigh, .inl (cJ, 960, .inr (.inl gc_placeHigh)))]
set_option maxHeartbeats 8000000 in
set_option maxRecDepth 100000 in
theorem s_X5_joinPlace (l : Launch) (dC : Nat → ClassId) (dI : Nat → Nat → Nat) (cI cJ cZ : ClassId) (gh : Nat) (g_acts : Int32) (g_kind : Value) (g_na : Value) (g_nb : Value) (g_nc : Value) (g_nd : Value) (g_ne : Value) (g_dropped : Value) (g_live : Value) (g_low : Value) (g_high : Value) (g_sites : Value) (g_nulls : Value) (g_there : Value) (g_lanes : Value) (g_least : Value) (g_most : Value) (ga_placeLow : Nat) (ga_placeHigh : Nat) (g_reached : Value) (g_mayThrow : Value) (g_status : Int32) (g_hasRun : Int32) (g_threw : Int32) (g_whereThrown : Int32) (g_value : Value) (g_means : Value) (g_laneOf : Value) (g_sizeOf : Value) (g_cells : Value) (g_copied : Value) (g_state : Int64) (g_joinedLow : Int64) (g_joinedHigh : Int64) (g_keptLow : Value) (g_keptHigh : Value) (gc_placeLow : Nat → Int64) (gc_placeHigh : Nat → Int64) (ia : Int32) (pa : Int32) (loa : Int64) (hia : Int64) (sz : Nat) (q_g_hasRun : kZ g_hasRun) (hy_ia : 0 ≤ ia.toInt ∧ ia.toInt ≤ 79) (hy_pa : 0 ≤ pa.toInt ∧ pa.toInt ≤ 11) : Met l yX5_joinPlace v_X5_joinPlace ({ frames := 0, cells := 0, slots := 0, locals := 0 }) (va_Pc [.ref gh, .int ia, .int pa, .long loa, .long hia] (cPre dC dI cI cJ cZ sz (sw_X5_joinPlace cI cJ cZ gh g_acts g_kind g_na g_nb g_nc g_nd g_ne g_dropped g_live g_low g_high g_sites g_nulls g_there g_lanes g_least g_most ga_placeLow ga_placeHigh g_reached g_mayThrow g_status g_hasRun g_threw g_whereThrown g_value g_means g_laneOf g_sizeOf g_cells g_copied g_state g_joinedLow g_joinedHigh g_keptLow g_keptHigh gc_placeLow gc_placeHigh ia pa loa hia))) (va_Qv (fun (u : (Nat → Int64) × (Nat → Int64)) => True) (fun (u : (Nat → Int64) × (Nat → Int64)) => cPost dC dI cI cJ cZ (va_A (sw_X5_joinPlace cI cJ cZ gh g_acts g_kind g_na g_nb g_nc g_nd g_ne g_dropped g_live g_low g_high g_sites g_nulls g_there g_lanes g_least g_most ga_placeLow ga_placeHigh g_reached g_mayThrow g_status g_hasRun g_threw g_whereThrown g_value g_means g_laneOf g_sizeOf g_cells g_copied g_state g_joinedLow g_joinedHigh g_keptLow g_keptHigh gc_placeLow gc_placeHigh ia pa loa hia) sz) [(gh, .inr (5, [.int g_acts, g_kind, g_na, g_nb, g_nc, g_nd, g_ne, g_dropped, g_live, g_low, g_high, g_sites, g_nulls, g_there, g_lanes, g_least, g_most, .ref ga_placeLow, .ref ga_placeHigh, g_reached, g_mayThrow, .int g_status, .int g_hasRun, .int g_threw, .int g_whereThrown, g_value, g_means, g_laneOf, g_sizeOf, g_cells, g_copied, .long g_state, .long g_joinedLow, .long g_joinedHigh, g_keptLow, g_keptHigh])), (ga_placeLow, .inl (cJ, 960, .inr (.inl (u.1)))), (ga_placeHigh, .inl (cJ, 960, .inr (.inl (u.2))))]) (va_A (sw_X5_joinPlace cI cJ cZ gh g_acts g_kind g_na g_nb g_nc g_nd g_ne g_dropped g_live g_low g_high g_sites g_nulls g_there g_lanes g_least g_most ga_placeLow ga_placeHigh g_reached g_mayThrow g_status g_hasRun g_threw g_whereThrown g_value g_means g_laneOf g_sizeOf g_cells g_copied g_state g_joinedLow g_joinedHigh g_keptLow g_keptHigh gc_placeLow gc_placeHigh ia pa loa hia) sz)) 0 0 (va_A (sw_X5_joinPlace cI cJ cZ gh g_acts g_kind g_na g_nb g_nc g_nd g_ne g_dropped g_live g_low g_high g_sites g_nulls g_there g_lanes g_least g_most ga_placeLow ga_placeHigh g_reached g_mayThrow g_status g_hasRun g_threw g_whereThrown g_value g_means g_laneOf g_sizeOf g_cells g_copied g_state g_joinedLow g_joinedHigh g_keptLow g_keptHigh gc_placeLow gc_placeHigh ia pa loa hia) sz) := by
  refine Met.ofW (cc := cX5_joinPlace) (maxL := 8) (ret := none) (by decide) rfl ?_
  intro p e s m args below meth c s₁ B hml hv
  obtain ⟨rfl, hsz, hP, hK, hD0, hN⟩ := hv
  have hx := B.exec
  have hb := B.bytes
  have hr := B.returns
  have hts := atoms_spec (ws := v_X5_joinPlace) B.pre
  have hown : s.vm.findClass RX5 = some m.cls := findClass_of_methodNamed B.named
  have hlocks := B.notSynchronized
  subst hsz
  have hD := hD0.self (sz := s.heap.size)
  generalize hAe : va_A (sw_X5_joinPlace cI cJ cZ gh g_acts g_kind g_na g_nb g_nc g_nd g_ne g_dropped g_live g_low g_high g_sites g_nulls g_there g_lanes g_least g_most ga_placeLow ga_placeHigh g_reached g_mayThrow g_status g_hasRun g_threw g_whereThrown g_value g_means g_laneOf g_sizeOf g_cells g_copied g_state g_joinedLow g_joinedHigh g_keptLow g_keptHigh gc_placeLow gc_placeHigh ia pa loa hia) s.heap.size = A at hD ⊢
  have hA : ∀ q : Nat, s.heap.size ≤ q → A q := fun q h => by rw [← hAe]; exact Or.inr h
  clear hAe hD0
  have hS : va_S A s.heap s.heap [] := va_S.rf
  replace hP : va_P (dC, dI) vwCl [(gh, .inr (5, [.int g_acts, g_kind, g_na, g_nb, g_nc, g_nd, g_ne, g_dropped, g_live, g_low, g_high, g_sites, g_nulls, g_there, g_lanes, g_least, g_most, .ref ga_placeLow, .ref ga_placeHigh, g_reached, g_mayThrow, .int g_status, .int g_hasRun, .int g_threw, .int g_whereThrown, g_value, g_means, g_laneOf, g_sizeOf, g_cells, g_copied, .long g_state, .long g_joinedLow, .long g_joinedHigh, g_keptLow, g_keptHigh])), (ga_placeLow, .inl (cJ, 960, .inr (.inl gc_placeLow))), (ga_placeHigh, .inl (cJ, 960, .inr (.inl gc_placeHigh)))] s.heap := hP
  replace hD : va_D A [(gh, .inr (5, [.int g_acts, g_kind, g_na, g_nb, g_nc, g_nd, g_ne, g_dropped, g_live, g_low, g_high, g_sites, g_nulls, g_there, g_lanes, g_least, g_most, .ref ga_placeLow, .ref ga_placeHigh, g_reached, g_mayThrow, .int g_status, .int g_hasRun, .int g_threw, .int g_whereThrown, g_value, g_means, g_laneOf, g_sizeOf, g_cells, g_copied, .long g_state, .long g_joinedLow, .long g_joinedHigh, g_keptLow, g_keptHigh])), (ga_placeLow, .inl (cJ, 960, .inr (.inl gc_placeLow))), (ga_placeHigh, .inl (cJ, 960, .inr (.inl gc_placeHigh)))] := hD
  have hl := lv_entry ([.ref gh, .int ia, .int pa, .long loa, .long hia]) (n := 8) (Nat.le_of_ble_eq_true rfl)
  rw [lg_entry_eq]
  generalize (lg_sl ([.ref gh, .int ia, .int pa, .long loa, .long hia]) ++ List.replicate (8 - (lg_sl ([.ref gh, .int ia, .int pa, .long loa, .long hia])).length) Slot.unset).toArray = ls at hl ⊢
  replace hl : lv_has ls 8 [(0, .ref gh), (1, .int ia), (2, .int pa), (3, .long loa), (5, .long hia)] := hl
  have z_0 : (0 : Int32).toInt = 0 := by decide
  have z_1 : (1 : Int32).toInt = 1 := by decide
  refine lv_bipush (v := 12) hx hb dX5_joinPlace_0 (by decide) ?_
  refine lv_iload_n hx hb dX5_joinPlace_2 rfl (lv_at hl 1 rfl) ?_
  refine sf_imul (w := 12) (z := ia.toInt) hx hb dX5_joinPlace_3 (by decide) rfl ⟨by omega, by omega⟩ (fun v_1 q_v_1 => ?_)
  refine lv_iload_n hx hb dX5_joinPlace_4 rfl (lv_at hl 2 rfl) ?_
  refine sf_iadd hx hb dX5_joinPlace_5 ⟨by omega, by omega⟩ (fun v_2 q_v_2 => ?_)
  refine lv_istore (lv' := [(7, .int v_2), (0, .ref gh), (1, .int ia), (2, .int pa), (3, .long loa), (5, .long hia)]) hx hb dX5_joinPlace_6 hl (by decide) rfl (fun ls1 hl1 => ?_)
  replace hl := hl1; clear hl1
  refine lv_aload_n hx hb dX5_joinPlace_8 rfl (lv_at hl 1 rfl) ?_
  refine va_get (D := (dC, dI)) (ci := 5) (v := .ref ga_placeLow) (C := RX5) (T := TX5) (N := 36) hx hb hts inv_X5_joinPlace_X5 hown hK hP 0 rfl rfl 17 (by decide) (hts (.fieldLink RX5 60 "ArraySegmentsModel" "placeLow" "[J") (List.mem_of_getElem? (i := 1) rfl)) (fun _ h9 => h9) rfl dX5_joinPlace_9 ?_
  refine lv_iload hx hb dX5_joinPlace_12 (lv_at hl 0 rfl) ?_
  refine lv_lload_n hx hb dX5_joinPlace_14 rfl (lv_at hl 4 rfl) ?_
  refine lv_aload_n hx hb dX5_joinPlace_15 rfl (lv_at hl 1 rfl) ?_
  refine va_get (D := (dC, dI)) (ci := 5) (v := .ref ga_placeLow) (C := RX5) (T := TX5) (N := 36) hx hb hts inv_X5_joinPlace_X5 hown hK hP 0 rfl rfl 17 (by decide) (hts (.fieldLink RX5 60 "ArraySegmentsModel" "placeLow" "[J") (List.mem_of_getElem? (i := 1) rfl)) (fun _ h9 => h9) rfl dX5_joinPlace_16 ?_
  refine lv_iload hx hb dX5_joinPlace_19 (lv_at hl 0 rfl) ?_
  refine sf_lald lT hx hb hK hP 1 1 rfl rfl (fun _ => trivial) (vp_in_iff.mpr ⟨by omega, by omega⟩) dX5_joinPlace_21 (fun v_3 q_v_3 e_v_3 => ?_)
  refine W.lcmp hx hb dX5_joinPlace_22 ?_
  refine my_join (S := Int64) (fun u => True) (fun u => [(gh, .inr (5, [.int g_acts, g_kind, g_na, g_nb, g_nc, g_nd, g_ne, g_dropped, g_live, g_low, g_high, g_sites, g_nulls, g_there, g_lanes, g_least, g_most, .ref ga_placeLow, .ref ga_placeHigh, g_reached, g_mayThrow, .int g_status, .int g_hasRun, .int g_threw, .int g_whereThrown, g_value, g_means, g_laneOf, g_sizeOf, g_cells, g_copied, .long g_state, .long g_joinedLow, .long g_joinedHigh, g_keptLow, g_keptHigh])), (ga_placeLow, .inl (cJ, 960, .inr (.inl gc_placeLow))), (ga_placeHigh, .inl (cJ, 960, .inr (.inl gc_placeHigh)))]) (fun u => [(7, .int v_2), (0, .ref gh), (1, .int ia), (2, .int pa), (3, .long loa), (5, .long hia)]) (fun u => [.long (u), .int v_2, .ref ga_placeLow]) (nL := 8) (H0 := s.heap) (A := A) (D := (dC, dI)) (cl := vwCl) 37 (fun u_5 hu_5 H_5 locs_5 ls1 hP1 hD1 hS1 hl1 => ?_) (fun jn_5 => ?_)
  · -- behind 37
    obtain ⟨v_6, rfl⟩ : ∃ z, z = u_5 := ⟨_, rfl⟩
    replace hP : va_P (dC, dI) vwCl [(gh, .inr (5, [.int g_acts, g_kind, g_na, g_nb, g_nc, g_nd, g_ne, g_dropped, g_live, g_low, g_high, g_sites, g_nulls, g_there, g_lanes, g_least, g_most, .ref ga_placeLow, .ref ga_placeHigh, g_reached, g_mayThrow, .int g_status, .int g_hasRun, .int g_threw, .int g_whereThrown, g_value, g_means, g_laneOf, g_sizeOf, g_cells, g_copied, .long g_state, .long g_joinedLow, .long g_joinedHigh, g_keptLow, g_keptHigh])), (ga_placeLow, .inl (cJ, 960, .inr (.inl gc_placeLow))), (ga_placeHigh, .inl (cJ, 960, .inr (.inl gc_placeHigh)))] H_5 := hP1
    replace hD : va_D A [(gh, .inr (5, [.int g_acts, g_kind, g_na, g_nb, g_nc, g_nd, g_ne, g_dropped, g_live, g_low, g_high, g_sites, g_nulls, g_there, g_lanes, g_least, g_most, .ref ga_placeLow, .ref ga_placeHigh, g_reached, g_mayThrow, .int g_status, .int g_hasRun, .int g_threw, .int g_whereThrown, g_value, g_means, g_laneOf, g_sizeOf, g_cells, g_copied, .long g_state, .long g_joinedLow, .long g_joinedHigh, g_keptLow, g_keptHigh])), (ga_placeLow, .inl (cJ, 960, .inr (.inl gc_placeLow))), (ga_placeHigh, .inl (cJ, 960, .inr (.inl gc_placeHigh)))] := hD1
    replace hS := hS1
    clear hP1 hD1 hS1
    replace hl : lv_has ls1 8 [(7, .int v_2), (0, .ref gh), (1, .int ia), (2, .int pa), (3, .long loa), (5, .long hia)] := hl1
    clear hl1
    refine sf_last lT hx hb hK hP hD hS 1 1 rfl rfl (fun _ => trivial) trivial (vp_in_iff.mpr ⟨by omega, by omega⟩) dX5_joinPlace_37 (fun f_7 h_f_7 e_f_7 H_8 locs_8 hP1 hD1 hS1 => ?_)
    replace hP : va_P (dC, dI) vwCl [(gh, .inr (5, [.int g_acts, g_kind, g_na, g_nb, g_nc, g_nd, g_ne, g_dropped, g_live, g_low, g_high, g_sites, g_nulls, g_there, g_lanes, g_least, g_most, .ref ga_placeLow, .ref ga_placeHigh, g_reached, g_mayThrow, .int g_status, .int g_hasRun, .int g_threw, .int g_whereThrown, g_value, g_means, g_laneOf, g_sizeOf, g_cells, g_copied, .long g_state, .long g_joinedLow, .long g_joinedHigh, g_keptLow, g_keptHigh])), (ga_placeLow, .inl (cJ, 960, .inr (.inl f_7))), (ga_placeHigh, .inl (cJ, 960, .inr (.inl gc_placeHigh)))] H_8 := hP1
    replace hD : va_D A [(gh, .inr (5, [.int g_acts, g_kind, g_na, g_nb, g_nc, g_nd, g_ne, g_dropped, g_live, g_low, g_high, g_sites, g_nulls, g_there, g_lanes, g_least, g_most, .ref ga_placeLow, .ref ga_placeHigh, g_reached, g_mayThrow, .int g_status, .int g_hasRun, .int g_threw, .int g_whereThrown, g_value, g_means, g_laneOf, g_sizeOf, g_cells, g_copied, .long g_state, .long g_joinedLow, .long g_joinedHigh, g_keptLow, g_keptHigh])), (ga_placeLow, .inl (cJ, 960, .inr (.inl f_7))), (ga_placeHigh, .inl (cJ, 960, .inr (.inl gc_placeHigh)))] := hD1
    replace hS := hS1
    clear hP1 hD1 hS1
    refine lv_aload_n hx hb dX5_joinPlace_38 rfl (lv_at hl 1 rfl) ?_
    refine va_get (D := (dC, dI)) (ci := 5) (v := .ref ga_placeHigh) (C := RX5) (T := TX5) (N := 36) hx hb hts inv_X5_joinPlace_X5 hown hK hP 0 rfl rfl 18 (by decide) (hts (.fieldLink RX5 63 "ArraySegmentsModel" "placeHigh" "[J") (List.mem_of_getElem? (i := 2) rfl)) (fun _ h9 => h9) rfl dX5_joinPlace_39 ?_
    refine lv_iload hx hb dX5_joinPlace_42 (lv_at hl 0 rfl) ?_
    refine lv_lload hx hb dX5_joinPlace_44 (lv_at hl 5 rfl) ?_
    refine lv_aload_n hx hb dX5_joinPlace_46 rfl (lv_at hl 1 rfl) ?_
    refine va_get (D := (dC, dI)) (ci := 5) (v := .ref ga_placeHigh) (C := RX5) (T := TX5) (N := 36) hx hb hts inv_X5_joinPlace_X5 hown hK hP 0 rfl rfl 18 (by decide) (hts (.fieldLink RX5 63 "ArraySegmentsModel" "placeHigh" "[J") (List.mem_of_getElem? (i := 2) rfl)) (fun _ h9 => h9) rfl dX5_joinPlace_47 ?_
    refine lv_iload hx hb dX5_joinPlace_50 (lv_at hl 0 rfl) ?_
    refine sf_lald lT hx hb hK hP 2 1 rfl rfl (fun _ => trivial) (vp_in_iff.mpr ⟨by omega, by omega⟩) dX5_joinPlace_52 (fun v_9 q_v_9 e_v_9 => ?_)
    refine W.lcmp hx hb dX5_joinPlace_53 ?_
    refine my_join (S := Int64) (fun u => True) (fun u => [(gh, .inr (5, [.int g_acts, g_kind, g_na, g_nb, g_nc, g_nd, g_ne, g_dropped, g_live, g_low, g_high, g_sites, g_nulls, g_there, g_lanes, g_least, g_most, .ref ga_placeLow, .ref ga_placeHigh, g_reached, g_mayThrow, .int g_status, .int g_hasRun, .int g_threw, .int g_whereThrown, g_value, g_means, g_laneOf, g_sizeOf, g_cells, g_copied, .long g_state, .long g_joinedLow, .long g_joinedHigh, g_keptLow, g_keptHigh])), (ga_placeLow, .inl (cJ, 960, .inr (.inl f_7))), (ga_placeHigh, .inl (cJ, 960, .inr (.inl gc_placeHigh)))]) (fun u => [(7, .int v_2), (0, .ref gh), (1, .int ia), (2, .int pa), (3, .long loa), (5, .long hia)]) (fun u => [.long (u), .int v_2, .ref ga_placeHigh]) (nL := 8) (H0 := s.heap) (A := A) (D := (dC, dI)) (cl := vwCl) 69 (fun u_11 hu_11 H_11 locs_11 ls1 hP1 hD1 hS1 hl1 => ?_) (fun jn_11 => ?_)
    · -- behind 69
      obtain ⟨v_12, rfl⟩ : ∃ z, z = u_11 := ⟨_, rfl⟩
      replace hP : va_P (dC, dI) vwCl [(gh, .inr (5, [.int g_acts, g_kind, g_na, g_nb, g_nc, g_nd, g_ne, g_dropped, g_live, g_low, g_high, g_sites, g_nulls, g_there, g_lanes, g_least, g_most, .ref ga_placeLow, .ref ga_placeHigh, g_reached, g_mayThrow, .int g_status, .int g_hasRun, .int g_threw, .int g_whereThrown, g_value, g_means, g_laneOf, g_sizeOf, g_cells, g_copied, .long g_state, .long g_joinedLow, .long g_joinedHigh, g_keptLow, g_keptHigh])), (ga_placeLow, .inl (cJ, 960, .inr (.inl f_7))), (ga_placeHigh, .inl (cJ, 960, .inr (.inl gc_placeHigh)))] H_11 := hP1
      replace hD : va_D A [(gh, .inr (5, [.int g_acts, g_kind, g_na, g_nb, g_nc, g_nd, g_ne, g_dropped, g_live, g_low, g_high, g_sites, g_nulls, g_there, g_lanes, g_least, g_most, .ref ga_placeLow, .ref ga_placeHigh, g_reached, g_mayThrow, .int g_status, .int g_hasRun, .int g_threw, .int g_whereThrown, g_value, g_means, g_laneOf, g_sizeOf, g_cells, g_copied, .long g_state, .long g_joinedLow, .long g_joinedHigh, g_keptLow, g_keptHigh])), (ga_placeLow, .inl (cJ, 960, .inr (.inl f_7))), (ga_placeHigh, .inl (cJ, 960, .inr (.inl gc_placeHigh)))] := hD1
      replace hS := hS1
      clear hP1 hD1 hS1
      replace hl : lv_has ls1 8 [(7, .int v_2), (0, .ref gh), (1, .int ia), (2, .int pa), (3, .long loa), (5, .long hia)] := hl1
      clear hl1
      refine sf_last lT hx hb hK hP hD hS 2 1 rfl rfl (fun _ => trivial) trivial (vp_in_iff.mpr ⟨by omega, by omega⟩) dX5_joinPlace_69 (fun f_13 h_f_13 e_f_13 H_14 locs_14 hP1 hD1 hS1 => ?_)
      replace hP : va_P (dC, dI) vwCl [(gh, .inr (5, [.int g_acts, g_kind, g_na, g_nb, g_nc, g_nd, g_ne, g_dropped, g_live, g_low, g_high, g_sites, g_nulls, g_there, g_lanes, g_least, g_most, .ref ga_placeLow, .ref ga_placeHigh, g_reached, g_mayThrow, .int g_status, .int g_hasRun, .int g_threw, .int g_whereThrown, g_value, g_means, g_laneOf, g_sizeOf, g_cells, g_copied, .long g_state, .long g_joinedLow, .long g_joinedHigh, g_keptLow, g_keptHigh])), (ga_placeLow, .inl (cJ, 960, .inr (.inl f_7))), (ga_placeHigh, .inl (cJ, 960, .inr (.inl f_13)))] H_14 := hP1
      replace hD : va_D A [(gh, .inr (5, [.int g_acts, g_kind, g_na, g_nb, g_nc, g_nd, g_ne, g_dropped, g_live, g_low, g_high, g_sites, g_nulls, g_there, g_lanes, g_least, g_most, .ref ga_placeLow, .ref ga_placeHigh, g_reached, g_mayThrow, .int g_status, .int g_hasRun, .int g_threw, .int g_whereThrown, g_value, g_means, g_laneOf, g_sizeOf, g_cells, g_copied, .long g_state, .long g_joinedLow, .long g_joinedHigh, g_keptLow, g_keptHigh])), (ga_placeLow, .inl (cJ, 960, .inr (.inl f_7))), (ga_placeHigh, .inl (cJ, 960, .inr (.inl f_13)))] := hD1
      replace hS := hS1
      clear hP1 hD1 hS1
      have hP9 := hP.sub (ws' := [(gh, .inr (5, [.int g_acts, g_kind, g_na, g_nb, g_nc, g_nd, g_ne, g_dropped, g_live, g_low, g_high, g_sites, g_nulls, g_there, g_lanes, g_least, g_most, .ref ga_placeLow, .ref ga_placeHigh, g_reached, g_mayThrow, .int g_status, .int g_hasRun, .int g_threw, .int g_whereThrown, g_value, g_means, g_laneOf, g_sizeOf, g_cells, g_copied, .long g_state, .long g_joinedLow, .long g_joinedHigh, g_keptLow, g_keptHigh])), (ga_placeLow, .inl (cJ, 960, .inr (.inl f_7))), (ga_placeHigh, .inl (cJ, 960, .inr (.inl f_13)))]) [0, 1, 2] rfl
      have hD9 := hD.sub (ws' := [(gh, .inr (5, [.int g_acts, g_kind, g_na, g_nb, g_nc, g_nd, g_ne, g_dropped, g_live, g_low, g_high, g_sites, g_nulls, g_there, g_lanes, g_least, g_most, .ref ga_placeLow, .ref ga_placeHigh, g_reached, g_mayThrow, .int g_status, .int g_hasRun, .int g_threw, .int g_whereThrown, g_value, g_means, g_laneOf, g_sizeOf, g_cells, g_copied, .long g_state, .long g_joinedLow, .long g_joinedHigh, g_keptLow, g_keptHigh])), (ga_placeLow, .inl (cJ, 960, .inr (.inl f_7))), (ga_placeHigh, .inl (cJ, 960, .inr (.inl f_13)))]) [0, 1, 2] (by decide) rfl
      exact W.vret hx hb hr (fun t ht hW => ⟨⟨(f_7, f_13), rfl, trivial, by rw [ht]; exact hP9, va_K.moved hW.alike hK, hD9⟩, hS.F ht⟩) hS.2.2 dX5_joinPlace_70
    · -- ahead of 69
      refine lv_if_le (tgt := 62) hx hb dX5_joinPlace_54 (by decide) (fun c_15 => ?_) (fun c_15 => ?_)
      · -- yes
        have k_15 : hia.toInt ≤ v_9.toInt := lc_le c_15
        refine lv_aload_n hx hb dX5_joinPlace_62 rfl (lv_at hl 1 rfl) ?_
        refine va_get (D := (dC, dI)) (ci := 5) (v := .ref ga_placeHigh) (C := RX5) (T := TX5) (N := 36) hx hb hts inv_X5_joinPlace_X5 hown hK hP 0 rfl rfl 18 (by decide) (hts (.fieldLink RX5 63 "ArraySegmentsModel" "placeHigh" "[J") (List.mem_of_getElem? (i := 2) rfl)) (fun _ h9 => h9) rfl dX5_joinPlace_63 ?_
        refine lv_iload hx hb dX5_joinPlace_66 (lv_at hl 0 rfl) ?_
        refine sf_lald lT hx hb hK hP 2 1 rfl rfl (fun _ => trivial) (vp_in_iff.mpr ⟨by omega, by omega⟩) dX5_joinPlace_68 (fun v_16 q_v_16 e_v_16 => ?_)
        exact jn_11 v_16 (show True from trivial) _ _ _ (hP.sub [0, 1, 2] rfl) (hD.sub [0, 1, 2] (by decide) rfl) hS (lv_sub hl [0, 1, 2, 3, 4, 5] rfl)
      · -- no
        have k_15 : v_9.toInt < hia.toInt := lc_nle c_15
        refine lv_lload hx hb dX5_joinPlace_57 (lv_at hl 5 rfl) ?_
        refine lv_goto (tgt := 69) hx hb dX5_joinPlace_59 (by decide) ?_
        exact jn_11 hia (show True from trivial) _ _ _ (hP.sub [0, 1, 2] rfl) (hD.sub [0, 1, 2] (by decide) rfl) hS (lv_sub hl [0, 1, 2, 3, 4, 5] rfl)
  · -- ahead of 37
    refine lv_if_ge (tgt := 30) hx hb dX5_joinPlace_23 (by decide) (fun c_17 => ?_) (fun c_17 => ?_)
    · -- yes
      have k_17 : v_3.toInt ≤ loa.toInt := lc_ge c_17
      refine lv_aload_n hx hb dX5_joinPlace_30 rfl (lv_at hl 1 rfl) ?_
      refine va_get (D := (dC, dI)) (ci := 5) (v := .ref ga_placeLow) (C := RX5) (T := TX5) (N := 36) hx hb hts inv_X5_joinPlace_X5 hown hK hP 0 rfl rfl 17 (by decide) (hts (.fieldLink RX5 60 "ArraySegmentsModel" "placeLow" "[J") (List.mem_of_getElem? (i := 1) rfl)) (fun _ h9 => h9) rfl dX5_joinPlace_31 ?_
      refine lv_iload hx hb dX5_joinPlace_34 (lv_at hl 0 rfl) ?_
      refine sf_lald lT hx hb hK hP 1 1 rfl rfl (fun _ => trivial) (vp_in_iff.mpr ⟨by omega, by omega⟩) dX5_joinPlace_36 (fun v_18 q_v_18 e_v_18 => ?_)
      exact jn_5 v_18 (show True from trivial) _ _ _ (hP.sub [0, 1, 2] rfl) (hD.sub [0, 1, 2] (by decide) rfl) hS (lv_sub hl [0, 1, 2, 3, 4, 5] rfl)
    · -- no
      have k_17 : loa.toInt < v_3.toInt := lc_nge c_17
      refine lv_lload_n hx hb dX5_joinPlace_26 rfl (lv_at hl 4 rfl) ?_
      refine lv_goto (tgt := 37) hx hb dX5_joinPlace_27 (by decide) ?_
      exact jn_5 loa (show True from trivial) _ _ _ (hP.sub [0, 1, 2] rfl) (hD.sub [0, 1, 2] (by decide) rfl) hS (lv_sub hl [0, 1, 2, 3, 4, 5] rfl)

def v_X5_joinSite : List Cond := .code yX5_joinSite cX5_joinSite 4 none :: ([.fieldLink RX5 48 "ArraySegmentsModel" "there" "[Z", .fieldLink RX5 51 "ArraySegmentsModel" "lanes" "[I", .fieldLink RX5 54 "ArraySegmentsModel" "least" "[J", .fieldLink RX5 57 "ArraySegmentsModel" "most" "[J", .fieldLink RX5 60 "ArraySegmentsModel" "placeLow" "[J", .fieldLink RX5 63 "ArraySegmentsModel" "placeHigh" "[J", .methodLink RX5 150 yX5_joinPlace, .instanceMethod yX5_joinPlace, .selects RX5 yX5_joinPlace yX5_joinPlace, .initialized RX5, .methodLink RX5 146 yX5_copySite, .instanceMethod yX5_copySite, .selects RX5 yX5_copySite yX5_copySite] ++ (wsX50 ++ (v_X5_joinPlace ++ (v_X5_copySite))))
theorem inv_X5_joinSite_X5 : ∀ w ∈ wsX50, w ∈ v_X5_joinSite := fun _ h => List.mem_cons_of_mem _ (List.mem_append_right _ (List.mem_append_left _ h))
theorem im_X5_joinSite_X5_joinPlace : ∀ w ∈ v_X5_joinPlace, w ∈ v_X5_joinSite := fun _ h => List.mem_cons_of_mem _ (List.mem_append_right _ (List.mem_append_right _ (List.mem_append_left _ h)))
theorem im_X5_joinSite_X5_copySite : ∀ w ∈ v_X5_copySite, w ∈ v_X5_joinSite := fun _ h => List.mem_cons_of_mem _ (List.mem_append_right _ (List.mem_append_right _ (List.mem_append_right _ (h))))
set_option maxRecDepth 20000 in
theorem gd_X5_joinSite : gdL v_X5_joinSite := gdC (gdW (by decide +kernel)) (gdA (gdW (by decide +kernel)) (gdA gd_wsX50 (gdA gd_X5_joinPlace gd_X5_copySite)))
set_option maxRecDepth 20000 in
theorem h_X5_joinSite_X5_joinPlace_150 : GoodIn v_X5_joinSite (wsV RX5 150 RX5 yX5_joinPlace v_X5_joinPlace) := gdI [7, 8, 9, 10] rfl (by decide +kernel) (im_X5_joinSite_X5_joinPlace) gd_X5_joinPlace
set_option maxRecDepth 20000 in
theorem h_X5_joinSite_X5_copySite_146 : GoodIn v_X5_joinSite (wsV RX5 146 RX5 yX5_copySite v_X5_copySite) := gdI [11, 12, 13, 10] rfl (by decide +kernel) (im_X5_joinSite_X5_copySite) gd_X5_copySite
abbrev sw_X5_joinSite (cI cJ cZ : ClassId) (gh : Nat) (g_acts : Int32) (g_kind : Value) (g_na : Value) (g_nb : Value) (g_nc : Value) (g_nd : Value) (g_ne : Value) (g_dropped : Value) (g_live : Value) (g_low : Value) (g_high : Value) (g_sites : Value) (g_nulls : Value) (ga_there : Nat) (ga_lanes : Nat) (ga_least : Nat) (ga_most : Nat) (ga_placeLow : Nat) (ga_placeHigh : Nat) (g_reached : Value) (g_mayThrow : Value) (g_status : Int32) (g_hasRun : Int32) (g_threw : Int32) (g_whereThrown : Int32) (g_value : Value) (g_means : Value) (g_laneOf : Value) (g_sizeOf : Value) (g_cells : Value) (g_copied : Value) (g_state : Int64) (g_joinedLow : Int64) (g_joinedHigh : Int64) (g_keptLow : Value) (g_keptHigh : Value) (gc_there : Nat → Int32) (gc_lanes : Nat → Int32) (gc_least : Nat → Int64) (gc_most : Nat → Int64) (gc_placeLow : Nat → Int64) (gc_placeHigh : Nat → Int64) (aa : Int32) (ba : Int32) : va_W := [(gh, .inr (5, [.int g_acts, g_kind, g_na, g_nb, g_nc, g_nd, g_ne, g_dropped, g_live, g_low, g_high, g_sites, g_nulls, .ref ga_there, .ref ga_lanes, .ref ga_least, .ref ga_most, .ref ga_placeLow, .ref ga_placeHigh, g_reached, g_mayThrow, .int g_status, .int g_hasRun, .int g_threw, .int g_whereThrown, g_value, g_means, g_laneOf, g_sizeOf, g_cells, g_copied, .long g_state, .long g_joinedLow, .long g_joinedHigh, g_keptLow, g_keptHigh])), (ga_there, .inl (cZ, 80, .inl gc_there)), (ga_lanes, .inl (cI, 80, .inl gc_lanes)), (ga_least, .inl (cJ, 80, .inr (.inl gc_least))), (ga_most, .inl (cJ, 80, .inr (.inl gc_most))), (ga_placeLow, .inl (cJ, 960, .inr (.inl gc_placeLow))), (ga_placeHigh, .inl (cJ, 960, .inr (.inl gc_placeHigh)))]
set_option maxHeartbeats 8000000 in
set_option maxRecDepth 100000 in
theorem s_X5_joinSite (l : Launch) (dC : Nat → ClassId) (dI : Nat → Nat → Nat) (cI cJ cZ : ClassId) (gh : Nat) (g_acts : Int32) (g_kind : Value) (g_na : Value) (g_nb : Value) (g_nc : Value) (g_nd : Value) (g_ne : Value) (g_dropped : Value) (g_live : Value) (g_low : Value) (g_high : Value) (g_sites : Value) (g_nulls : Value) (ga_there : Nat) (ga_lanes : Nat) (ga_least : Nat) (ga_most : Nat) (ga_placeLow : Nat) (ga_placeHigh : Nat) (g_reached : Value) (g_mayThrow : Value) (g_status : Int32) (g_hasRun : Int32) (g_threw : Int32) (g_whereThrown : Int32) (g_value : Value) (g_means : Value) (g_laneOf : Value) (g_sizeOf : Value) (g_cells : Value) (g_copied : Value) (g_state : Int64) (g_joinedLow : Int64) (g_joinedHigh : Int64) (g_keptLow : Value) (g_keptHigh : Value) (gc_there : Nat → Int32) (gc_lanes : Nat → Int32) (gc_least : Nat → Int64) (gc_most : Nat → Int64) (gc_placeLow : Nat → Int64) (gc_placeHigh : Nat → Int64) (aa : Int32) (ba : Int32) (sz : Nat) (q_g_hasRun : kZ g_hasRun) (h_gc_there : ∀ j : Nat, kZ (gc_there j)) (h_gc_most : ∀ j : Nat, l12 (gc_most j)) (hy_aa : 0 ≤ aa.toInt ∧ aa.toInt ≤ 79) (hy_ba : 0 ≤ ba.toInt ∧ ba.toInt ≤ 79) : Met l yX5_joinSite v_X5_joinSite ({ frames := 1, cells := 0, slots := 0, locals := 27 }) (va_Pc [.ref gh, .int aa, .int ba] (cPre dC dI cI cJ cZ sz (sw_X5_joinSite cI cJ cZ gh g_acts g_kind g_na g_nb g_nc g_nd g_ne g_dropped g_live g_low g_high g_sites g_nulls ga_there ga_lanes ga_least ga_most ga_placeLow ga_placeHigh g_reached g_mayThrow g_status g_hasRun g_threw g_whereThrown g_value g_means g_laneOf g_sizeOf g_cells g_copied g_state g_joinedLow g_joinedHigh g_keptLow g_keptHigh gc_there gc_lanes gc_least gc_most gc_placeLow gc_placeHigh aa ba))) (va_Qv (fun (u : (Nat → Int32) × (Nat → Int32) × (Nat → Int64) × (Nat → Int64) × (Nat → Int64) × (Nat → Int64)) => (∀ j : Nat, kZ ((u.1) j)) ∧ (∀ j : Nat, l12 ((u.2.2.2.1) j))) (fun (u : (Nat → Int32) × (Nat → Int32) × (Nat → Int64) × (Nat → Int64) × (Nat → Int64) × (Nat → Int64)) => cPost dC dI cI cJ cZ (va_A (sw_X5_joinSite cI cJ cZ gh g_acts g_kind g_na g_nb g_nc g_nd g_ne g_dropped g_live g_low g_high g_sites g_nulls ga_there ga_lanes ga_least ga_most ga_placeLow ga_placeHigh g_reached g_mayThrow g_status g_hasRun g_threw g_whereThrown g_value g_means g_laneOf g_sizeOf g_cells g_copied g_state g_joinedLow g_joinedHigh g_keptLow g_keptHigh gc_there gc_lanes gc_least gc_most gc_placeLow gc_placeHigh aa ba) sz) [(gh, .inr (5, [.int g_acts, g_kind, g_na, g_nb, g_nc, g_nd, g_ne, g_dropped, g_live, g_low, g_high, g_sites, g_nulls, .ref ga_there, .ref ga_lanes, .ref ga_least, .ref ga_most, .ref ga_placeLow, .ref ga_placeHigh, g_reached, g_mayThrow, .int g_status, .int g_hasRun, .int g_threw, .int g_whereThrown, g_value, g_means, g_laneOf, g_sizeOf, g_cells, g_copied, .long g_state, .long g_joinedLow, .long g_joinedHigh, g_keptLow, g_keptHigh])), (ga_there, .inl (cZ, 80, .inl (u.1))), (ga_lanes, .inl (cI, 80, .inl (u.2.1))), (ga_least, .inl (cJ, 80, .inr (.inl (u.2.2.1)))), (ga_most, .inl (cJ, 80, .inr (.inl (u.2.2.2.1)))), (ga_placeLow, .inl (cJ, 960, .inr (.inl (u.2.2.2.2.1)))), (ga_placeHigh, .inl (cJ, 960, .inr (.inl (u.2.2.2.2.2))))]) (va_A (sw_X5_joinSite cI cJ cZ gh g_acts g_kind g_na g_nb g_nc g_nd g_ne g_dropped g_live g_low g_high g_sites g_nulls ga_there ga_lanes ga_least ga_most ga_placeLow ga_placeHigh g_reached g_mayThrow g_status g_hasRun g_threw g_whereThrown g_value g_means g_laneOf g_sizeOf g_cells g_copied g_state g_joinedLow g_joinedHigh g_keptLow g_keptHigh gc_there gc_lanes gc_least gc_most gc_placeLow gc_placeHigh aa ba) sz)) 0 0 (va_A (sw_X5_joinSite cI cJ cZ gh g_acts g_kind g_na g_nb g_nc g_nd g_ne g_dropped g_live g_low g_high g_sites g_nulls ga_there ga_lanes ga_least ga_most ga_placeLow ga_placeHigh g_reached g_mayThrow g_status g_hasRun g_threw g_whereThrown g_value g_means g_laneOf g_sizeOf g_cells g_copied g_state g_joinedLow g_joinedHigh g_keptLow g_keptHigh gc_there gc_lanes gc_least gc_most gc_placeLow gc_placeHigh aa ba) sz) := by
  refine Met.ofW (cc := cX5_joinSite) (maxL := 4) (ret := none) (by decide) rfl ?_
  intro p e s m args below meth c s₁ B hml hv
  obtain ⟨rfl, hsz, hP, hK, hD0, hN⟩ := hv
  have hx := B.exec
  have hb := B.bytes
  have hr := B.returns
  have hts := atoms_spec (ws := v_X5_joinSite) B.pre
  have hown : s.vm.findClass RX5 = some m.cls := findClass_of_methodNamed B.named
  have hlocks := B.notSynchronized
  subst hsz
  have hD := hD0.self (sz := s.heap.size)
  generalize hAe : va_A (sw_X5_joinSite cI cJ cZ gh g_acts g_kind g_na g_nb g_nc g_nd g_ne g_dropped g_live g_low g_high g_sites g_nulls ga_there ga_lanes ga_least ga_most ga_placeLow ga_placeHigh g_reached g_mayThrow g_status g_hasRun g_threw g_whereThrown g_value g_means g_laneOf g_sizeOf g_cells g_copied g_state g_joinedLow g_joinedHigh g_keptLow g_keptHigh gc_there gc_lanes gc_least gc_most gc_placeLow gc_placeHigh aa ba) s.heap.size = A at hD ⊢
  have hA : ∀ q : Nat, s.heap.size ≤ q → A q := fun q h => by rw [← hAe]; exact Or.inr h
  clear hAe hD0
  have hS : va_S A s.heap s.heap [] := va_S.rf
  replace hP : va_P (dC, dI) vwCl [(gh, .inr (5, [.int g_acts, g_kind, g_na, g_nb, g_nc, g_nd, g_ne, g_dropped, g_live, g_low, g_high, g_sites, g_nulls, .ref ga_there, .ref ga_lanes, .ref ga_least, .ref ga_most, .ref ga_placeLow, .ref ga_placeHigh, g_reached, g_mayThrow, .int g_status, .int g_hasRun, .int g_threw, .int g_whereThrown, g_value, g_means, g_laneOf, g_sizeOf, g_cells, g_copied, .long g_state, .long g_joinedLow, .long g_joinedHigh, g_keptLow, g_keptHigh])), (ga_there, .inl (cZ, 80, .inl gc_there)), (ga_lanes, .inl (cI, 80, .inl gc_lanes)), (ga_least, .inl (cJ, 80, .inr (.inl gc_least))), (ga_most, .inl (cJ, 80, .inr (.inl gc_most))), (ga_placeLow, .inl (cJ, 960, .inr (.inl gc_placeLow))), (ga_placeHigh, .inl (cJ, 960, .inr (.inl gc_placeHigh)))] s.heap := hP
  replace hD : va_D A [(gh, .inr (5, [.int g_acts, g_kind, g_na, g_nb, g_nc, g_nd, g_ne, g_dropped, g_live, g_low, g_high, g_sites, g_nulls, .ref ga_there, .ref ga_lanes, .ref ga_least, .ref ga_most, .ref ga_placeLow, .ref ga_placeHigh, g_reached, g_mayThrow, .int g_status, .int g_hasRun, .int g_threw, .int g_whereThrown, g_value, g_means, g_laneOf, g_sizeOf, g_cells, g_copied, .long g_state, .long g_joinedLow, .long g_joinedHigh, g_keptLow, g_keptHigh])), (ga_there, .inl (cZ, 80, .inl gc_there)), (ga_lanes, .inl (cI, 80, .inl gc_lanes)), (ga_least, .inl (cJ, 80, .inr (.inl gc_least))), (ga_most, .inl (cJ, 80, .inr (.inl gc_most))), (ga_placeLow, .inl (cJ, 960, .inr (.inl gc_placeLow))), (ga_placeHigh, .inl (cJ, 960, .inr (.inl gc_placeHigh)))] := hD
  have hl := lv_entry ([.ref gh, .int aa, .int ba]) (n := 4) (Nat.le_of_ble_eq_true rfl)
  rw [lg_entry_eq]
  generalize (lg_sl ([.ref gh, .int aa, .int ba]) ++ List.replicate (4 - (lg_sl ([.ref gh, .int aa, .int ba])).length) Slot.unset).toArray = ls at hl ⊢
  replace hl : lv_has ls 4 [(0, .ref gh), (1, .int aa), (2, .int ba)] := hl
  have z_0 : (0 : Int32).toInt = 0 := by decide
  have z_1 : (1 : Int32).toInt = 1 := by decide
  have z_12 : (12 : Int32).toInt = 12 := by decide
  refine lv_aload_n hx hb dX5_joinSite_0 rfl (lv_at hl 0 rfl) ?_
  refine va_get (D := (dC, dI)) (ci := 5) (v := .ref ga_there) (C := RX5) (T := TX5) (N := 36) hx hb hts inv_X5_joinSite_X5 hown hK hP 0 rfl rfl 13 (by decide) (hts (.fieldLink RX5 48 "ArraySegmentsModel" "there" "[Z") (List.mem_of_getElem? (i := 1) rfl)) (fun _ h9 => h9) rfl dX5_joinSite_1 ?_
  refine lv_iload_n hx hb dX5_joinSite_4 rfl (lv_at hl 1 rfl) ?_
  refine sf_zald kZ hx hb hK hP 1 2 rfl rfl h_gc_there (vp_in_iff.mpr ⟨by omega, by omega⟩) dX5_joinSite_5 (fun v_1 q_v_1 e_v_1 => ?_)
  refine lv_if_ne (tgt := 10) hx hb dX5_joinSite_6 (by decide) (fun c_2 => ?_) (fun c_2 => ?_)
  · -- yes
    have k_2 : ¬ v_1.toInt = (0 : Int32).toInt := ci_ne c_2
    refine lv_aload_n hx hb dX5_joinSite_10 rfl (lv_at hl 0 rfl) ?_
    refine va_get (D := (dC, dI)) (ci := 5) (v := .ref ga_there) (C := RX5) (T := TX5) (N := 36) hx hb hts inv_X5_joinSite_X5 hown hK hP 0 rfl rfl 13 (by decide) (hts (.fieldLink RX5 48 "ArraySegmentsModel" "there" "[Z") (List.mem_of_getElem? (i := 1) rfl)) (fun _ h9 => h9) rfl dX5_joinSite_11 ?_
    refine lv_iload_n hx hb dX5_joinSite_14 rfl (lv_at hl 2 rfl) ?_
    refine sf_zald kZ hx hb hK hP 1 2 rfl rfl h_gc_there (vp_in_iff.mpr ⟨by omega, by omega⟩) dX5_joinSite_15 (fun v_3 q_v_3 e_v_3 => ?_)
    refine lv_if_ne (tgt := 26) hx hb dX5_joinSite_16 (by decide) (fun c_4 => ?_) (fun c_4 => ?_)
    · -- yes
      have k_4 : ¬ v_3.toInt = (0 : Int32).toInt := ci_ne c_4
      refine lv_aload_n hx hb dX5_joinSite_26 rfl (lv_at hl 0 rfl) ?_
      refine va_get (D := (dC, dI)) (ci := 5) (v := .ref ga_lanes) (C := RX5) (T := TX5) (N := 36) hx hb hts inv_X5_joinSite_X5 hown hK hP 0 rfl rfl 14 (by decide) (hts (.fieldLink RX5 51 "ArraySegmentsModel" "lanes" "[I") (List.mem_of_getElem? (i := 2) rfl)) (fun _ h9 => h9) rfl dX5_joinSite_27 ?_
      refine lv_iload_n hx hb dX5_joinSite_30 rfl (lv_at hl 2 rfl) ?_
      refine lv_dup2_11 hx hb dX5_joinSite_31 rfl rfl ?_
      refine sf_iald kT hx hb hK hP 2 0 rfl rfl (fun _ => trivial) (vp_in_iff.mpr ⟨by omega, by omega⟩) dX5_joinSite_32 (fun v_5 q_v_5 e_v_5 => ?_)
      refine lv_aload_n hx hb dX5_joinSite_33 rfl (lv_at hl 0 rfl) ?_
      refine va_get (D := (dC, dI)) (ci := 5) (v := .ref ga_lanes) (C := RX5) (T := TX5) (N := 36) hx hb hts inv_X5_joinSite_X5 hown hK hP 0 rfl rfl 14 (by decide) (hts (.fieldLink RX5 51 "ArraySegmentsModel" "lanes" "[I") (List.mem_of_getElem? (i := 2) rfl)) (fun _ h9 => h9) rfl dX5_joinSite_34 ?_
      refine lv_iload_n hx hb dX5_joinSite_37 rfl (lv_at hl 1 rfl) ?_
      refine sf_iald kT hx hb hK hP 2 0 rfl rfl (fun _ => trivial) (vp_in_iff.mpr ⟨by omega, by omega⟩) dX5_joinSite_38 (fun v_6 q_v_6 e_v_6 => ?_)
      refine lv_ior hx hb dX5_joinSite_39 ?_
      refine lv_topi (fun v_7 e_v_7 => ?_)
      refine sf_iast kT hx hb hK hP hD hS 2 0 rfl rfl (fun _ => trivial) trivial (vp_in_iff.mpr ⟨by omega, by omega⟩) dX5_joinSite_40 (fun f_8 h_f_8 e_f_8 H_9 locs_9 hP1 hD1 hS1 => ?_)
      replace hP : va_P (dC, dI) vwCl [(gh, .inr (5, [.int g_acts, g_kind, g_na, g_nb, g_nc, g_nd, g_ne, g_dropped, g_live, g_low, g_high, g_sites, g_nulls, .ref ga_there, .ref ga_lanes, .ref ga_least, .ref ga_most, .ref ga_placeLow, .ref ga_placeHigh, g_reached, g_mayThrow, .int g_status, .int g_hasRun, .int g_threw, .int g_whereThrown, g_value, g_means, g_laneOf, g_sizeOf, g_cells, g_copied, .long g_state, .long g_joinedLow, .long g_joinedHigh, g_keptLow, g_keptHigh])), (ga_there, .inl (cZ, 80, .inl gc_there)), (ga_lanes, .inl (cI, 80, .inl f_8)), (ga_least, .inl (cJ, 80, .inr (.inl gc_least))), (ga_most, .inl (cJ, 80, .inr (.inl gc_most))), (ga_placeLow, .inl (cJ, 960, .inr (.inl gc_placeLow))), (ga_placeHigh, .inl (cJ, 960, .inr (.inl gc_placeHigh)))] H_9 := hP1
      replace hD : va_D A [(gh, .inr (5, [.int g_acts, g_kind, g_na, g_nb, g_nc, g_nd, g_ne, g_dropped, g_live, g_low, g_high, g_sites, g_nulls, .ref ga_there, .ref ga_lanes, .ref ga_least, .ref ga_most, .ref ga_placeLow, .ref ga_placeHigh, g_reached, g_mayThrow, .int g_status, .int g_hasRun, .int g_threw, .int g_whereThrown, g_value, g_means, g_laneOf, g_sizeOf, g_cells, g_copied, .long g_state, .long g_joinedLow, .long g_joinedHigh, g_keptLow, g_keptHigh])), (ga_there, .inl (cZ, 80, .inl gc_there)), (ga_lanes, .inl (cI, 80, .inl f_8)), (ga_least, .inl (cJ, 80, .inr (.inl gc_least))), (ga_most, .inl (cJ, 80, .inr (.inl gc_most))), (ga_placeLow, .inl (cJ, 960, .inr (.inl gc_placeLow))), (ga_placeHigh, .inl (cJ, 960, .inr (.inl gc_placeHigh)))] := hD1
      replace hS := hS1
      clear hP1 hD1 hS1
      refine lv_aload_n hx hb dX5_joinSite_41 rfl (lv_at hl 0 rfl) ?_
      refine va_get (D := (dC, dI)) (ci := 5) (v := .ref ga_least) (C := RX5) (T := TX5) (N := 36) hx hb hts inv_X5_joinSite_X5 hown hK hP 0 rfl rfl 15 (by decide) (hts (.fieldLink RX5 54 "ArraySegmentsModel" "least" "[J") (List.mem_of_getElem? (i := 3) rfl)) (fun _ h9 => h9) rfl dX5_joinSite_42 ?_
      refine lv_iload_n hx hb dX5_joinSite_45 rfl (lv_at hl 2 rfl) ?_
      refine lv_aload_n hx hb dX5_joinSite_46 rfl (lv_at hl 0 rfl) ?_
      refine va_get (D := (dC, dI)) (ci := 5) (v := .ref ga_least) (C := RX5) (T := TX5) (N := 36) hx hb hts inv_X5_joinSite_X5 hown hK hP 0 rfl rfl 15 (by decide) (hts (.fieldLink RX5 54 "ArraySegmentsModel" "least" "[J") (List.mem_of_getElem? (i := 3) rfl)) (fun _ h9 => h9) rfl dX5_joinSite_47 ?_
      refine lv_iload_n hx hb dX5_joinSite_50 rfl (lv_at hl 1 rfl) ?_
      refine sf_lald lT hx hb hK hP 3 1 rfl rfl (fun _ => trivial) (vp_in_iff.mpr ⟨by omega, by omega⟩) dX5_joinSite_51 (fun v_10 q_v_10 e_v_10 => ?_)
      refine lv_aload_n hx hb dX5_joinSite_52 rfl (lv_at hl 0 rfl) ?_
      refine va_get (D := (dC, dI)) (ci := 5) (v := .ref ga_least) (C := RX5) (T := TX5) (N := 36) hx hb hts inv_X5_joinSite_X5 hown hK hP 0 rfl rfl 15 (by decide) (hts (.fieldLink RX5 54 "ArraySegmentsModel" "least" "[J") (List.mem_of_getElem? (i := 3) rfl)) (fun _ h9 => h9) rfl dX5_joinSite_53 ?_
      refine lv_iload_n hx hb dX5_joinSite_56 rfl (lv_at hl 2 rfl) ?_
      refine sf_lald lT hx hb hK hP 3 1 rfl rfl (fun _ => trivial) (vp_in_iff.mpr ⟨by omega, by omega⟩) dX5_joinSite_57 (fun v_11 q_v_11 e_v_11 => ?_)
      refine W.lcmp hx hb dX5_joinSite_58 ?_
      refine my_join (S := Int64) (fun u => True) (fun u => [(gh, .inr (5, [.int g_acts, g_kind, g_na, g_nb, g_nc, g_nd, g_ne, g_dropped, g_live, g_low, g_high, g_sites, g_nulls, .ref ga_there, .ref ga_lanes, .ref ga_least, .ref ga_most, .ref ga_placeLow, .ref ga_placeHigh, g_reached, g_mayThrow, .int g_status, .int g_hasRun, .int g_threw, .int g_whereThrown, g_value, g_means, g_laneOf, g_sizeOf, g_cells, g_copied, .long g_state, .long g_joinedLow, .long g_joinedHigh, g_keptLow, g_keptHigh])), (ga_there, .inl (cZ, 80, .inl gc_there)), (ga_lanes, .inl (cI, 80, .inl f_8)), (ga_least, .inl (cJ, 80, .inr (.inl gc_least))), (ga_most, .inl (cJ, 80, .inr (.inl gc_most))), (ga_placeLow, .inl (cJ, 960, .inr (.inl gc_placeLow))), (ga_placeHigh, .inl (cJ, 960, .inr (.inl gc_placeHigh)))]) (fun u => [(0, .ref gh), (1, .int aa), (2, .int ba)]) (fun u => [.long (u), .int ba, .ref ga_least]) (nL := 4) (H0 := s.heap) (A := A) (D := (dC, dI)) (cl := vwCl) 77 (fun u_13 hu_13 H_13 locs_13 ls1 hP1 hD1 hS1 hl1 => ?_) (fun jn_13 => ?_)
      · -- behind 77
        obtain ⟨v_14, rfl⟩ : ∃ z, z = u_13 := ⟨_, rfl⟩
        replace hP : va_P (dC, dI) vwCl [(gh, .inr (5, [.int g_acts, g_kind, g_na, g_nb, g_nc, g_nd, g_ne, g_dropped, g_live, g_low, g_high, g_sites, g_nulls, .ref ga_there, .ref ga_lanes, .ref ga_least, .ref ga_most, .ref ga_placeLow, .ref ga_placeHigh, g_reached, g_mayThrow, .int g_status, .int g_hasRun, .int g_threw, .int g_whereThrown, g_value, g_means, g_laneOf, g_sizeOf, g_cells, g_copied, .long g_state, .long g_joinedLow, .long g_joinedHigh, g_keptLow, g_keptHigh])), (ga_there, .inl (cZ, 80, .inl gc_there)), (ga_lanes, .inl (cI, 80, .inl f_8)), (ga_least, .inl (cJ, 80, .inr (.inl gc_least))), (ga_most, .inl (cJ, 80, .inr (.inl gc_most))), (ga_placeLow, .inl (cJ, 960, .inr (.inl gc_placeLow))), (ga_placeHigh, .inl (cJ, 960, .inr (.inl gc_placeHigh)))] H_13 := hP1
        replace hD : va_D A [(gh, .inr (5, [.int g_acts, g_kind, g_na, g_nb, g_nc, g_nd, g_ne, g_dropped, g_live, g_low, g_high, g_sites, g_nulls, .ref ga_there, .ref ga_lanes, .ref ga_least, .ref ga_most, .ref ga_placeLow, .ref ga_placeHigh, g_reached, g_mayThrow, .int g_status, .int g_hasRun, .int g_threw, .int g_whereThrown, g_value, g_means, g_laneOf, g_sizeOf, g_cells, g_copied, .long g_state, .long g_joinedLow, .long g_joinedHigh, g_keptLow, g_keptHigh])), (ga_there, .inl (cZ, 80, .inl gc_there)), (ga_lanes, .inl (cI, 80, .inl f_8)), (ga_least, .inl (cJ, 80, .inr (.inl gc_least))), (ga_most, .inl (cJ, 80, .inr (.inl gc_most))), (ga_placeLow, .inl (cJ, 960, .inr (.inl gc_placeLow))), (ga_placeHigh, .inl (cJ, 960, .inr (.inl gc_placeHigh)))] := hD1
        replace hS := hS1
        clear hP1 hD1 hS1
        replace hl : lv_has ls1 4 [(0, .ref gh), (1, .int aa), (2, .int ba)] := hl1
        clear hl1
        refine sf_last lT hx hb hK hP hD hS 3 1 rfl rfl (fun _ => trivial) trivial (vp_in_iff.mpr ⟨by omega, by omega⟩) dX5_joinSite_77 (fun f_15 h_f_15 e_f_15 H_16 locs_16 hP1 hD1 hS1 => ?_)
        replace hP : va_P (dC, dI) vwCl [(gh, .inr (5, [.int g_acts, g_kind, g_na, g_nb, g_nc, g_nd, g_ne, g_dropped, g_live, g_low, g_high, g_sites, g_nulls, .ref ga_there, .ref ga_lanes, .ref ga_least, .ref ga_most, .ref ga_placeLow, .ref ga_placeHigh, g_reached, g_mayThrow, .int g_status, .int g_hasRun, .int g_threw, .int g_whereThrown, g_value, g_means, g_laneOf, g_sizeOf, g_cells, g_copied, .long g_state, .long g_joinedLow, .long g_joinedHigh, g_keptLow, g_keptHigh])), (ga_there, .inl (cZ, 80, .inl gc_there)), (ga_lanes, .inl (cI, 80, .inl f_8)), (ga_least, .inl (cJ, 80, .inr (.inl f_15))), (ga_most, .inl (cJ, 80, .inr (.inl gc_most))), (ga_placeLow, .inl (cJ, 960, .inr (.inl gc_placeLow))), (ga_placeHigh, .inl (cJ, 960, .inr (.inl gc_placeHigh)))] H_16 := hP1
        replace hD : va_D A [(gh, .inr (5, [.int g_acts, g_kind, g_na, g_nb, g_nc, g_nd, g_ne, g_dropped, g_live, g_low, g_high, g_sites, g_nulls, .ref ga_there, .ref ga_lanes, .ref ga_least, .ref ga_most, .ref ga_placeLow, .ref ga_placeHigh, g_reached, g_mayThrow, .int g_status, .int g_hasRun, .int g_threw, .int g_whereThrown, g_value, g_means, g_laneOf, g_sizeOf, g_cells, g_copied, .long g_state, .long g_joinedLow, .long g_joinedHigh, g_keptLow, g_keptHigh])), (ga_there, .inl (cZ, 80, .inl gc_there)), (ga_lanes, .inl (cI, 80, .inl f_8)), (ga_least, .inl (cJ, 80, .inr (.inl f_15))), (ga_most, .inl (cJ, 80, .inr (.inl gc_most))), (ga_placeLow, .inl (cJ, 960, .inr (.inl gc_placeLow))), (ga_placeHigh, .inl (cJ, 960, .inr (.inl gc_placeHigh)))] := hD1
        replace hS := hS1
        clear hP1 hD1 hS1
        refine lv_aload_n hx hb dX5_joinSite_78 rfl (lv_at hl 0 rfl) ?_
        refine va_get (D := (dC, dI)) (ci := 5) (v := .ref ga_most) (C := RX5) (T := TX5) (N := 36) hx hb hts inv_X5_joinSite_X5 hown hK hP 0 rfl rfl 16 (by decide) (hts (.fieldLink RX5 57 "ArraySegmentsModel" "most" "[J") (List.mem_of_getElem? (i := 4) rfl)) (fun _ h9 => h9) rfl dX5_joinSite_79 ?_
        refine lv_iload_n hx hb dX5_joinSite_82 rfl (lv_at hl 2 rfl) ?_
        refine lv_aload_n hx hb dX5_joinSite_83 rfl (lv_at hl 0 rfl) ?_
        refine va_get (D := (dC, dI)) (ci := 5) (v := .ref ga_most) (C := RX5) (T := TX5) (N := 36) hx hb hts inv_X5_joinSite_X5 hown hK hP 0 rfl rfl 16 (by decide) (hts (.fieldLink RX5 57 "ArraySegmentsModel" "most" "[J") (List.mem_of_getElem? (i := 4) rfl)) (fun _ h9 => h9) rfl dX5_joinSite_84 ?_
        refine lv_iload_n hx hb dX5_joinSite_87 rfl (lv_at hl 1 rfl) ?_
        refine sf_lald l12 hx hb hK hP 4 1 rfl rfl h_gc_most (vp_in_iff.mpr ⟨by omega, by omega⟩) dX5_joinSite_88 (fun v_17 q_v_17 e_v_17 => ?_)
        refine lv_aload_n hx hb dX5_joinSite_89 rfl (lv_at hl 0 rfl) ?_
        refine va_get (D := (dC, dI)) (ci := 5) (v := .ref ga_most) (C := RX5) (T := TX5) (N := 36) hx hb hts inv_X5_joinSite_X5 hown hK hP 0 rfl rfl 16 (by decide) (hts (.fieldLink RX5 57 "ArraySegmentsModel" "most" "[J") (List.mem_of_getElem? (i := 4) rfl)) (fun _ h9 => h9) rfl dX5_joinSite_90 ?_
        refine lv_iload_n hx hb dX5_joinSite_93 rfl (lv_at hl 2 rfl) ?_
        refine sf_lald l12 hx hb hK hP 4 1 rfl rfl h_gc_most (vp_in_iff.mpr ⟨by omega, by omega⟩) dX5_joinSite_94 (fun v_18 q_v_18 e_v_18 => ?_)
        refine W.lcmp hx hb dX5_joinSite_95 ?_
        refine my_join (S := Int64) (fun u => ((u).toInt ≤ 12)) (fun u => [(gh, .inr (5, [.int g_acts, g_kind, g_na, g_nb, g_nc, g_nd, g_ne, g_dropped, g_live, g_low, g_high, g_sites, g_nulls, .ref ga_there, .ref ga_lanes, .ref ga_least, .ref ga_most, .ref ga_placeLow, .ref ga_placeHigh, g_reached, g_mayThrow, .int g_status, .int g_hasRun, .int g_threw, .int g_whereThrown, g_value, g_means, g_laneOf, g_sizeOf, g_cells, g_copied, .long g_state, .long g_joinedLow, .long g_joinedHigh, g_keptLow, g_keptHigh])), (ga_there, .inl (cZ, 80, .inl gc_there)), (ga_lanes, .inl (cI, 80, .inl f_8)), (ga_least, .inl (cJ, 80, .inr (.inl f_15))), (ga_most, .inl (cJ, 80, .inr (.inl gc_most))), (ga_placeLow, .inl (cJ, 960, .inr (.inl gc_placeLow))), (ga_placeHigh, .inl (cJ, 960, .inr (.inl gc_placeHigh)))]) (fun u => [(0, .ref gh), (1, .int aa), (2, .int ba)]) (fun u => [.long (u), .int ba, .ref ga_most]) (nL := 4) (H0 := s.heap) (A := A) (D := (dC, dI)) (cl := vwCl) 114 (fun u_20 hu_20 H_20 locs_20 ls1 hP1 hD1 hS1 hl1 => ?_) (fun jn_20 => ?_)
        · -- behind 114
          obtain ⟨v_21, rfl⟩ : ∃ z, z = u_20 := ⟨_, rfl⟩
          replace hu_20 : (v_21.toInt ≤ 12) := hu_20
          have q_v_21 := hu_20
          replace hP : va_P (dC, dI) vwCl [(gh, .inr (5, [.int g_acts, g_kind, g_na, g_nb, g_nc, g_nd, g_ne, g_dropped, g_live, g_low, g_high, g_sites, g_nulls, .ref ga_there, .ref ga_lanes, .ref ga_least, .ref ga_most, .ref ga_placeLow, .ref ga_placeHigh, g_reached, g_mayThrow, .int g_status, .int g_hasRun, .int g_threw, .int g_whereThrown, g_value, g_means, g_laneOf, g_sizeOf, g_cells, g_copied, .long g_state, .long g_joinedLow, .long g_joinedHigh, g_keptLow, g_keptHigh])), (ga_there, .inl (cZ, 80, .inl gc_there)), (ga_lanes, .inl (cI, 80, .inl f_8)), (ga_least, .inl (cJ, 80, .inr (.inl f_15))), (ga_most, .inl (cJ, 80, .inr (.inl gc_most))), (ga_placeLow, .inl (cJ, 960, .inr (.inl gc_placeLow))), (ga_placeHigh, .inl (cJ, 960, .inr (.inl gc_placeHigh)))] H_20 := hP1
          replace hD : va_D A [(gh, .inr (5, [.int g_acts, g_kind, g_na, g_nb, g_nc, g_nd, g_ne, g_dropped, g_live, g_low, g_high, g_sites, g_nulls, .ref ga_there, .ref ga_lanes, .ref ga_least, .ref ga_most, .ref ga_placeLow, .ref ga_placeHigh, g_reached, g_mayThrow, .int g_status, .int g_hasRun, .int g_threw, .int g_whereThrown, g_value, g_means, g_laneOf, g_sizeOf, g_cells, g_copied, .long g_state, .long g_joinedLow, .long g_joinedHigh, g_keptLow, g_keptHigh])), (ga_there, .inl (cZ, 80, .inl gc_there)), (ga_lanes, .inl (cI, 80, .inl f_8)), (ga_least, .inl (cJ, 80, .inr (.inl f_15))), (ga_most, .inl (cJ, 80, .inr (.inl gc_most))), (ga_placeLow, .inl (cJ, 960, .inr (.inl gc_placeLow))), (ga_placeHigh, .inl (cJ, 960, .inr (.inl gc_placeHigh)))] := hD1
          replace hS := hS1
          clear hP1 hD1 hS1
          replace hl : lv_has ls1 4 [(0, .ref gh), (1, .int aa), (2, .int ba)] := hl1
          clear hl1
          refine sf_last l12 hx hb hK hP hD hS 4 1 rfl rfl h_gc_most (show l12 v_21 from by omega) (vp_in_iff.mpr ⟨by omega, by omega⟩) dX5_joinSite_114 (fun f_22 h_f_22 e_f_22 H_23 locs_23 hP1 hD1 hS1 => ?_)
          replace hP : va_P (dC, dI) vwCl [(gh, .inr (5, [.int g_acts, g_kind, g_na, g_nb, g_nc, g_nd, g_ne, g_dropped, g_live, g_low, g_high, g_sites, g_nulls, .ref ga_there, .ref ga_lanes, .ref ga_least, .ref ga_most, .ref ga_placeLow, .ref ga_placeHigh, g_reached, g_mayThrow, .int g_status, .int g_hasRun, .int g_threw, .int g_whereThrown, g_value, g_means, g_laneOf, g_sizeOf, g_cells, g_copied, .long g_state, .long g_joinedLow, .long g_joinedHigh, g_keptLow, g_keptHigh])), (ga_there, .inl (cZ, 80, .inl gc_there)), (ga_lanes, .inl (cI, 80, .inl f_8)), (ga_least, .inl (cJ, 80, .inr (.inl f_15))), (ga_most, .inl (cJ, 80, .inr (.inl f_22))), (ga_placeLow, .inl (cJ, 960, .inr (.inl gc_placeLow))), (ga_placeHigh, .inl (cJ, 960, .inr (.inl gc_placeHigh)))] H_23 := hP1
          replace hD : va_D A [(gh, .inr (5, [.int g_acts, g_kind, g_na, g_nb, g_nc, g_nd, g_ne, g_dropped, g_live, g_low, g_high, g_sites, g_nulls, .ref ga_there, .ref ga_lanes, .ref ga_least, .ref ga_most, .ref ga_placeLow, .ref ga_placeHigh, g_reached, g_mayThrow, .int g_status, .int g_hasRun, .int g_threw, .int g_whereThrown, g_value, g_means, g_laneOf, g_sizeOf, g_cells, g_copied, .long g_state, .long g_joinedLow, .long g_joinedHigh, g_keptLow, g_keptHigh])), (ga_there, .inl (cZ, 80, .inl gc_there)), (ga_lanes, .inl (cI, 80, .inl f_8)), (ga_least, .inl (cJ, 80, .inr (.inl f_15))), (ga_most, .inl (cJ, 80, .inr (.inl f_22))), (ga_placeLow, .inl (cJ, 960, .inr (.inl gc_placeLow))), (ga_placeHigh, .inl (cJ, 960, .inr (.inl gc_placeHigh)))] := hD1
          replace hS := hS1
          clear hP1 hD1 hS1
          refine lv_iconst (v := 0) hx hb dX5_joinSite_115 (by decide) ?_
          refine lv_istore_n (lv' := [(3, .int 0), (0, .ref gh), (1, .int aa), (2, .int ba)]) hx hb dX5_joinSite_116 rfl hl (by decide) rfl (fun ls1 hl1 => ?_)
          replace hl := hl1; clear hl1
          refine my_wloop (S := Int32 × (Nat → Int64) × (Nat → Int64)) (fun u => (0 ≤ (u.1).toInt ∧ (u.1).toInt ≤ 12)) (fun u => (12 - (u.1).toInt).toNat) (fun u => [(gh, .inr (5, [.int g_acts, g_kind, g_na, g_nb, g_nc, g_nd, g_ne, g_dropped, g_live, g_low, g_high, g_sites, g_nulls, .ref ga_there, .ref ga_lanes, .ref ga_least, .ref ga_most, .ref ga_placeLow, .ref ga_placeHigh, g_reached, g_mayThrow, .int g_status, .int g_hasRun, .int g_threw, .int g_whereThrown, g_value, g_means, g_laneOf, g_sizeOf, g_cells, g_copied, .long g_state, .long g_joinedLow, .long g_joinedHigh, g_keptLow, g_keptHigh])), (ga_there, .inl (cZ, 80, .inl gc_there)), (ga_lanes, .inl (cI, 80, .inl f_8)), (ga_least, .inl (cJ, 80, .inr (.inl f_15))), (ga_most, .inl (cJ, 80, .inr (.inl f_22))), (ga_placeLow, .inl (cJ, 960, .inr (.inl (u.2.1)))), (ga_placeHigh, .inl (cJ, 960, .inr (.inl (u.2.2))))]) (fun u => [(3, .int (u.1)), (0, .ref gh), (1, .int aa), (2, .int ba)]) (H0 := s.heap) (A := A) (D := (dC, dI)) (cl := vwCl) ((0 : Int32), gc_placeLow, gc_placeHigh) (show (0 ≤ (0 : Int32).toInt ∧ (0 : Int32).toInt ≤ 12) from ⟨by omega, by omega⟩) (by exact hP) (by exact hD) hS (by exact hl) (fun u_24 hu_24 ih_24 H_24 locs_24 ls1 hP1 hD1 hS1 hl1 => ?_)
          obtain ⟨v_25, f_26, f_27⟩ := u_24
          replace hu_24 : (0 ≤ v_25.toInt ∧ v_25.toInt ≤ 12) := hu_24
          have q_v_25 := hu_24
          replace hP : va_P (dC, dI) vwCl [(gh, .inr (5, [.int g_acts, g_kind, g_na, g_nb, g_nc, g_nd, g_ne, g_dropped, g_live, g_low, g_high, g_sites, g_nulls, .ref ga_there, .ref ga_lanes, .ref ga_least, .ref ga_most, .ref ga_placeLow, .ref ga_placeHigh, g_reached, g_mayThrow, .int g_status, .int g_hasRun, .int g_threw, .int g_whereThrown, g_value, g_means, g_laneOf, g_sizeOf, g_cells, g_copied, .long g_state, .long g_joinedLow, .long g_joinedHigh, g_keptLow, g_keptHigh])), (ga_there, .inl (cZ, 80, .inl gc_there)), (ga_lanes, .inl (cI, 80, .inl f_8)), (ga_least, .inl (cJ, 80, .inr (.inl f_15))), (ga_most, .inl (cJ, 80, .inr (.inl f_22))), (ga_placeLow, .inl (cJ, 960, .inr (.inl f_26))), (ga_placeHigh, .inl (cJ, 960, .inr (.inl f_27)))] H_24 := hP1
          replace hD : va_D A [(gh, .inr (5, [.int g_acts, g_kind, g_na, g_nb, g_nc, g_nd, g_ne, g_dropped, g_live, g_low, g_high, g_sites, g_nulls, .ref ga_there, .ref ga_lanes, .ref ga_least, .ref ga_most, .ref ga_placeLow, .ref ga_placeHigh, g_reached, g_mayThrow, .int g_status, .int g_hasRun, .int g_threw, .int g_whereThrown, g_value, g_means, g_laneOf, g_sizeOf, g_cells, g_copied, .long g_state, .long g_joinedLow, .long g_joinedHigh, g_keptLow, g_keptHigh])), (ga_there, .inl (cZ, 80, .inl gc_there)), (ga_lanes, .inl (cI, 80, .inl f_8)), (ga_least, .inl (cJ, 80, .inr (.inl f_15))), (ga_most, .inl (cJ, 80, .inr (.inl f_22))), (ga_placeLow, .inl (cJ, 960, .inr (.inl f_26))), (ga_placeHigh, .inl (cJ, 960, .inr (.inl f_27)))] := hD1
          replace hS := hS1
          clear hP1 hD1 hS1
          replace hl : lv_has ls1 4 [(3, .int v_25), (0, .ref gh), (1, .int aa), (2, .int ba)] := hl1
          clear hl1
          refine lv_iload_n hx hb dX5_joinSite_117 rfl (lv_at hl 0 rfl) ?_
          refine lv_bipush (v := 12) hx hb dX5_joinSite_118 (by decide) ?_
          refine lv_icmp_ge (tgt := 157) hx hb dX5_joinSite_120 (by decide) (fun c_28 => ?_) (fun c_28 => ?_)
          · -- yes
            have k_28 : (12 : Int32).toInt ≤ v_25.toInt := ci_ge c_28
            have hP9 := hP.sub (ws' := [(gh, .inr (5, [.int g_acts, g_kind, g_na, g_nb, g_nc, g_nd, g_ne, g_dropped, g_live, g_low, g_high, g_sites, g_nulls, .ref ga_there, .ref ga_lanes, .ref ga_least, .ref ga_most, .ref ga_placeLow, .ref ga_placeHigh, g_reached, g_mayThrow, .int g_status, .int g_hasRun, .int g_threw, .int g_whereThrown, g_value, g_means, g_laneOf, g_sizeOf, g_cells, g_copied, .long g_state, .long g_joinedLow, .long g_joinedHigh, g_keptLow, g_keptHigh])), (ga_there, .inl (cZ, 80, .inl gc_there)), (ga_lanes, .inl (cI, 80, .inl f_8)), (ga_least, .inl (cJ, 80, .inr (.inl f_15))), (ga_most, .inl (cJ, 80, .inr (.inl f_22))), (ga_placeLow, .inl (cJ, 960, .inr (.inl f_26))), (ga_placeHigh, .inl (cJ, 960, .inr (.inl f_27)))]) [0, 1, 2, 3, 4, 5, 6] rfl
            have hD9 := hD.sub (ws' := [(gh, .inr (5, [.int g_acts, g_kind, g_na, g_nb, g_nc, g_nd, g_ne, g_dropped, g_live, g_low, g_high, g_sites, g_nulls, .ref ga_there, .ref ga_lanes, .ref ga_least, .ref ga_most, .ref ga_placeLow, .ref ga_placeHigh, g_reached, g_mayThrow, .int g_status, .int g_hasRun, .int g_threw, .int g_whereThrown, g_value, g_means, g_laneOf, g_sizeOf, g_cells, g_copied, .long g_state, .long g_joinedLow, .long g_joinedHigh, g_keptLow, g_keptHigh])), (ga_there, .inl (cZ, 80, .inl gc_there)), (ga_lanes, .inl (cI, 80, .inl f_8)), (ga_least, .inl (cJ, 80, .inr (.inl f_15))), (ga_most, .inl (cJ, 80, .inr (.inl f_22))), (ga_placeLow, .inl (cJ, 960, .inr (.inl f_26))), (ga_placeHigh, .inl (cJ, 960, .inr (.inl f_27)))]) [0, 1, 2, 3, 4, 5, 6] (by decide) rfl
            exact W.vret hx hb hr (fun t ht hW => ⟨⟨(gc_there, f_8, f_15, f_22, f_26, f_27), rfl, ⟨(show ∀ j : Nat, kZ (gc_there j) from h_gc_there), (show ∀ j : Nat, l12 (f_22 j) from h_f_22)⟩, by rw [ht]; exact hP9, va_K.moved hW.alike hK, hD9⟩, hS.F ht⟩) hS.2.2 dX5_joinSite_157
          · -- no
            have k_28 : v_25.toInt < (12 : Int32).toInt := ci_nge c_28
            refine lv_aload_n hx hb dX5_joinSite_123 rfl (lv_at hl 1 rfl) ?_
            refine lv_iload_n hx hb dX5_joinSite_124 rfl (lv_at hl 3 rfl) ?_
            refine lv_iload_n hx hb dX5_joinSite_125 rfl (lv_at hl 0 rfl) ?_
            refine lv_aload_n hx hb dX5_joinSite_126 rfl (lv_at hl 1 rfl) ?_
            refine va_get (D := (dC, dI)) (ci := 5) (v := .ref ga_placeLow) (C := RX5) (T := TX5) (N := 36) hx hb hts inv_X5_joinSite_X5 hown hK hP 0 rfl rfl 17 (by decide) (hts (.fieldLink RX5 60 "ArraySegmentsModel" "placeLow" "[J") (List.mem_of_getElem? (i := 5) rfl)) (fun _ h9 => h9) rfl dX5_joinSite_127 ?_
            refine lv_bipush (v := 12) hx hb dX5_joinSite_130 (by decide) ?_
            refine lv_iload_n hx hb dX5_joinSite_132 rfl (lv_at hl 2 rfl) ?_
            refine sf_imul (w := 12) (z := aa.toInt) hx hb dX5_joinSite_133 (by decide) rfl ⟨by omega, by omega⟩ (fun v_29 q_v_29 => ?_)
            refine lv_iload_n hx hb dX5_joinSite_134 rfl (lv_at hl 0 rfl) ?_
            refine sf_iadd hx hb dX5_joinSite_135 ⟨by omega, by omega⟩ (fun v_30 q_v_30 => ?_)
            refine sf_lald lT hx hb hK hP 5 1 rfl rfl (fun _ => trivial) (vp_in_iff.mpr ⟨by omega, by omega⟩) dX5_joinSite_136 (fun v_31 q_v_31 e_v_31 => ?_)
            refine lv_aload_n hx hb dX5_joinSite_137 rfl (lv_at hl 1 rfl) ?_
            refine va_get (D := (dC, dI)) (ci := 5) (v := .ref ga_placeHigh) (C := RX5) (T := TX5) (N := 36) hx hb hts inv_X5_joinSite_X5 hown hK hP 0 rfl rfl 18 (by decide) (hts (.fieldLink RX5 63 "ArraySegmentsModel" "placeHigh" "[J") (List.mem_of_getElem? (i := 6) rfl)) (fun _ h9 => h9) rfl dX5_joinSite_138 ?_
            refine lv_bipush (v := 12) hx hb dX5_joinSite_141 (by decide) ?_
            refine lv_iload_n hx hb dX5_joinSite_143 rfl (lv_at hl 2 rfl) ?_
            refine sf_imul (w := 12) (z := aa.toInt) hx hb dX5_joinSite_144 (by decide) rfl ⟨by omega, by omega⟩ (fun v_32 q_v_32 => ?_)
            refine lv_iload_n hx hb dX5_joinSite_145 rfl (lv_at hl 0 rfl) ?_
            refine sf_iadd hx hb dX5_joinSite_146 ⟨by omega, by omega⟩ (fun v_33 q_v_33 => ?_)
            refine sf_lald lT hx hb hK hP 6 1 rfl rfl (fun _ => trivial) (vp_in_iff.mpr ⟨by omega, by omega⟩) dX5_joinSite_147 (fun v_34 q_v_34 e_v_34 => ?_)
            have hPc := hP.sub (ws' := [(gh, .inr (5, [.int g_acts, g_kind, g_na, g_nb, g_nc, g_nd, g_ne, g_dropped, g_live, g_low, g_high, g_sites, g_nulls, .ref ga_there, .ref ga_lanes, .ref ga_least, .ref ga_most, .ref ga_placeLow, .ref ga_placeHigh, g_reached, g_mayThrow, .int g_status, .int g_hasRun, .int g_threw, .int g_whereThrown, g_value, g_means, g_laneOf, g_sizeOf, g_cells, g_copied, .long g_state, .long g_joinedLow, .long g_joinedHigh, g_keptLow, g_keptHigh])), (ga_placeLow, .inl (cJ, 960, .inr (.inl f_26))), (ga_placeHigh, .inl (cJ, 960, .inr (.inl f_27)))]) [0, 5, 6] rfl
            have hDc := hD.sub (ws' := [(gh, .inr (5, [.int g_acts, g_kind, g_na, g_nb, g_nc, g_nd, g_ne, g_dropped, g_live, g_low, g_high, g_sites, g_nulls, .ref ga_there, .ref ga_lanes, .ref ga_least, .ref ga_most, .ref ga_placeLow, .ref ga_placeHigh, g_reached, g_mayThrow, .int g_status, .int g_hasRun, .int g_threw, .int g_whereThrown, g_value, g_means, g_laneOf, g_sizeOf, g_cells, g_copied, .long g_state, .long g_joinedLow, .long g_joinedHigh, g_keptLow, g_keptHigh])), (ga_placeLow, .inl (cJ, 960, .inr (.inl f_26))), (ga_placeHigh, .inl (cJ, 960, .inr (.inl f_27)))]) [0, 5, 6] (by decide) rfl
            have hFc := va_free (wc := [(gh, .inr (5, [.int g_acts, g_kind, g_na, g_nb, g_nc, g_nd, g_ne, g_dropped, g_live, g_low, g_high, g_sites, g_nulls, .ref ga_there, .ref ga_lanes, .ref ga_least, .ref ga_most, .ref ga_placeLow, .ref ga_placeHigh, g_reached, g_mayThrow, .int g_status, .int g_hasRun, .int g_threw, .int g_whereThrown, g_value, g_means, g_laneOf, g_sizeOf, g_cells, g_copied, .long g_state, .long g_joinedLow, .long g_joinedHigh, g_keptLow, g_keptHigh])), (ga_placeLow, .inl (cJ, 960, .inr (.inl f_26))), (ga_placeHigh, .inl (cJ, 960, .inr (.inl f_27)))]) hD hS hA [0, 5, 6] rfl
            refine va_callv (va_runV (As := [.int ba, .int v_25, .long v_31, .long v_34]) (rest := []) ⟨hx, hb, hml, hown, hts⟩ (s_X5_joinPlace l dC dI cI cJ cZ gh g_acts g_kind g_na g_nb g_nc g_nd g_ne g_dropped g_live g_low g_high g_sites g_nulls (.ref ga_there) (.ref ga_lanes) (.ref ga_least) (.ref ga_most) ga_placeLow ga_placeHigh g_reached g_mayThrow g_status g_hasRun g_threw g_whereThrown g_value g_means g_laneOf g_sizeOf g_cells g_copied g_state g_joinedLow g_joinedHigh g_keptLow g_keptHigh f_26 f_27 ba v_25 v_31 v_34 H_24.size q_g_hasRun (by first | assumption | omega) (by first | assumption | omega)) (cwV 4 hts h_X5_joinSite_X5_joinPlace_150 rfl rfl rfl (by decide +kernel) ⟨Nat.le_of_ble_eq_true rfl, Nat.le_of_ble_eq_true rfl⟩) ⟨cPre_blind, va_recv hK hPc (ci := 5) (q0 := 0) rfl rfl, cPre_of hK hN hPc hDc⟩ rfl rfl hl.1 rfl (lv_room (Nat.le_of_ble_eq_true rfl)) dX5_joinSite_148 ⟨Nat.le_of_ble_eq_true rfl, Nat.le_of_ble_eq_true rfl⟩) hS (fun q _ h => hFc q h) hFc (fun u_35 t_35 H_35 locs_35 ht hvm hw_35 hB hz1 hk1 hS1 => ?_)
            obtain ⟨f_36, f_37⟩ := u_35
            obtain ⟨hP1, hK1, hD1⟩ := hB
            rw [ht] at hP1
            obtain ⟨hP2, hD2⟩ := va_join (wr := [(ga_there, .inl (cZ, 80, .inl gc_there)), (ga_lanes, .inl (cI, 80, .inl f_8)), (ga_least, .inl (cJ, 80, .inr (.inl f_15))), (ga_most, .inl (cJ, 80, .inr (.inl f_22)))]) (w1 := [(gh, .inr (5, [.int g_acts, g_kind, g_na, g_nb, g_nc, g_nd, g_ne, g_dropped, g_live, g_low, g_high, g_sites, g_nulls, .ref ga_there, .ref ga_lanes, .ref ga_least, .ref ga_most, .ref ga_placeLow, .ref ga_placeHigh, g_reached, g_mayThrow, .int g_status, .int g_hasRun, .int g_threw, .int g_whereThrown, g_value, g_means, g_laneOf, g_sizeOf, g_cells, g_copied, .long g_state, .long g_joinedLow, .long g_joinedHigh, g_keptLow, g_keptHigh])), (ga_placeLow, .inl (cJ, 960, .inr (.inl f_36))), (ga_placeHigh, .inl (cJ, 960, .inr (.inl f_37)))]) hP hD [0, 5, 6] [1, 2, 3, 4] rfl rfl (by decide) (by decide) hk1 hFc hP1 hD1
            clear hPc hDc hFc hP1 hD1 hK1 hk1 hz1 hvm ht
            replace hP : va_P (dC, dI) vwCl [(ga_there, .inl (cZ, 80, .inl gc_there)), (ga_lanes, .inl (cI, 80, .inl f_8)), (ga_least, .inl (cJ, 80, .inr (.inl f_15))), (ga_most, .inl (cJ, 80, .inr (.inl f_22))), (gh, .inr (5, [.int g_acts, g_kind, g_na, g_nb, g_nc, g_nd, g_ne, g_dropped, g_live, g_low, g_high, g_sites, g_nulls, .ref ga_there, .ref ga_lanes, .ref ga_least, .ref ga_most, .ref ga_placeLow, .ref ga_placeHigh, g_reached, g_mayThrow, .int g_status, .int g_hasRun, .int g_threw, .int g_whereThrown, g_value, g_means, g_laneOf, g_sizeOf, g_cells, g_copied, .long g_state, .long g_joinedLow, .long g_joinedHigh, g_keptLow, g_keptHigh])), (ga_placeLow, .inl (cJ, 960, .inr (.inl f_36))), (ga_placeHigh, .inl (cJ, 960, .inr (.inl f_37)))] H_35 := hP2
            replace hD : va_D A [(ga_there, .inl (cZ, 80, .inl gc_there)), (ga_lanes, .inl (cI, 80, .inl f_8)), (ga_least, .inl (cJ, 80, .inr (.inl f_15))), (ga_most, .inl (cJ, 80, .inr (.inl f_22))), (gh, .inr (5, [.int g_acts, g_kind, g_na, g_nb, g_nc, g_nd, g_ne, g_dropped, g_live, g_low, g_high, g_sites, g_nulls, .ref ga_there, .ref ga_lanes, .ref ga_least, .ref ga_most, .ref ga_placeLow, .ref ga_placeHigh, g_reached, g_mayThrow, .int g_status, .int g_hasRun, .int g_threw, .int g_whereThrown, g_value, g_means, g_laneOf, g_sizeOf, g_cells, g_copied, .long g_state, .long g_joinedLow, .long g_joinedHigh, g_keptLow, g_keptHigh])), (ga_placeLow, .inl (cJ, 960, .inr (.inl f_36))), (ga_placeHigh, .inl (cJ, 960, .inr (.inl f_37)))] := hD2
            replace hS := hS1
            clear hP2 hD2 hS1
            refine sf_iinc hx hb dX5_joinSite_151 hl (k := 0) (x := v_25) (w := 1) rfl (by decide) (by decide) ⟨by omega, by omega⟩ (fun v_38 q_v_38 ls1 hl1 => ?_)
            replace hl : lv_has ls1 4 [(3, .int v_38), (0, .ref gh), (1, .int aa), (2, .int ba)] := hl1
            clear hl1
            refine lv_goto (tgt := 117) hx hb dX5_joinSite_154 (by decide) ?_
            exact ih_24 (v_38, f_36, f_37) (show (0 ≤ v_38.toInt ∧ v_38.toInt ≤ 12) from ⟨by omega, by omega⟩) (by show (12 - v_38.toInt).toNat < (12 - v_25.toInt).toNat; omega) _ _ _ (hP.sub [4, 0, 1, 2, 3, 5, 6] rfl) (hD.sub [4, 0, 1, 2, 3, 5, 6] (by decide) rfl) hS (lv_sub hl [0, 1, 2, 3] rfl)
        · -- ahead of 114
          refine lv_if_le (tgt := 108) hx hb dX5_joinSite_96 (by decide) (fun c_39 => ?_) (fun c_39 => ?_)
          · -- yes
            have k_39 : v_17.toInt ≤ v_18.toInt := lc_le c_39
            refine lv_aload_n hx hb dX5_joinSite_108 rfl (lv_at hl 0 rfl) ?_
            refine va_get (D := (dC, dI)) (ci := 5) (v := .ref ga_most) (C := RX5) (T := TX5) (N := 36) hx hb hts inv_X5_joinSite_X5 hown hK hP 0 rfl rfl 16 (by decide) (hts (.fieldLink RX5 57 "ArraySegmentsModel" "most" "[J") (List.mem_of_getElem? (i := 4) rfl)) (fun _ h9 => h9) rfl dX5_joinSite_109 ?_
            refine lv_iload_n hx hb dX5_joinSite_112 rfl (lv_at hl 2 rfl) ?_
            refine sf_lald l12 hx hb hK hP 4 1 rfl rfl h_gc_most (vp_in_iff.mpr ⟨by omega, by omega⟩) dX5_joinSite_113 (fun v_40 q_v_40 e_v_40 => ?_)
            exact jn_20 v_40 (show (v_40.toInt ≤ 12) from (by omega)) _ _ _ (hP.sub [0, 1, 2, 3, 4, 5, 6] rfl) (hD.sub [0, 1, 2, 3, 4, 5, 6] (by decide) rfl) hS (lv_sub hl [0, 1, 2] rfl)
          · -- no
            have k_39 : v_18.toInt < v_17.toInt := lc_nle c_39
            refine lv_aload_n hx hb dX5_joinSite_99 rfl (lv_at hl 0 rfl) ?_
            refine va_get (D := (dC, dI)) (ci := 5) (v := .ref ga_most) (C := RX5) (T := TX5) (N := 36) hx hb hts inv_X5_joinSite_X5 hown hK hP 0 rfl rfl 16 (by decide) (hts (.fieldLink RX5 57 "ArraySegmentsModel" "most" "[J") (List.mem_of_getElem? (i := 4) rfl)) (fun _ h9 => h9) rfl dX5_joinSite_100 ?_
            refine lv_iload_n hx hb dX5_joinSite_103 rfl (lv_at hl 1 rfl) ?_
            refine sf_lald l12 hx hb hK hP 4 1 rfl rfl h_gc_most (vp_in_iff.mpr ⟨by omega, by omega⟩) dX5_joinSite_104 (fun v_41 q_v_41 e_v_41 => ?_)
            refine lv_goto (tgt := 114) hx hb dX5_joinSite_105 (by decide) ?_
            exact jn_20 v_41 (show (v_41.toInt ≤ 12) from (by omega)) _ _ _ (hP.sub [0, 1, 2, 3, 4, 5, 6] rfl) (hD.sub [0, 1, 2, 3, 4, 5, 6] (by decide) rfl) hS (lv_sub hl [0, 1, 2] rfl)
      · -- ahead of 77
        refine lv_if_ge (tgt := 71) hx hb dX5_joinSite_59 (by decide) (fun c_42 => ?_) (fun c_42 => ?_)
        · -- yes
          have k_42 : v_11.toInt ≤ v_10.toInt := lc_ge c_42
          refine lv_aload_n hx hb dX5_joinSite_71 rfl (lv_at hl 0 rfl) ?_
          refine va_get (D := (dC, dI)) (ci := 5) (v := .ref ga_least) (C := RX5) (T := TX5) (N := 36) hx hb hts inv_X5_joinSite_X5 hown hK hP 0 rfl rfl 15 (by decide) (hts (.fieldLink RX5 54 "ArraySegmentsModel" "least" "[J") (List.mem_of_getElem? (i := 3) rfl)) (fun _ h9 => h9) rfl dX5_joinSite_72 ?_
          refine lv_iload_n hx hb dX5_joinSite_75 rfl (lv_at hl 2 rfl) ?_
          refine sf_lald lT hx hb hK hP 3 1 rfl rfl (fun _ => trivial) (vp_in_iff.mpr ⟨by omega, by omega⟩) dX5_joinSite_76 (fun v_43 q_v_43 e_v_43 => ?_)
          exact jn_13 v_43 (show True from trivial) _ _ _ (hP.sub [0, 1, 2, 3, 4, 5, 6] rfl) (hD.sub [0, 1, 2, 3, 4, 5, 6] (by decide) rfl) hS (lv_sub hl [0, 1, 2] rfl)
        · -- no
          have k_42 : v_10.toInt < v_11.toInt := lc_nge c_42
          refine lv_aload_n hx hb dX5_joinSite_62 rfl (lv_at hl 0 rfl) ?_
          refine va_get (D := (dC, dI)) (ci := 5) (v := .ref ga_least) (C := RX5) (T := TX5) (N := 36) hx hb hts inv_X5_joinSite_X5 hown hK hP 0 rfl rfl 15 (by decide) (hts (.fieldLink RX5 54 "ArraySegmentsModel" "least" "[J") (List.mem_of_getElem? (i := 3) rfl)) (fun _ h9 => h9) rfl dX5_joinSite_63 ?_
          refine lv_iload_n hx hb dX5_joinSite_66 rfl (lv_at hl 1 rfl) ?_
          refine sf_lald lT hx hb hK hP 3 1 rfl rfl (fun _ => trivial) (vp_in_iff.mpr ⟨by omega, by omega⟩) dX5_joinSite_67 (fun v_44 q_v_44 e_v_44 => ?_)
          refine lv_goto (tgt := 77) hx hb dX5_joinSite_68 (by decide) ?_
          exact jn_13 v_44 (show True from trivial) _ _ _ (hP.sub [0, 1, 2, 3, 4, 5, 6] rfl) (hD.sub [0, 1, 2, 3, 4, 5, 6] (by decide) rfl) hS (lv_sub hl [0, 1, 2] rfl)
    · -- no
      have k_4 : v_3.toInt = (0 : Int32).toInt := ci_eq c_4
      refine lv_aload_n hx hb dX5_joinSite_19 rfl (lv_at hl 0 rfl) ?_
      refine lv_iload_n hx hb dX5_joinSite_20 rfl (lv_at hl 1 rfl) ?_
      refine lv_iload_n hx hb dX5_joinSite_21 rfl (lv_at hl 2 rfl) ?_
      have hPc := hP.sub (ws' := [(gh, .inr (5, [.int g_acts, g_kind, g_na, g_nb, g_nc, g_nd, g_ne, g_dropped, g_live, g_low, g_high, g_sites, g_nulls, .ref ga_there, .ref ga_lanes, .ref ga_least, .ref ga_most, .ref ga_placeLow, .ref ga_placeHigh, g_reached, g_mayThrow, .int g_status, .int g_hasRun, .int g_threw, .int g_whereThrown, g_value, g_means, g_laneOf, g_sizeOf, g_cells, g_copied, .long g_state, .long g_joinedLow, .long g_joinedHigh, g_keptLow, g_keptHigh])), (ga_there, .inl (cZ, 80, .inl gc_there)), (ga_lanes, .inl (cI, 80, .inl gc_lanes)), (ga_least, .inl (cJ, 80, .inr (.inl gc_least))), (ga_most, .inl (cJ, 80, .inr (.inl gc_most))), (ga_placeLow, .inl (cJ, 960, .inr (.inl gc_placeLow))), (ga_placeHigh, .inl (cJ, 960, .inr (.inl gc_placeHigh)))]) [0, 1, 2, 3, 4, 5, 6] rfl
      have hDc := hD.sub (ws' := [(gh, .inr (5, [.int g_acts, g_kind, g_na, g_nb, g_nc, g_nd, g_ne, g_dropped, g_live, g_low, g_high, g_sites, g_nulls, .ref ga_there, .ref ga_lanes, .ref ga_least, .ref ga_most, .ref ga_placeLow, .ref ga_placeHigh, g_reached, g_mayThrow, .int g_status, .int g_hasRun, .int g_threw, .int g_whereThrown, g_value, g_means, g_laneOf, g_sizeOf, g_cells, g_copied, .long g_state, .long g_joinedLow, .long g_joinedHigh, g_keptLow, g_keptHigh])), (ga_there, .inl (cZ, 80, .inl gc_there)), (ga_lanes, .inl (cI, 80, .inl gc_lanes)), (ga_least, .inl (cJ, 80, .inr (.inl gc_least))), (ga_most, .inl (cJ, 80, .inr (.inl gc_most))), (ga_placeLow, .inl (cJ, 960, .inr (.inl gc_placeLow))), (ga_placeHigh, .inl (cJ, 960, .inr (.inl gc_placeHigh)))]) [0, 1, 2, 3, 4, 5, 6] (by decide) rfl
      have hFc := va_free (wc := [(gh, .inr (5, [.int g_acts, g_kind, g_na, g_nb, g_nc, g_nd, g_ne, g_dropped, g_live, g_low, g_high, g_sites, g_nulls, .ref ga_there, .ref ga_lanes, .ref ga_least, .ref ga_most, .ref ga_placeLow, .ref ga_placeHigh, g_reached, g_mayThrow, .int g_status, .int g_hasRun, .int g_threw, .int g_whereThrown, g_value, g_means, g_laneOf, g_sizeOf, g_cells, g_copied, .long g_state, .long g_joinedLow, .long g_joinedHigh, g_keptLow, g_keptHigh])), (ga_there, .inl (cZ, 80, .inl gc_there)), (ga_lanes, .inl (cI, 80, .inl gc_lanes)), (ga_least, .inl (cJ, 80, .inr (.inl gc_least))), (ga_most, .inl (cJ, 80, .inr (.inl gc_most))), (ga_placeLow, .inl (cJ, 960, .inr (.inl gc_placeLow))), (ga_placeHigh, .inl (cJ, 960, .inr (.inl gc_placeHigh)))]) hD hS hA [0, 1, 2, 3, 4, 5, 6] rfl
      refine va_callv (va_runV (As := [.int aa, .int ba]) (rest := []) ⟨hx, hb, hml, hown, hts⟩ (s_X5_copySite l dC dI cI cJ cZ gh g_acts g_kind g_na g_nb g_nc g_nd g_ne g_dropped g_live g_low g_high g_sites g_nulls ga_there ga_lanes ga_least ga_most ga_placeLow ga_placeHigh g_reached g_mayThrow g_status g_hasRun g_threw g_whereThrown g_value g_means g_laneOf g_sizeOf g_cells g_copied g_state g_joinedLow g_joinedHigh g_keptLow g_keptHigh gc_there gc_lanes gc_least gc_most gc_placeLow gc_placeHigh aa ba s.heap.size q_g_hasRun h_gc_there h_gc_most (by first | assumption | omega) (by first | assumption | omega)) (cwV 2 hts h_X5_joinSite_X5_copySite_146 rfl rfl rfl (by decide +kernel) ⟨Nat.le_of_ble_eq_true rfl, Nat.le_of_ble_eq_true rfl⟩) ⟨cPre_blind, va_recv hK hPc (ci := 5) (q0 := 0) rfl rfl, cPre_of hK hN hPc hDc⟩ rfl rfl hl.1 rfl (lv_room (Nat.le_of_ble_eq_true rfl)) dX5_joinSite_22 ⟨Nat.le_of_ble_eq_true rfl, Nat.le_of_ble_eq_true rfl⟩) hS (fun q _ h => hFc q h) hFc (fun u_45 t_45 H_45 locs_45 ht hvm hw_45 hB hz1 hk1 hS1 => ?_)
      obtain ⟨f_46, f_47, f_48, f_49, f_50, f_51⟩ := u_45
      obtain ⟨hP1, hK1, hD1⟩ := hB
      rw [ht] at hP1
      obtain ⟨hP2, hD2⟩ := va_join (wr := []) (w1 := [(gh, .inr (5, [.int g_acts, g_kind, g_na, g_nb, g_nc, g_nd, g_ne, g_dropped, g_live, g_low, g_high, g_sites, g_nulls, .ref ga_there, .ref ga_lanes, .ref ga_least, .ref ga_most, .ref ga_placeLow, .ref ga_placeHigh, g_reached, g_mayThrow, .int g_status, .int g_hasRun, .int g_threw, .int g_whereThrown, g_value, g_means, g_laneOf, g_sizeOf, g_cells, g_copied, .long g_state, .long g_joinedLow, .long g_joinedHigh, g_keptLow, g_keptHigh])), (ga_there, .inl (cZ, 80, .inl f_46)), (ga_lanes, .inl (cI, 80, .inl f_47)), (ga_least, .inl (cJ, 80, .inr (.inl f_48))), (ga_most, .inl (cJ, 80, .inr (.inl f_49))), (ga_placeLow, .inl (cJ, 960, .inr (.inl f_50))), (ga_placeHigh, .inl (cJ, 960, .inr (.inl f_51)))]) hP hD [0, 1, 2, 3, 4, 5, 6] [] rfl rfl (by decide) (by decide) hk1 hFc hP1 hD1
      clear hPc hDc hFc hP1 hD1 hK1 hk1 hz1 hvm ht
      replace hP : va_P (dC, dI) vwCl [(gh, .inr (5, [.int g_acts, g_kind, g_na, g_nb, g_nc, g_nd, g_ne, g_dropped, g_live, g_low, g_high, g_sites, g_nulls, .ref ga_there, .ref ga_lanes, .ref ga_least, .ref ga_most, .ref ga_placeLow, .ref ga_placeHigh, g_reached, g_mayThrow, .int g_status, .int g_hasRun, .int g_threw, .int g_whereThrown, g_value, g_means, g_laneOf, g_sizeOf, g_cells, g_copied, .long g_state, .long g_joinedLow, .long g_joinedHigh, g_keptLow, g_keptHigh])), (ga_there, .inl (cZ, 80, .inl f_46)), (ga_lanes, .inl (cI, 80, .inl f_47)), (ga_least, .inl (cJ, 80, .inr (.inl f_48))), (ga_most, .inl (cJ, 80, .inr (.inl f_49))), (ga_placeLow, .inl (cJ, 960, .inr (.inl f_50))), (ga_placeHigh, .inl (cJ, 960, .inr (.inl f_51)))] H_45 := hP2
      replace hD : va_D A [(gh, .inr (5, [.int g_acts, g_kind, g_na, g_nb, g_nc, g_nd, g_ne, g_dropped, g_live, g_low, g_high, g_sites, g_nulls, .ref ga_there, .ref ga_lanes, .ref ga_least, .ref ga_most, .ref ga_placeLow, .ref ga_placeHigh, g_reached, g_mayThrow, .int g_status, .int g_hasRun, .int g_threw, .int g_whereThrown, g_value, g_means, g_laneOf, g_sizeOf, g_cells, g_copied, .long g_state, .long g_joinedLow, .long g_joinedHigh, g_keptLow, g_keptHigh])), (ga_there, .inl (cZ, 80, .inl f_46)), (ga_lanes, .inl (cI, 80, .inl f_47)), (ga_least, .inl (cJ, 80, .inr (.inl f_48))), (ga_most, .inl (cJ, 80, .inr (.inl f_49))), (ga_placeLow, .inl (cJ, 960, .inr (.inl f_50))), (ga_placeHigh, .inl (cJ, 960, .inr (.inl f_51)))] := hD2
      replace hS := hS1
      clear hP2 hD2 hS1
      replace hw_45 : (∀ j : Nat, kZ (f_46 j)) ∧ (∀ j : Nat, l12 (f_49 j)) := hw_45
      obtain ⟨h_f_46, h_f_49⟩ := hw_45
      have hP9 := hP.sub (ws' := [(gh, .inr (5, [.int g_acts, g_kind, g_na, g_nb, g_nc, g_nd, g_ne, g_dropped, g_live, g_low, g_high, g_sites, g_nulls, .ref ga_there, .ref ga_lanes, .ref ga_least, .ref ga_most, .ref ga_placeLow, .ref ga_placeHigh, g_reached, g_mayThrow, .int g_status, .int g_hasRun, .int g_threw, .int g_whereThrown, g_value, g_means, g_laneOf, g_sizeOf, g_cells, g_copied, .long g_state, .long g_joinedLow, .long g_joinedHigh, g_keptLow, g_keptHigh])), (ga_there, .inl (cZ, 80, .inl f_46)), (ga_lanes, .inl (cI, 80, .inl f_47)), (ga_least, .inl (cJ, 80, .inr (.inl f_48))), (ga_most, .inl (cJ, 80, .inr (.inl f_49))), (ga_placeLow, .inl (cJ, 960, .inr (.inl f_50))), (ga_placeHigh, .inl (cJ, 960, .inr (.inl f_51)))]) [0, 1, 2, 3, 4, 5, 6] rfl
      have hD9 := hD.sub (ws' := [(gh, .inr (5, [.int g_acts, g_kind, g_na, g_nb, g_nc, g_nd, g_ne, g_dropped, g_live, g_low, g_high, g_sites, g_nulls, .ref ga_there, .ref ga_lanes, .ref ga_least, .ref ga_most, .ref ga_placeLow, .ref ga_placeHigh, g_reached, g_mayThrow, .int g_status, .int g_hasRun, .int g_threw, .int g_whereThrown, g_value, g_means, g_laneOf, g_sizeOf, g_cells, g_copied, .long g_state, .long g_joinedLow, .long g_joinedHigh, g_keptLow, g_keptHigh])), (ga_there, .inl (cZ, 80, .inl f_46)), (ga_lanes, .inl (cI, 80, .inl f_47)), (ga_least, .inl (cJ, 80, .inr (.inl f_48))), (ga_most, .inl (cJ, 80, .inr (.inl f_49))), (ga_placeLow, .inl (cJ, 960, .inr (.inl f_50))), (ga_placeHigh, .inl (cJ, 960, .inr (.inl f_51)))]) [0, 1, 2, 3, 4, 5, 6] (by decide) rfl
      exact W.vret hx hb hr (fun t ht hW => ⟨⟨(f_46, f_47, f_48, f_49, f_50, f_51), rfl, ⟨(show ∀ j : Nat, kZ (f_46 j) from h_f_46), (show ∀ j : Nat, l12 (f_49 j) from h_f_49)⟩, by rw [ht]; exact hP9, va_K.moved hW.alike hK, hD9⟩, hS.F ht⟩) hS.2.2 dX5_joinSite_25
  · -- no
    have k_2 : v_1.toInt = (0 : Int32).toInt := ci_eq c_2
    have hP9 := hP.sub (ws' := [(gh, .inr (5, [.int g_acts, g_kind, g_na, g_nb, g_nc, g_nd, g_ne, g_dropped, g_live, g_low, g_high, g_sites, g_nulls, .ref ga_there, .ref ga_lanes, .ref ga_least, .ref ga_most, .ref ga_placeLow, .ref ga_placeHigh, g_reached, g_mayThrow, .int g_status, .int g_hasRun, .int g_threw, .int g_whereThrown, g_value, g_means, g_laneOf, g_sizeOf, g_cells, g_copied, .long g_state, .long g_joinedLow, .long g_joinedHigh, g_keptLow, g_keptHigh])), (ga_there, .inl (cZ, 80, .inl gc_there)), (ga_lanes, .inl (cI, 80, .inl gc_lanes)), (ga_least, .inl (cJ, 80, .inr (.inl gc_least))), (ga_most, .inl (cJ, 80, .inr (.inl gc_most))), (ga_placeLow, .inl (cJ, 960, .inr (.inl gc_placeLow))), (ga_placeHigh, .inl (cJ, 960, .inr (.inl gc_placeHigh)))]) [0, 1, 2, 3, 4, 5, 6] rfl
    have hD9 := hD.sub (ws' := [(gh, .inr (5, [.int g_acts, g_kind, g_na, g_nb, g_nc, g_nd, g_ne, g_dropped, g_live, g_low, g_high, g_sites, g_nulls, .ref ga_there, .ref ga_lanes, .ref ga_least, .ref ga_most, .ref ga_placeLow, .ref ga_placeHigh, g_reached, g_mayThrow, .int g_status, .int g_hasRun, .int g_threw, .int g_whereThrown, g_value, g_means, g_laneOf, g_sizeOf, g_cells, g_copied, .long g_state, .long g_joinedLow, .long g_joinedHigh, g_keptLow, g_keptHigh])), (ga_there, .inl (cZ, 80, .inl gc_there)), (ga_lanes, .inl (cI, 80, .inl gc_lanes)), (ga_least, .inl (cJ, 80, .inr (.inl gc_least))), (ga_most, .inl (cJ, 80, .inr (.inl gc_most))), (ga_placeLow, .inl (cJ, 960, .inr (.inl gc_placeLow))), (ga_placeHigh, .inl (cJ, 960, .inr (.inl gc_placeHigh)))]) [0, 1, 2, 3, 4, 5, 6] (by decide) rfl
    exact W.vret hx hb hr (fun t ht hW => ⟨⟨(gc_there, gc_lanes, gc_least, gc_most, gc_placeLow, gc_placeHigh), rfl, ⟨(show ∀ j : Nat, kZ (gc_there j) from h_gc_there), (show ∀ j : Nat, l12 (gc_most j) from h_gc_most)⟩, by rw [ht]; exact hP9, va_K.moved hW.alike hK, hD9⟩, hS.F ht⟩) hS.2.2 dX5_joinSite_9

def v_X5_copyBank : List Cond := .code yX5_copyBank cX5_copyBank 4 none :: ([.fieldLink RX5 32 "ArraySegmentsModel" "live" "[Z", .fieldLink RX5 35 "ArraySegmentsModel" "low" "[J", .fieldLink RX5 39 "ArraySegmentsModel" "high" "[J", .fieldLink RX5 42 "ArraySegmentsModel" "sites" "[J", .fieldLink RX5 45 "ArraySegmentsModel" "nulls" "[Z", .methodLink RX5 146 yX5_copySite, .instanceMethod yX5_copySite, .selects RX5 yX5_copySite yX5_copySite, .initialized RX5] ++ (wsX50 ++ (v_X5_copySite)))
theorem inv_X5_copyBank_X5 : ∀ w ∈ wsX50, w ∈ v_X5_copyBank := fun _ h => List.mem_cons_of_mem _ (List.mem_append_right _ (List.mem_append_left _ h))
theorem im_X5_copyBank_X5_copySite : ∀ w ∈ v_X5_copySite, w ∈ v_X5_copyBank := fun _ h => List.mem_cons_of_mem _ (List.mem_append_right _ (List.mem_append_right _ (h)))
set_option maxRecDepth 20000 in
theorem gd_X5_copyBank : gdL v_X5_copyBank := gdC (gdW (by decide +kernel)) (gdA (gdW (by decide +kernel)) (gdA gd_wsX50 gd_X5_copySite))
set_option maxRecDepth 20000 in
theorem h_X5_copyBank_X5_copySite_146 : GoodIn v_X5_copyBank (wsV RX5 146 RX5 yX5_copySite v_X5_copySite) := gdI [6, 7, 8, 9] rfl (by decide +kernel) (im_X5_copyBank_X5_copySite) gd_X5_copySite
abbrev sw_X5_copyBank (cI cJ cZ : ClassId) (gh : Nat) (g_acts : Int32) (g_kind : Value) (g_na : Value) (g_nb : Value) (g_nc : Value) (g_nd : Value) (g_ne : Value) (g_dropped : Value) (ga_live : Nat) (ga_low : Nat) (ga_high : Nat) (ga_sites : Nat) (ga_nulls : Nat) (ga_there : Nat) (ga_lanes : Nat) (ga_least : Nat) (ga_most : Nat) (ga_placeLow : Nat) (ga_placeHigh : Nat) (g_reached : Value) (g_mayThrow : Value) (g_status : Int32) (g_hasRun : Int32) (g_threw : Int32) (g_whereThrown : Int32) (g_value : Value) (g_means : Value) (g_laneOf : Value) (g_sizeOf : Value) (g_cells : Value) (g_copied : Value) (g_state : Int64) (g_joinedLow : Int64) (g_joinedHigh : Int64) (g_keptLow : Value) (g_keptHigh : Value) (gc_live : Nat → Int32) (gc_low : Nat → Int64) (gc_high : Nat → Int64) (gc_sites : Nat → Int64) (gc_nulls : Nat → Int32) (gc_there : Nat → Int32) (gc_lanes : Nat → Int32) (gc_least : Nat → Int64) (gc_most : Nat → Int64) (gc_placeLow : Nat → Int64) (gc_placeHigh : Nat → Int64) (aa : Int32) (ba : Int32) : va_W := [(gh, .inr (5, [.int g_acts, g_kind, g_na, g_nb, g_nc, g_nd, g_ne, g_dropped, .ref ga_live, .ref ga_low, .ref ga_high, .ref ga_sites, .ref ga_nulls, .ref ga_there, .ref ga_lanes, .ref ga_least, .ref ga_most, .ref ga_placeLow, .ref ga_placeHigh, g_reached, g_mayThrow, .int g_status, .int g_hasRun, .int g_threw, .int g_whereThrown, g_value, g_means, g_laneOf, g_sizeOf, g_cells, g_copied, .long g_state, .long g_joinedLow, .long g_joinedHigh, g_keptLow, g_keptHigh])), (ga_live, .inl (cZ, 2, .inl gc_live)), (ga_low, .inl (cJ, 12, .inr (.inl gc_low))), (ga_high, .inl (cJ, 12, .inr (.inl gc_high))), (ga_sites, .inl (cJ, 12, .inr (.inl gc_sites))), (ga_nulls, .inl (cZ, 12, .inl gc_nulls)), (ga_there, .inl (cZ, 80, .inl gc_there)), (ga_lanes, .inl (cI, 80, .inl gc_lanes)), (ga_least, .inl (cJ, 80, .inr (.inl gc_least))), (ga_most, .inl (cJ, 80, .inr (.inl gc_most))), (ga_placeLow, .inl (cJ, 960, .inr (.inl gc_placeLow))), (ga_placeHigh, .inl (cJ, 960, .inr (.inl gc_placeHigh)))]
set_option maxHeartbeats 8000000 in
set_option maxRecDepth 100000 in
theorem s_X5_copyBank (l : Launch) (dC : Nat → ClassId) (dI : Nat → Nat → Nat) (cI cJ cZ : ClassId) (gh : Nat) (g_acts : Int32) (g_kind : Value) (g_na : Value) (g_nb : Value) (g_nc : Value) (g_nd : Value) (g_ne : Value) (g_dropped : Value) (ga_live : Nat) (ga_low : Nat) (ga_high : Nat) (ga_sites : Nat) (ga_nulls : Nat) (ga_there : Nat) (ga_lanes : Nat) (ga_least : Nat) (ga_most : Nat) (ga_placeLow : Nat) (ga_placeHigh : Nat) (g_reached : Value) (g_mayThrow : Value) (g_status : Int32) (g_hasRun : Int32) (g_threw : Int32) (g_whereThrown : Int32) (g_value : Value) (g_means : Value) (g_laneOf : Value) (g_sizeOf : Value) (g_cells : Value) (g_copied : Value) (g_state : Int64) (g_joinedLow : Int64) (g_joinedHigh : Int64) (g_keptLow : Value) (g_keptHigh : Value) (gc_live : Nat → Int32) (gc_low : Nat → Int64) (gc_high : Nat → Int64) (gc_sites : Nat → Int64) (gc_nulls : Nat → Int32) (gc_there : Nat → Int32) (gc_lanes : Nat → Int32) (gc_least : Nat → Int64) (gc_most : Nat → Int64) (gc_placeLow : Nat → Int64) (gc_placeHigh : Nat → Int64) (aa : Int32) (ba : Int32) (sz : Nat) (q_g_hasRun : kZ g_hasRun) (h_gc_live : ∀ j : Nat, kZ (gc_live j)) (h_gc_nulls : ∀ j : Nat, kZ (gc_nulls j)) (h_gc_there : ∀ j : Nat, kZ (gc_there j)) (h_gc_most : ∀ j : Nat, l12 (gc_most j)) (hy_aa : 0 ≤ aa.toInt ∧ aa.toInt ≤ 1) (hy_ba : 0 ≤ ba.toInt ∧ ba.toInt ≤ 1) : Met l yX5_copyBank v_X5_copyBank ({ frames := 1, cells := 0, slots := 0, locals := 23 }) (va_Pc [.ref gh, .int aa, .int ba] (cPre dC dI cI cJ cZ sz (sw_X5_copyBank cI cJ cZ gh g_acts g_kind g_na g_nb g_nc g_nd g_ne g_dropped ga_live ga_low ga_high ga_sites ga_nulls ga_there ga_lanes ga_least ga_most ga_placeLow ga_placeHigh g_reached g_mayThrow g_status g_hasRun g_threw g_whereThrown g_value g_means g_laneOf g_sizeOf g_cells g_copied g_state g_joinedLow g_joinedHigh g_keptLow g_keptHigh gc_live gc_low gc_high gc_sites gc_nulls gc_there gc_lanes gc_least gc_most gc_placeLow gc_placeHigh aa ba))) (va_Qv (fun (u : (Nat → Int32) × (Nat → Int64) × (Nat → Int64) × (Nat → Int64) × (Nat → Int32) × (Nat → Int32) × (Nat → Int32) × (Nat → Int64) × (Nat → Int64) × (Nat → Int64) × (Nat → Int64)) => (∀ j : Nat, kZ ((u.1) j)) ∧ (∀ j : Nat, kZ ((u.2.2.2.2.1) j)) ∧ (∀ j : Nat, kZ ((u.2.2.2.2.2.1) j)) ∧ (∀ j : Nat, l12 ((u.2.2.2.2.2.2.2.2.1) j))) (fun (u : (Nat → Int32) × (Nat → Int64) × (Nat → Int64) × (Nat → Int64) × (Nat → Int32) × (Nat → Int32) × (Nat → Int32) × (Nat → Int64) × (Nat → Int64) × (Nat → Int64) × (Nat → Int64)) => cPost dC dI cI cJ cZ (va_A (sw_X5_copyBank cI cJ cZ gh g_acts g_kind g_na g_nb g_nc g_nd g_ne g_dropped ga_live ga_low ga_high ga_sites ga_nulls ga_there ga_lanes ga_least ga_most ga_placeLow ga_placeHigh g_reached g_mayThrow g_status g_hasRun g_threw g_whereThrown g_value g_means g_laneOf g_sizeOf g_cells g_copied g_state g_joinedLow g_joinedHigh g_keptLow g_keptHigh gc_live gc_low gc_high gc_sites gc_nulls gc_there gc_lanes gc_least gc_most gc_placeLow gc_placeHigh aa ba) sz) [(gh, .inr (5, [.int g_acts, g_kind, g_na, g_nb, g_nc, g_nd, g_ne, g_dropped, .ref ga_live, .ref ga_low, .ref ga_high, .ref ga_sites, .ref ga_nulls, .ref ga_there, .ref ga_lanes, .ref ga_least, .ref ga_most, .ref ga_placeLow, .ref ga_placeHigh, g_reached, g_mayThrow, .int g_status, .int g_hasRun, .int g_threw, .int g_whereThrown, g_value, g_means, g_laneOf, g_sizeOf, g_cells, g_copied, .long g_state, .long g_joinedLow, .long g_joinedHigh, g_keptLow, g_keptHigh])), (ga_live, .inl (cZ, 2, .inl (u.1))), (ga_low, .inl (cJ, 12, .inr (.inl (u.2.1)))), (ga_high, .inl (cJ, 12, .inr (.inl (u.2.2.1)))), (ga_sites, .inl (cJ, 12, .inr (.inl (u.2.2.2.1)))), (ga_nulls, .inl (cZ, 12, .inl (u.2.2.2.2.1))), (ga_there, .inl (cZ, 80, .inl (u.2.2.2.2.2.1))), (ga_lanes, .inl (cI, 80, .inl (u.2.2.2.2.2.2.1))), (ga_least, .inl (cJ, 80, .inr (.inl (u.2.2.2.2.2.2.2.1)))), (ga_most, .inl (cJ, 80, .inr (.inl (u.2.2.2.2.2.2.2.2.1)))), (ga_placeLow, .inl (cJ, 960, .inr (.inl (u.2.2.2.2.2.2.2.2.2.1)))), (ga_placeHigh, .inl (cJ, 960, .inr (.inl (u.2.2.2.2.2.2.2.2.2.2))))]) (va_A (sw_X5_copyBank cI cJ cZ gh g_acts g_kind g_na g_nb g_nc g_nd g_ne g_dropped ga_live ga_low ga_high ga_sites ga_nulls ga_there ga_lanes ga_least ga_most ga_placeLow ga_placeHigh g_reached g_mayThrow g_status g_hasRun g_threw g_whereThrown g_value g_means g_laneOf g_sizeOf g_cells g_copied g_state g_joinedLow g_joinedHigh g_keptLow g_keptHigh gc_live gc_low gc_high gc_sites gc_nulls gc_there gc_lanes gc_least gc_most gc_placeLow gc_placeHigh aa ba) sz)) 0 0 (va_A (sw_X5_copyBank cI cJ cZ gh g_acts g_kind g_na g_nb g_nc g_nd g_ne g_dropped ga_live ga_low ga_high ga_sites ga_nulls ga_there ga_lanes ga_least ga_most ga_placeLow ga_placeHigh g_reached g_mayThrow g_status g_hasRun g_threw g_whereThrown g_value g_means g_laneOf g_sizeOf g_cells g_copied g_state g_joinedLow g_joinedHigh g_keptLow g_keptHigh gc_live gc_low gc_high gc_sites gc_nulls gc_there gc_lanes gc_least gc_most gc_placeLow gc_placeHigh aa ba) sz) := by
  refine Met.ofW (cc := cX5_copyBank) (maxL := 4) (ret := none) (by decide) rfl ?_
  intro p e s m args below meth c s₁ B hml hv
  obtain ⟨rfl, hsz, hP, hK, hD0, hN⟩ := hv
  have hx := B.exec
  have hb := B.bytes
  have hr := B.returns
  have hts := atoms_spec (ws := v_X5_copyBank) B.pre
  have hown : s.vm.findClass RX5 = some m.cls := findClass_of_methodNamed B.named
  have hlocks := B.notSynchronized
  subst hsz
  have hD := hD0.self (sz := s.heap.size)
  generalize hAe : va_A (sw_X5_copyBank cI cJ cZ gh g_acts g_kind g_na g_nb g_nc g_nd g_ne g_dropped ga_live ga_low ga_high ga_sites ga_nulls ga_there ga_lanes ga_least ga_most ga_placeLow ga_placeHigh g_reached g_mayThrow g_status g_hasRun g_threw g_whereThrown g_value g_means g_laneOf g_sizeOf g_cells g_copied g_state g_joinedLow g_joinedHigh g_keptLow g_keptHigh gc_live gc_low gc_high gc_sites gc_nulls gc_there gc_lanes gc_least gc_most gc_placeLow gc_placeHigh aa ba) s.heap.size = A at hD ⊢
  have hA : ∀ q : Nat, s.heap.size ≤ q → A q := fun q h => by rw [← hAe]; exact Or.inr h
  clear hAe hD0
  have hS : va_S A s.heap s.heap [] := va_S.rf
  replace hP : va_P (dC, dI) vwCl [(gh, .inr (5, [.int g_acts, g_kind, g_na, g_nb, g_nc, g_nd, g_ne, g_dropped, .ref ga_live, .ref ga_low, .ref ga_high, .ref ga_sites, .ref ga_nulls, .ref ga_there, .ref ga_lanes, .ref ga_least, .ref ga_most, .ref ga_placeLow, .ref ga_placeHigh, g_reached, g_mayThrow, .int g_status, .int g_hasRun, .int g_threw, .int g_whereThrown, g_value, g_means, g_laneOf, g_sizeOf, g_cells, g_copied, .long g_state, .long g_joinedLow, .long g_joinedHigh, g_keptLow, g_keptHigh])), (ga_live, .inl (cZ, 2, .inl gc_live)), (ga_low, .inl (cJ, 12, .inr (.inl gc_low))), (ga_high, .inl (cJ, 12, .inr (.inl gc_high))), (ga_sites, .inl (cJ, 12, .inr (.inl gc_sites))), (ga_nulls, .inl (cZ, 12, .inl gc_nulls)), (ga_there, .inl (cZ, 80, .inl gc_there)), (ga_lanes, .inl (cI, 80, .inl gc_lanes)), (ga_least, .inl (cJ, 80, .inr (.inl gc_least))), (ga_most, .inl (cJ, 80, .inr (.inl gc_most))), (ga_placeLow, .inl (cJ, 960, .inr (.inl gc_placeLow))), (ga_placeHigh, .inl (cJ, 960, .inr (.inl gc_placeHigh)))] s.heap := hP
  replace hD : va_D A [(gh, .inr (5, [.int g_acts, g_kind, g_na, g_nb, g_nc, g_nd, g_ne, g_dropped, .ref ga_live, .ref ga_low, .ref ga_high, .ref ga_sites, .ref ga_nulls, .ref ga_there, .ref ga_lanes, .ref ga_least, .ref ga_most, .ref ga_placeLow, .ref ga_placeHigh, g_reached, g_mayThrow, .int g_status, .int g_hasRun, .int g_threw, .int g_whereThrown, g_value, g_means, g_laneOf, g_sizeOf, g_cells, g_copied, .long g_state, .long g_joinedLow, .long g_joinedHigh, g_keptLow, g_keptHigh])), (ga_live, .inl (cZ, 2, .inl gc_live)), (ga_low, .inl (cJ, 12, .inr (.inl gc_low))), (ga_high, .inl (cJ, 12, .inr (.inl gc_high))), (ga_sites, .inl (cJ, 12, .inr (.inl gc_sites))), (ga_nulls, .inl (cZ, 12, .inl gc_nulls)), (ga_there, .inl (cZ, 80, .inl gc_there)), (ga_lanes, .inl (cI, 80, .inl gc_lanes)), (ga_least, .inl (cJ, 80, .inr (.inl gc_least))), (ga_most, .inl (cJ, 80, .inr (.inl gc_most))), (ga_placeLow, .inl (cJ, 960, .inr (.inl gc_placeLow))), (ga_placeHigh, .inl (cJ, 960, .inr (.inl gc_placeHigh)))] := hD
  have hl := lv_entry ([.ref gh, .int aa, .int ba]) (n := 4) (Nat.le_of_ble_eq_true rfl)
  rw [lg_entry_eq]
  generalize (lg_sl ([.ref gh, .int aa, .int ba]) ++ List.replicate (4 - (lg_sl ([.ref gh, .int aa, .int ba])).length) Slot.unset).toArray = ls at hl ⊢
  replace hl : lv_has ls 4 [(0, .ref gh), (1, .int aa), (2, .int ba)] := hl
  have z_0 : (0 : Int32).toInt = 0 := by decide
  have z_1 : (1 : Int32).toInt = 1 := by decide
  have z_6 : (6 : Int32).toInt = 6 := by decide
  have z_40 : (40 : Int32).toInt = 40 := by decide
  refine lv_aload_n hx hb dX5_copyBank_0 rfl (lv_at hl 0 rfl) ?_
  refine va_get (D := (dC, dI)) (ci := 5) (v := .ref ga_live) (C := RX5) (T := TX5) (N := 36) hx hb hts inv_X5_copyBank_X5 hown hK hP 0 rfl rfl 8 (by decide) (hts (.fieldLink RX5 32 "ArraySegmentsModel" "live" "[Z") (List.mem_of_getElem? (i := 1) rfl)) (fun _ h9 => h9) rfl dX5_copyBank_1 ?_
  refine lv_iload_n hx hb dX5_copyBank_4 rfl (lv_at hl 2 rfl) ?_
  refine lv_aload_n hx hb dX5_copyBank_5 rfl (lv_at hl 0 rfl) ?_
  refine va_get (D := (dC, dI)) (ci := 5) (v := .ref ga_live) (C := RX5) (T := TX5) (N := 36) hx hb hts inv_X5_copyBank_X5 hown hK hP 0 rfl rfl 8 (by decide) (hts (.fieldLink RX5 32 "ArraySegmentsModel" "live" "[Z") (List.mem_of_getElem? (i := 1) rfl)) (fun _ h9 => h9) rfl dX5_copyBank_6 ?_
  refine lv_iload_n hx hb dX5_copyBank_9 rfl (lv_at hl 1 rfl) ?_
  refine sf_zald kZ hx hb hK hP 1 2 rfl rfl h_gc_live (vp_in_iff.mpr ⟨by omega, by omega⟩) dX5_copyBank_10 (fun v_1 q_v_1 e_v_1 => ?_)
  refine sf_zast hx hb hK hP hD hS 1 2 rfl rfl h_gc_live (vp_in_iff.mpr ⟨by omega, by omega⟩) dX5_copyBank_11 (fun f_2 h_f_2 e_f_2 H_3 locs_3 hP1 hD1 hS1 => ?_)
  replace hP : va_P (dC, dI) vwCl [(gh, .inr (5, [.int g_acts, g_kind, g_na, g_nb, g_nc, g_nd, g_ne, g_dropped, .ref ga_live, .ref ga_low, .ref ga_high, .ref ga_sites, .ref ga_nulls, .ref ga_there, .ref ga_lanes, .ref ga_least, .ref ga_most, .ref ga_placeLow, .ref ga_placeHigh, g_reached, g_mayThrow, .int g_status, .int g_hasRun, .int g_threw, .int g_whereThrown, g_value, g_means, g_laneOf, g_sizeOf, g_cells, g_copied, .long g_state, .long g_joinedLow, .long g_joinedHigh, g_keptLow, g_keptHigh])), (ga_live, .inl (cZ, 2, .inl f_2)), (ga_low, .inl (cJ, 12, .inr (.inl gc_low))), (ga_high, .inl (cJ, 12, .inr (.inl gc_high))), (ga_sites, .inl (cJ, 12, .inr (.inl gc_sites))), (ga_nulls, .inl (cZ, 12, .inl gc_nulls)), (ga_there, .inl (cZ, 80, .inl gc_there)), (ga_lanes, .inl (cI, 80, .inl gc_lanes)), (ga_least, .inl (cJ, 80, .inr (.inl gc_least))), (ga_most, .inl (cJ, 80, .inr (.inl gc_most))), (ga_placeLow, .inl (cJ, 960, .inr (.inl gc_placeLow))), (ga_placeHigh, .inl (cJ, 960, .inr (.inl gc_placeHigh)))] H_3 := hP1
  replace hD : va_D A [(gh, .inr (5, [.int g_acts, g_kind, g_na, g_nb, g_nc, g_nd, g_ne, g_dropped, .ref ga_live, .ref ga_low, .ref ga_high, .ref ga_sites, .ref ga_nulls, .ref ga_there, .ref ga_lanes, .ref ga_least, .ref ga_most, .ref ga_placeLow, .ref ga_placeHigh, g_reached, g_mayThrow, .int g_status, .int g_hasRun, .int g_threw, .int g_whereThrown, g_value, g_means, g_laneOf, g_sizeOf, g_cells, g_copied, .long g_state, .long g_joinedLow, .long g_joinedHigh, g_keptLow, g_keptHigh])), (ga_live, .inl (cZ, 2, .inl f_2)), (ga_low, .inl (cJ, 12, .inr (.inl gc_low))), (ga_high, .inl (cJ, 12, .inr (.inl gc_high))), (ga_sites, .inl (cJ, 12, .inr (.inl gc_sites))), (ga_nulls, .inl (cZ, 12, .inl gc_nulls)), (ga_there, .inl (cZ, 80, .inl gc_there)), (ga_lanes, .inl (cI, 80, .inl gc_lanes)), (ga_least, .inl (cJ, 80, .inr (.inl gc_least))), (ga_most, .inl (cJ, 80, .inr (.inl gc_most))), (ga_placeLow, .inl (cJ, 960, .inr (.inl gc_placeLow))), (ga_placeHigh, .inl (cJ, 960, .inr (.inl gc_placeHigh)))] := hD1
  replace hS := hS1
  clear hP1 hD1 hS1
  refine lv_iconst (v := 0) hx hb dX5_copyBank_12 (by decide) ?_
  refine lv_istore_n (lv' := [(3, .int 0), (0, .ref gh), (1, .int aa), (2, .int ba)]) hx hb dX5_copyBank_13 rfl hl (by decide) rfl (fun ls1 hl1 => ?_)
  replace hl := hl1; clear hl1
  refine my_wloop (S := Int32 × (Nat → Int64) × (Nat → Int64) × (Nat → Int64) × (Nat → Int32)) (fun u => (0 ≤ (u.1).toInt ∧ (u.1).toInt ≤ 6) ∧ (∀ j : Nat, kZ ((u.2.2.2.2) j))) (fun u => (6 - (u.1).toInt).toNat) (fun u => [(gh, .inr (5, [.int g_acts, g_kind, g_na, g_nb, g_nc, g_nd, g_ne, g_dropped, .ref ga_live, .ref ga_low, .ref ga_high, .ref ga_sites, .ref ga_nulls, .ref ga_there, .ref ga_lanes, .ref ga_least, .ref ga_most, .ref ga_placeLow, .ref ga_placeHigh, g_reached, g_mayThrow, .int g_status, .int g_hasRun, .int g_threw, .int g_whereThrown, g_value, g_means, g_laneOf, g_sizeOf, g_cells, g_copied, .long g_state, .long g_joinedLow, .long g_joinedHigh, g_keptLow, g_keptHigh])), (ga_live, .inl (cZ, 2, .inl f_2)), (ga_low, .inl (cJ, 12, .inr (.inl (u.2.1)))), (ga_high, .inl (cJ, 12, .inr (.inl (u.2.2.1)))), (ga_sites, .inl (cJ, 12, .inr (.inl (u.2.2.2.1)))), (ga_nulls, .inl (cZ, 12, .inl (u.2.2.2.2))), (ga_there, .inl (cZ, 80, .inl gc_there)), (ga_lanes, .inl (cI, 80, .inl gc_lanes)), (ga_least, .inl (cJ, 80, .inr (.inl gc_least))), (ga_most, .inl (cJ, 80, .inr (.inl gc_most))), (ga_placeLow, .inl (cJ, 960, .inr (.inl gc_placeLow))), (ga_placeHigh, .inl (cJ, 960, .inr (.inl gc_placeHigh)))]) (fun u => [(3, .int (u.1)), (0, .ref gh), (1, .int aa), (2, .int ba)]) (H0 := s.heap) (A := A) (D := (dC, dI)) (cl := vwCl) ((0 : Int32), gc_low, gc_high, gc_sites, gc_nulls) (show (0 ≤ (0 : Int32).toInt ∧ (0 : Int32).toInt ≤ 6) ∧ (∀ j : Nat, kZ (gc_nulls j)) from ⟨⟨by omega, by omega⟩, h_gc_nulls⟩) (by exact hP) (by exact hD) hS (by exact hl) (fun u_4 hu_4 ih_4 H_4 locs_4 ls1 hP1 hD1 hS1 hl1 => ?_)
  obtain ⟨v_5, f_6, f_7, f_8, f_9⟩ := u_4
  replace hu_4 : (0 ≤ v_5.toInt ∧ v_5.toInt ≤ 6) ∧ (∀ j : Nat, kZ (f_9 j)) := hu_4
  obtain ⟨q_v_5, h_f_9⟩ := hu_4
  replace hP : va_P (dC, dI) vwCl [(gh, .inr (5, [.int g_acts, g_kind, g_na, g_nb, g_nc, g_nd, g_ne, g_dropped, .ref ga_live, .ref ga_low, .ref ga_high, .ref ga_sites, .ref ga_nulls, .ref ga_there, .ref ga_lanes, .ref ga_least, .ref ga_most, .ref ga_placeLow, .ref ga_placeHigh, g_reached, g_mayThrow, .int g_status, .int g_hasRun, .int g_threw, .int g_whereThrown, g_value, g_means, g_laneOf, g_sizeOf, g_cells, g_copied, .long g_state, .long g_joinedLow, .long g_joinedHigh, g_keptLow, g_keptHigh])), (ga_live, .inl (cZ, 2, .inl f_2)), (ga_low, .inl (cJ, 12, .inr (.inl f_6))), (ga_high, .inl (cJ, 12, .inr (.inl f_7))), (ga_sites, .inl (cJ, 12, .inr (.inl f_8))), (ga_nulls, .inl (cZ, 12, .inl f_9)), (ga_there, .inl (cZ, 80, .inl gc_there)), (ga_lanes, .inl (cI, 80, .inl gc_lanes)), (ga_least, .inl (cJ, 80, .inr (.inl gc_least))), (ga_most, .inl (cJ, 80, .inr (.inl gc_most))), (ga_placeLow, .inl (cJ, 960, .inr (.inl gc_placeLow))), (ga_placeHigh, .inl (cJ, 960, .inr (.inl gc_placeHigh)))] H_4 := hP1
  replace hD : va_D A [(gh, .inr (5, [.int g_acts, g_kind, g_na, g_nb, g_nc, g_nd, g_ne, g_dropped, .ref ga_live, .ref ga_low, .ref ga_high, .ref ga_sites, .ref ga_nulls, .ref ga_there, .ref ga_lanes, .ref ga_least, .ref ga_most, .ref ga_placeLow, .ref ga_placeHigh, g_reached, g_mayThrow, .int g_status, .int g_hasRun, .int g_threw, .int g_whereThrown, g_value, g_means, g_laneOf, g_sizeOf, g_cells, g_copied, .long g_state, .long g_joinedLow, .long g_joinedHigh, g_keptLow, g_keptHigh])), (ga_live, .inl (cZ, 2, .inl f_2)), (ga_low, .inl (cJ, 12, .inr (.inl f_6))), (ga_high, .inl (cJ, 12, .inr (.inl f_7))), (ga_sites, .inl (cJ, 12, .inr (.inl f_8))), (ga_nulls, .inl (cZ, 12, .inl f_9)), (ga_there, .inl (cZ, 80, .inl gc_there)), (ga_lanes, .inl (cI, 80, .inl gc_lanes)), (ga_least, .inl (cJ, 80, .inr (.inl gc_least))), (ga_most, .inl (cJ, 80, .inr (.inl gc_most))), (ga_placeLow, .inl (cJ, 960, .inr (.inl gc_placeLow))), (ga_placeHigh, .inl (cJ, 960, .inr (.inl gc_placeHigh)))] := hD1
  replace hS := hS1
  clear hP1 hD1 hS1
  replace hl : lv_has ls1 4 [(3, .int v_5), (0, .ref gh), (1, .int aa), (2, .int ba)] := hl1
  clear hl1
  refine lv_iload_n hx hb dX5_copyBank_14 rfl (lv_at hl 0 rfl) ?_
  refine lv_bipush (v := 6) hx hb dX5_copyBank_15 (by decide) ?_
  refine lv_icmp_ge (tgt := 114) hx hb dX5_copyBank_17 (by decide) (fun c_10 => ?_) (fun c_10 => ?_)
  · -- yes
    have k_10 : (6 : Int32).toInt ≤ v_5.toInt := ci_ge c_10
    refine lv_iconst (v := 0) hx hb dX5_copyBank_114 (by decide) ?_
    refine lv_istore_n (lv' := [(3, .int 0), (0, .ref gh), (1, .int aa), (2, .int ba)]) hx hb dX5_copyBank_115 rfl hl (by decide) rfl (fun ls1 hl1 => ?_)
    replace hl := hl1; clear hl1
    refine my_wloop (S := Int32 × (Nat → Int32) × (Nat → Int32) × (Nat → Int64) × (Nat → Int64) × (Nat → Int64) × (Nat → Int64)) (fun u => (0 ≤ (u.1).toInt ∧ (u.1).toInt ≤ 40) ∧ (∀ j : Nat, kZ ((u.2.1) j)) ∧ (∀ j : Nat, l12 ((u.2.2.2.2.1) j))) (fun u => (40 - (u.1).toInt).toNat) (fun u => [(gh, .inr (5, [.int g_acts, g_kind, g_na, g_nb, g_nc, g_nd, g_ne, g_dropped, .ref ga_live, .ref ga_low, .ref ga_high, .ref ga_sites, .ref ga_nulls, .ref ga_there, .ref ga_lanes, .ref ga_least, .ref ga_most, .ref ga_placeLow, .ref ga_placeHigh, g_reached, g_mayThrow, .int g_status, .int g_hasRun, .int g_threw, .int g_whereThrown, g_value, g_means, g_laneOf, g_sizeOf, g_cells, g_copied, .long g_state, .long g_joinedLow, .long g_joinedHigh, g_keptLow, g_keptHigh])), (ga_live, .inl (cZ, 2, .inl f_2)), (ga_low, .inl (cJ, 12, .inr (.inl f_6))), (ga_high, .inl (cJ, 12, .inr (.inl f_7))), (ga_sites, .inl (cJ, 12, .inr (.inl f_8))), (ga_nulls, .inl (cZ, 12, .inl f_9)), (ga_there, .inl (cZ, 80, .inl (u.2.1))), (ga_lanes, .inl (cI, 80, .inl (u.2.2.1))), (ga_least, .inl (cJ, 80, .inr (.inl (u.2.2.2.1)))), (ga_most, .inl (cJ, 80, .inr (.inl (u.2.2.2.2.1)))), (ga_placeLow, .inl (cJ, 960, .inr (.inl (u.2.2.2.2.2.1)))), (ga_placeHigh, .inl (cJ, 960, .inr (.inl (u.2.2.2.2.2.2))))]) (fun u => [(3, .int (u.1)), (0, .ref gh), (1, .int aa), (2, .int ba)]) (H0 := s.heap) (A := A) (D := (dC, dI)) (cl := vwCl) ((0 : Int32), gc_there, gc_lanes, gc_least, gc_most, gc_placeLow, gc_placeHigh) (show (0 ≤ (0 : Int32).toInt ∧ (0 : Int32).toInt ≤ 40) ∧ (∀ j : Nat, kZ (gc_there j)) ∧ (∀ j : Nat, l12 (gc_most j)) from ⟨⟨by omega, by omega⟩, h_gc_there, h_gc_most⟩) (by exact hP) (by exact hD) hS (by exact hl) (fun u_11 hu_11 ih_11 H_11 locs_11 ls1 hP1 hD1 hS1 hl1 => ?_)
    obtain ⟨v_12, f_13, f_14, f_15, f_16, f_17, f_18⟩ := u_11
    replace hu_11 : (0 ≤ v_12.toInt ∧ v_12.toInt ≤ 40) ∧ (∀ j : Nat, kZ (f_13 j)) ∧ (∀ j : Nat, l12 (f_16 j)) := hu_11
    obtain ⟨q_v_12, h_f_13, h_f_16⟩ := hu_11
    replace hP : va_P (dC, dI) vwCl [(gh, .inr (5, [.int g_acts, g_kind, g_na, g_nb, g_nc, g_nd, g_ne, g_dropped, .ref ga_live, .ref ga_low, .ref ga_high, .ref ga_sites, .ref ga_nulls, .ref ga_there, .ref ga_lanes, .ref ga_least, .ref ga_most, .ref ga_placeLow, .ref ga_placeHigh, g_reached, g_mayThrow, .int g_status, .int g_hasRun, .int g_threw, .int g_whereThrown, g_value, g_means, g_laneOf, g_sizeOf, g_cells, g_copied, .long g_state, .long g_joinedLow, .long g_joinedHigh, g_keptLow, g_keptHigh])), (ga_live, .inl (cZ, 2, .inl f_2)), (ga_low, .inl (cJ, 12, .inr (.inl f_6))), (ga_high, .inl (cJ, 12, .inr (.inl f_7))), (ga_sites, .inl (cJ, 12, .inr (.inl f_8))), (ga_nulls, .inl (cZ, 12, .inl f_9)), (ga_there, .inl (cZ, 80, .inl f_13)), (ga_lanes, .inl (cI, 80, .inl f_14)), (ga_least, .inl (cJ, 80, .inr (.inl f_15))), (ga_most, .inl (cJ, 80, .inr (.inl f_16))), (ga_placeLow, .inl (cJ, 960, .inr (.inl f_17))), (ga_placeHigh, .inl (cJ, 960, .inr (.inl f_18)))] H_11 := hP1
    replace hD : va_D A [(gh, .inr (5, [.int g_acts, g_kind, g_na, g_nb, g_nc, g_nd, g_ne, g_dropped, .ref ga_live, .ref ga_low, .ref ga_high, .ref ga_sites, .ref ga_nulls, .ref ga_there, .ref ga_lanes, .ref ga_least, .ref ga_most, .ref ga_placeLow, .ref ga_placeHigh, g_reached, g_mayThrow, .int g_status, .int g_hasRun, .int g_threw, .int g_whereThrown, g_value, g_means, g_laneOf, g_sizeOf, g_cells, g_copied, .long g_state, .long g_joinedLow, .long g_joinedHigh, g_keptLow, g_keptHigh])), (ga_live, .inl (cZ, 2, .inl f_2)), (ga_low, .inl (cJ, 12, .inr (.inl f_6))), (ga_high, .inl (cJ, 12, .inr (.inl f_7))), (ga_sites, .inl (cJ, 12, .inr (.inl f_8))), (ga_nulls, .inl (cZ, 12, .inl f_9)), (ga_there, .inl (cZ, 80, .inl f_13)), (ga_lanes, .inl (cI, 80, .inl f_14)), (ga_least, .inl (cJ, 80, .inr (.inl f_15))), (ga_most, .inl (cJ, 80, .inr (.inl f_16))), (ga_placeLow, .inl (cJ, 960, .inr (.inl f_17))), (ga_placeHigh, .inl (cJ, 960, .inr (.inl f_18)))] := hD1
    replace hS := hS1
    clear hP1 hD1 hS1
    replace hl : lv_has ls1 4 [(3, .int v_12), (0, .ref gh), (1, .int aa), (2, .int ba)] := hl1
    clear hl1
    refine lv_iload_n hx hb dX5_copyBank_116 rfl (lv_at hl 0 rfl) ?_
    refine lv_bipush (v := 40) hx hb dX5_copyBank_117 (by decide) ?_
    refine lv_icmp_ge (tgt := 144) hx hb dX5_copyBank_119 (by decide) (fun c_19 => ?_) (fun c_19 => ?_)
    · -- yes
      have k_19 : (40 : Int32).toInt ≤ v_12.toInt := ci_ge c_19
      have hP9 := hP.sub (ws' := [(gh, .inr (5, [.int g_acts, g_kind, g_na, g_nb, g_nc, g_nd, g_ne, g_dropped, .ref ga_live, .ref ga_low, .ref ga_high, .ref ga_sites, .ref ga_nulls, .ref ga_there, .ref ga_lanes, .ref ga_least, .ref ga_most, .ref ga_placeLow, .ref ga_placeHigh, g_reached, g_mayThrow, .int g_status, .int g_hasRun, .int g_threw, .int g_whereThrown, g_value, g_means, g_laneOf, g_sizeOf, g_cells, g_copied, .long g_state, .long g_joinedLow, .long g_joinedHigh, g_keptLow, g_keptHigh])), (ga_live, .inl (cZ, 2, .inl f_2)), (ga_low, .inl (cJ, 12, .inr (.inl f_6))), (ga_high, .inl (cJ, 12, .inr (.inl f_7))), (ga_sites, .inl (cJ, 12, .inr (.inl f_8))), (ga_nulls, .inl (cZ, 12, .inl f_9)), (ga_there, .inl (cZ, 80, .inl f_13)), (ga_lanes, .inl (cI, 80, .inl f_14)), (ga_least, .inl (cJ, 80, .inr (.inl f_15))), (ga_most, .inl (cJ, 80, .inr (.inl f_16))), (ga_placeLow, .inl (cJ, 960, .inr (.inl f_17))), (ga_placeHigh, .inl (cJ, 960, .inr (.inl f_18)))]) [0, 1, 2, 3, 4, 5, 6, 7, 8, 9, 10, 11] rfl
      have hD9 := hD.sub (ws' := [(gh, .inr (5, [.int g_acts, g_kind, g_na, g_nb, g_nc, g_nd, g_ne, g_dropped, .ref ga_live, .ref ga_low, .ref ga_high, .ref ga_sites, .ref ga_nulls, .ref ga_there, .ref ga_lanes, .ref ga_least, .ref ga_most, .ref ga_placeLow, .ref ga_placeHigh, g_reached, g_mayThrow, .int g_status, .int g_hasRun, .int g_threw, .int g_whereThrown, g_value, g_means, g_laneOf, g_sizeOf, g_cells, g_copied, .long g_state, .long g_joinedLow, .long g_joinedHigh, g_keptLow, g_keptHigh])), (ga_live, .inl (cZ, 2, .inl f_2)), (ga_low, .inl (cJ, 12, .inr (.inl f_6))), (ga_high, .inl (cJ, 12, .inr (.inl f_7))), (ga_sites, .inl (cJ, 12, .inr (.inl f_8))), (ga_nulls, .inl (cZ, 12, .inl f_9)), (ga_there, .inl (cZ, 80, .inl f_13)), (ga_lanes, .inl (cI, 80, .inl f_14)), (ga_least, .inl (cJ, 80, .inr (.inl f_15))), (ga_most, .inl (cJ, 80, .inr (.inl f_16))), (ga_placeLow, .inl (cJ, 960, .inr (.inl f_17))), (ga_placeHigh, .inl (cJ, 960, .inr (.inl f_18)))]) [0, 1, 2, 3, 4, 5, 6, 7, 8, 9, 10, 11] (by decide) rfl
      exact W.vret hx hb hr (fun t ht hW => ⟨⟨(f_2, f_6, f_7, f_8, f_9, f_13, f_14, f_15, f_16, f_17, f_18), rfl, ⟨(show ∀ j : Nat, kZ (f_2 j) from h_f_2), (show ∀ j : Nat, kZ (f_9 j) from h_f_9), (show ∀ j : Nat, kZ (f_13 j) from h_f_13), (show ∀ j : Nat, l12 (f_16 j) from h_f_16)⟩, by rw [ht]; exact hP9, va_K.moved hW.alike hK, hD9⟩, hS.F ht⟩) hS.2.2 dX5_copyBank_144
    · -- no
      have k_19 : v_12.toInt < (40 : Int32).toInt := ci_nge c_19
      refine lv_aload_n hx hb dX5_copyBank_122 rfl (lv_at hl 1 rfl) ?_
      refine lv_bipush (v := 40) hx hb dX5_copyBank_123 (by decide) ?_
      refine lv_iload_n hx hb dX5_copyBank_125 rfl (lv_at hl 2 rfl) ?_
      refine sf_imul (w := 40) (z := aa.toInt) hx hb dX5_copyBank_126 (by decide) rfl ⟨by omega, by omega⟩ (fun v_20 q_v_20 => ?_)
      refine lv_iload_n hx hb dX5_copyBank_127 rfl (lv_at hl 0 rfl) ?_
      refine sf_iadd hx hb dX5_copyBank_128 ⟨by omega, by omega⟩ (fun v_21 q_v_21 => ?_)
      refine lv_bipush (v := 40) hx hb dX5_copyBank_129 (by decide) ?_
      refine lv_iload_n hx hb dX5_copyBank_131 rfl (lv_at hl 3 rfl) ?_
      refine sf_imul (w := 40) (z := ba.toInt) hx hb dX5_copyBank_132 (by decide) rfl ⟨by omega, by omega⟩ (fun v_22 q_v_22 => ?_)
      refine lv_iload_n hx hb dX5_copyBank_133 rfl (lv_at hl 0 rfl) ?_
      refine sf_iadd hx hb dX5_copyBank_134 ⟨by omega, by omega⟩ (fun v_23 q_v_23 => ?_)
      have hPc := hP.sub (ws' := [(gh, .inr (5, [.int g_acts, g_kind, g_na, g_nb, g_nc, g_nd, g_ne, g_dropped, .ref ga_live, .ref ga_low, .ref ga_high, .ref ga_sites, .ref ga_nulls, .ref ga_there, .ref ga_lanes, .ref ga_least, .ref ga_most, .ref ga_placeLow, .ref ga_placeHigh, g_reached, g_mayThrow, .int g_status, .int g_hasRun, .int g_threw, .int g_whereThrown, g_value, g_means, g_laneOf, g_sizeOf, g_cells, g_copied, .long g_state, .long g_joinedLow, .long g_joinedHigh, g_keptLow, g_keptHigh])), (ga_there, .inl (cZ, 80, .inl f_13)), (ga_lanes, .inl (cI, 80, .inl f_14)), (ga_least, .inl (cJ, 80, .inr (.inl f_15))), (ga_most, .inl (cJ, 80, .inr (.inl f_16))), (ga_placeLow, .inl (cJ, 960, .inr (.inl f_17))), (ga_placeHigh, .inl (cJ, 960, .inr (.inl f_18)))]) [0, 6, 7, 8, 9, 10, 11] rfl
      have hDc := hD.sub (ws' := [(gh, .inr (5, [.int g_acts, g_kind, g_na, g_nb, g_nc, g_nd, g_ne, g_dropped, .ref ga_live, .ref ga_low, .ref ga_high, .ref ga_sites, .ref ga_nulls, .ref ga_there, .ref ga_lanes, .ref ga_least, .ref ga_most, .ref ga_placeLow, .ref ga_placeHigh, g_reached, g_mayThrow, .int g_status, .int g_hasRun, .int g_threw, .int g_whereThrown, g_value, g_means, g_laneOf, g_sizeOf, g_cells, g_copied, .long g_state, .long g_joinedLow, .long g_joinedHigh, g_keptLow, g_keptHigh])), (ga_there, .inl (cZ, 80, .inl f_13)), (ga_lanes, .inl (cI, 80, .inl f_14)), (ga_least, .inl (cJ, 80, .inr (.inl f_15))), (ga_most, .inl (cJ, 80, .inr (.inl f_16))), (ga_placeLow, .inl (cJ, 960, .inr (.inl f_17))), (ga_placeHigh, .inl (cJ, 960, .inr (.inl f_18)))]) [0, 6, 7, 8, 9, 10, 11] (by decide) rfl
      have hFc := va_free (wc := [(gh, .inr (5, [.int g_acts, g_kind, g_na, g_nb, g_nc, g_nd, g_ne, g_dropped, .ref ga_live, .ref ga_low, .ref ga_high, .ref ga_sites, .ref ga_nulls, .ref ga_there, .ref ga_lanes, .ref ga_least, .ref ga_most, .ref ga_placeLow, .ref ga_placeHigh, g_reached, g_mayThrow, .int g_status, .int g_hasRun, .int g_threw, .int g_whereThrown, g_value, g_means, g_laneOf, g_sizeOf, g_cells, g_copied, .long g_state, .long g_joinedLow, .long g_joinedHigh, g_keptLow, g_keptHigh])), (ga_there, .inl (cZ, 80, .inl f_13)), (ga_lanes, .inl (cI, 80, .inl f_14)), (ga_least, .inl (cJ, 80, .inr (.inl f_15))), (ga_most, .inl (cJ, 80, .inr (.inl f_16))), (ga_placeLow, .inl (cJ, 960, .inr (.inl f_17))), (ga_placeHigh, .inl (cJ, 960, .inr (.inl f_18)))]) hD hS hA [0, 6, 7, 8, 9, 10, 11] rfl
      refine va_callv (va_runV (As := [.int v_21, .int v_23]) (rest := []) ⟨hx, hb, hml, hown, hts⟩ (s_X5_copySite l dC dI cI cJ cZ gh g_acts g_kind g_na g_nb g_nc g_nd g_ne g_dropped (.ref ga_live) (.ref ga_low) (.ref ga_high) (.ref ga_sites) (.ref ga_nulls) ga_there ga_lanes ga_least ga_most ga_placeLow ga_placeHigh g_reached g_mayThrow g_status g_hasRun g_threw g_whereThrown g_value g_means g_laneOf g_sizeOf g_cells g_copied g_state g_joinedLow g_joinedHigh g_keptLow g_keptHigh f_13 f_14 f_15 f_16 f_17 f_18 v_21 v_23 H_11.size q_g_hasRun h_f_13 h_f_16 (by first | assumption | omega) (by first | assumption | omega)) (cwV 2 hts h_X5_copyBank_X5_copySite_146 rfl rfl rfl (by decide +kernel) ⟨Nat.le_of_ble_eq_true rfl, Nat.le_of_ble_eq_true rfl⟩) ⟨cPre_blind, va_recv hK hPc (ci := 5) (q0 := 0) rfl rfl, cPre_of hK hN hPc hDc⟩ rfl rfl hl.1 rfl (lv_room (Nat.le_of_ble_eq_true rfl)) dX5_copyBank_135 ⟨Nat.le_of_ble_eq_true rfl, Nat.le_of_ble_eq_true rfl⟩) hS (fun q _ h => hFc q h) hFc (fun u_24 t_24 H_24 locs_24 ht hvm hw_24 hB hz1 hk1 hS1 => ?_)
      obtain ⟨f_25, f_26, f_27, f_28, f_29, f_30⟩ := u_24
      obtain ⟨hP1, hK1, hD1⟩ := hB
      rw [ht] at hP1
      obtain ⟨hP2, hD2⟩ := va_join (wr := [(ga_live, .inl (cZ, 2, .inl f_2)), (ga_low, .inl (cJ, 12, .inr (.inl f_6))), (ga_high, .inl (cJ, 12, .inr (.inl f_7))), (ga_sites, .inl (cJ, 12, .inr (.inl f_8))), (ga_nulls, .inl (cZ, 12, .inl f_9))]) (w1 := [(gh, .inr (5, [.int g_acts, g_kind, g_na, g_nb, g_nc, g_nd, g_ne, g_dropped, .ref ga_live, .ref ga_low, .ref ga_high, .ref ga_sites, .ref ga_nulls, .ref ga_there, .ref ga_lanes, .ref ga_least, .ref ga_most, .ref ga_placeLow, .ref ga_placeHigh, g_reached, g_mayThrow, .int g_status, .int g_hasRun, .int g_threw, .int g_whereThrown, g_value, g_means, g_laneOf, g_sizeOf, g_cells, g_copied, .long g_state, .long g_joinedLow, .long g_joinedHigh, g_keptLow, g_keptHigh])), (ga_there, .inl (cZ, 80, .inl f_25)), (ga_lanes, .inl (cI, 80, .inl f_26)), (ga_least, .inl (cJ, 80, .inr (.inl f_27))), (ga_most, .inl (cJ, 80, .inr (.inl f_28))), (ga_placeLow, .inl (cJ, 960, .inr (.inl f_29))), (ga_placeHigh, .inl (cJ, 960, .inr (.inl f_30)))]) hP hD [0, 6, 7, 8, 9, 10, 11] [1, 2, 3, 4, 5] rfl rfl (by decide) (by decide) hk1 hFc hP1 hD1
      clear hPc hDc hFc hP1 hD1 hK1 hk1 hz1 hvm ht
      replace hP : va_P (dC, dI) vwCl [(ga_live, .inl (cZ, 2, .inl f_2)), (ga_low, .inl (cJ, 12, .inr (.inl f_6))), (ga_high, .inl (cJ, 12, .inr (.inl f_7))), (ga_sites, .inl (cJ, 12, .inr (.inl f_8))), (ga_nulls, .inl (cZ, 12, .inl f_9)), (gh, .inr (5, [.int g_acts, g_kind, g_na, g_nb, g_nc, g_nd, g_ne, g_dropped, .ref ga_live, .ref ga_low, .ref ga_high, .ref ga_sites, .ref ga_nulls, .ref ga_there, .ref ga_lanes, .ref ga_least, .ref ga_most, .ref ga_placeLow, .ref ga_placeHigh, g_reached, g_mayThrow, .int g_status, .int g_hasRun, .int g_threw, .int g_whereThrown, g_value, g_means, g_laneOf, g_sizeOf, g_cells, g_copied, .long g_state, .long g_joinedLow, .long g_joinedHigh, g_keptLow, g_keptHigh])), (ga_there, .inl (cZ, 80, .inl f_25)), (ga_lanes, .inl (cI, 80, .inl f_26)), (ga_least, .inl (cJ, 80, .inr (.inl f_27))), (ga_most, .inl (cJ, 80, .inr (.inl f_28))), (ga_placeLow, .inl (cJ, 960, .inr (.inl f_29))), (ga_placeHigh, .inl (cJ, 960, .inr (.inl f_30)))] H_24 := hP2
      replace hD : va_D A [(ga_live, .inl (cZ, 2, .inl f_2)), (ga_low, .inl (cJ, 12, .inr (.inl f_6))), (ga_high, .inl (cJ, 12, .inr (.inl f_7))), (ga_sites, .inl (cJ, 12, .inr (.inl f_8))), (ga_nulls, .inl (cZ, 12, .inl f_9)), (gh, .inr (5, [.int g_acts, g_kind, g_na, g_nb, g_nc, g_nd, g_ne, g_dropped, .ref ga_live, .ref ga_low, .ref ga_high, .ref ga_sites, .ref ga_nulls, .ref ga_there, .ref ga_lanes, .ref ga_least, .ref ga_most, .ref ga_placeLow, .ref ga_placeHigh, g_reached, g_mayThrow, .int g_status, .int g_hasRun, .int g_threw, .int g_whereThrown, g_value, g_means, g_laneOf, g_sizeOf, g_cells, g_copied, .long g_state, .long g_joinedLow, .long g_joinedHigh, g_keptLow, g_keptHigh])), (ga_there, .inl (cZ, 80, .inl f_25)), (ga_lanes, .inl (cI, 80, .inl f_26)), (ga_least, .inl (cJ, 80, .inr (.inl f_27))), (ga_most, .inl (cJ, 80, .inr (.inl f_28))), (ga_placeLow, .inl (cJ, 960, .inr (.inl f_29))), (ga_placeHigh, .inl (cJ, 960, .inr (.inl f_30)))] := hD2
      replace hS := hS1
      clear hP2 hD2 hS1
      replace hw_24 : (∀ j : Nat, kZ (f_25 j)) ∧ (∀ j : Nat, l12 (f_28 j)) := hw_24
      obtain ⟨h_f_25, h_f_28⟩ := hw_24
      refine sf_iinc hx hb dX5_copyBank_138 hl (k := 0) (x := v_12) (w := 1) rfl (by decide) (by decide) ⟨by omega, by omega⟩ (fun v_31 q_v_31 ls1 hl1 => ?_)
      replace hl : lv_has ls1 4 [(3, .int v_31), (0, .ref gh), (1, .int aa), (2, .int ba)] := hl1
      clear hl1
      refine lv_goto (tgt := 116) hx hb dX5_copyBank_141 (by decide) ?_
      exact ih_11 (v_31, f_25, f_26, f_27, f_28, f_29, f_30) (show (0 ≤ v_31.toInt ∧ v_31.toInt ≤ 40) ∧ (∀ j : Nat, kZ (f_25 j)) ∧ (∀ j : Nat, l12 (f_28 j)) from ⟨⟨by omega, by omega⟩, h_f_25, h_f_28⟩) (by show (40 - v_31.toInt).toNat < (40 - v_12.toInt).toNat; omega) _ _ _ (hP.sub [5, 0, 1, 2, 3, 4, 6, 7, 8, 9, 10, 11] rfl) (hD.sub [5, 0, 1, 2, 3, 4, 6, 7, 8, 9, 10, 11] (by decide) rfl) hS (lv_sub hl [0, 1, 2, 3] rfl)
  · -- no
    have k_10 : v_5.toInt < (6 : Int32).toInt := ci_nge c_10
    refine lv_aload_n hx hb dX5_copyBank_20 rfl (lv_at hl 1 rfl) ?_
    refine va_get (D := (dC, dI)) (ci := 5) (v := .ref ga_low) (C := RX5) (T := TX5) (N := 36) hx hb hts inv_X5_copyBank_X5 hown hK hP 0 rfl rfl 9 (by decide) (hts (.fieldLink RX5 35 "ArraySegmentsModel" "low" "[J") (List.mem_of_getElem? (i := 2) rfl)) (fun _ h9 => h9) rfl dX5_copyBank_21 ?_
    refine lv_bipush (v := 6) hx hb dX5_copyBank_24 (by decide) ?_
    refine lv_iload_n hx hb dX5_copyBank_26 rfl (lv_at hl 3 rfl) ?_
    refine sf_imul (w := 6) (z := ba.toInt) hx hb dX5_copyBank_27 (by decide) rfl ⟨by omega, by omega⟩ (fun v_32 q_v_32 => ?_)
    refine lv_iload_n hx hb dX5_copyBank_28 rfl (lv_at hl 0 rfl) ?_
    refine sf_iadd hx hb dX5_copyBank_29 ⟨by omega, by omega⟩ (fun v_33 q_v_33 => ?_)
    refine lv_aload_n hx hb dX5_copyBank_30 rfl (lv_at hl 1 rfl) ?_
    refine va_get (D := (dC, dI)) (ci := 5) (v := .ref ga_low) (C := RX5) (T := TX5) (N := 36) hx hb hts inv_X5_copyBank_X5 hown hK hP 0 rfl rfl 9 (by decide) (hts (.fieldLink RX5 35 "ArraySegmentsModel" "low" "[J") (List.mem_of_getElem? (i := 2) rfl)) (fun _ h9 => h9) rfl dX5_copyBank_31 ?_
    refine lv_bipush (v := 6) hx hb dX5_copyBank_34 (by decide) ?_
    refine lv_iload_n hx hb dX5_copyBank_36 rfl (lv_at hl 2 rfl) ?_
    refine sf_imul (w := 6) (z := aa.toInt) hx hb dX5_copyBank_37 (by decide) rfl ⟨by omega, by omega⟩ (fun v_34 q_v_34 => ?_)
    refine lv_iload_n hx hb dX5_copyBank_38 rfl (lv_at hl 0 rfl) ?_
    refine sf_iadd hx hb dX5_copyBank_39 ⟨by omega, by omega⟩ (fun v_35 q_v_35 => ?_)
    refine sf_lald lT hx hb hK hP 2 1 rfl rfl (fun _ => trivial) (vp_in_iff.mpr ⟨by omega, by omega⟩) dX5_copyBank_40 (fun v_36 q_v_36 e_v_36 => ?_)
    refine sf_last lT hx hb hK hP hD hS 2 1 rfl rfl (fun _ => trivial) trivial (vp_in_iff.mpr ⟨by omega, by omega⟩) dX5_copyBank_41 (fun f_37 h_f_37 e_f_37 H_38 locs_38 hP1 hD1 hS1 => ?_)
    replace hP : va_P (dC, dI) vwCl [(gh, .inr (5, [.int g_acts, g_kind, g_na, g_nb, g_nc, g_nd, g_ne, g_dropped, .ref ga_live, .ref ga_low, .ref ga_high, .ref ga_sites, .ref ga_nulls, .ref ga_there, .ref ga_lanes, .ref ga_least, .ref ga_most, .ref ga_placeLow, .ref ga_placeHigh, g_reached, g_mayThrow, .int g_status, .int g_hasRun, .int g_threw, .int g_whereThrown, g_value, g_means, g_laneOf, g_sizeOf, g_cells, g_copied, .long g_state, .long g_joinedLow, .long g_joinedHigh, g_keptLow, g_keptHigh])), (ga_live, .inl (cZ, 2, .inl f_2)), (ga_low, .inl (cJ, 12, .inr (.inl f_37))), (ga_high, .inl (cJ, 12, .inr (.inl f_7))), (ga_sites, .inl (cJ, 12, .inr (.inl f_8))), (ga_nulls, .inl (cZ, 12, .inl f_9)), (ga_there, .inl (cZ, 80, .inl gc_there)), (ga_lanes, .inl (cI, 80, .inl gc_lanes)), (ga_least, .inl (cJ, 80, .inr (.inl gc_least))), (ga_most, .inl (cJ, 80, .inr (.inl gc_most))), (ga_placeLow, .inl (cJ, 960, .inr (.inl gc_placeLow))), (ga_placeHigh, .inl (cJ, 960, .inr (.inl gc_placeHigh)))] H_38 := hP1
    replace hD : va_D A [(gh, .inr (5, [.int g_acts, g_kind, g_na, g_nb, g_nc, g_nd, g_ne, g_dropped, .ref ga_live, .ref ga_low, .ref ga_high, .ref ga_sites, .ref ga_nulls, .ref ga_there, .ref ga_lanes, .ref ga_least, .ref ga_most, .ref ga_placeLow, .ref ga_placeHigh, g_reached, g_mayThrow, .int g_status, .int g_hasRun, .int g_threw, .int g_whereThrown, g_value, g_means, g_laneOf, g_sizeOf, g_cells, g_copied, .long g_state, .long g_joinedLow, .long g_joinedHigh, g_keptLow, g_keptHigh])), (ga_live, .inl (cZ, 2, .inl f_2)), (ga_low, .inl (cJ, 12, .inr (.inl f_37))), (ga_high, .inl (cJ, 12, .inr (.inl f_7))), (ga_sites, .inl (cJ, 12, .inr (.inl f_8))), (ga_nulls, .inl (cZ, 12, .inl f_9)), (ga_there, .inl (cZ, 80, .inl gc_there)), (ga_lanes, .inl (cI, 80, .inl gc_lanes)), (ga_least, .inl (cJ, 80, .inr (.inl gc_least))), (ga_most, .inl (cJ, 80, .inr (.inl gc_most))), (ga_placeLow, .inl (cJ, 960, .inr (.inl gc_placeLow))), (ga_placeHigh, .inl (cJ, 960, .inr (.inl gc_placeHigh)))] := hD1
    replace hS := hS1
    clear hP1 hD1 hS1
    refine lv_aload_n hx hb dX5_copyBank_42 rfl (lv_at hl 1 rfl) ?_
    refine va_get (D := (dC, dI)) (ci := 5) (v := .ref ga_high) (C := RX5) (T := TX5) (N := 36) hx hb hts inv_X5_copyBank_X5 hown hK hP 0 rfl rfl 10 (by decide) (hts (.fieldLink RX5 39 "ArraySegmentsModel" "high" "[J") (List.mem_of_getElem? (i := 3) rfl)) (fun _ h9 => h9) rfl dX5_copyBank_43 ?_
    refine lv_bipush (v := 6) hx hb dX5_copyBank_46 (by decide) ?_
    refine lv_iload_n hx hb dX5_copyBank_48 rfl (lv_at hl 3 rfl) ?_
    refine sf_imul (w := 6) (z := ba.toInt) hx hb dX5_copyBank_49 (by decide) rfl ⟨by omega, by omega⟩ (fun v_39 q_v_39 => ?_)
    refine lv_iload_n hx hb dX5_copyBank_50 rfl (lv_at hl 0 rfl) ?_
    refine sf_iadd hx hb dX5_copyBank_51 ⟨by omega, by omega⟩ (fun v_40 q_v_40 => ?_)
    refine lv_aload_n hx hb dX5_copyBank_52 rfl (lv_at hl 1 rfl) ?_
    refine va_get (D := (dC, dI)) (ci := 5) (v := .ref ga_high) (C := RX5) (T := TX5) (N := 36) hx hb hts inv_X5_copyBank_X5 hown hK hP 0 rfl rfl 10 (by decide) (hts (.fieldLink RX5 39 "ArraySegmentsModel" "high" "[J") (List.mem_of_getElem? (i := 3) rfl)) (fun _ h9 => h9) rfl dX5_copyBank_53 ?_
    refine lv_bipush (v := 6) hx hb dX5_copyBank_56 (by decide) ?_
    refine lv_iload_n hx hb dX5_copyBank_58 rfl (lv_at hl 2 rfl) ?_
    refine sf_imul (w := 6) (z := aa.toInt) hx hb dX5_copyBank_59 (by decide) rfl ⟨by omega, by omega⟩ (fun v_41 q_v_41 => ?_)
    refine lv_iload_n hx hb dX5_copyBank_60 rfl (lv_at hl 0 rfl) ?_
    refine sf_iadd hx hb dX5_copyBank_61 ⟨by omega, by omega⟩ (fun v_42 q_v_42 => ?_)
    refine sf_lald lT hx hb hK hP 3 1 rfl rfl (fun _ => trivial) (vp_in_iff.mpr ⟨by omega, by omega⟩) dX5_copyBank_62 (fun v_43 q_v_43 e_v_43 => ?_)
    refine sf_last lT hx hb hK hP hD hS 3 1 rfl rfl (fun _ => trivial) trivial (vp_in_iff.mpr ⟨by omega, by omega⟩) dX5_copyBank_63 (fun f_44 h_f_44 e_f_44 H_45 locs_45 hP1 hD1 hS1 => ?_)
    replace hP : va_P (dC, dI) vwCl [(gh, .inr (5, [.int g_acts, g_kind, g_na, g_nb, g_nc, g_nd, g_ne, g_dropped, .ref ga_live, .ref ga_low, .ref ga_high, .ref ga_sites, .ref ga_nulls, .ref ga_there, .ref ga_lanes, .ref ga_least, .ref ga_most, .ref ga_placeLow, .ref ga_placeHigh, g_reached, g_mayThrow, .int g_status, .int g_hasRun, .int g_threw, .int g_whereThrown, g_value, g_means, g_laneOf, g_sizeOf, g_cells, g_copied, .long g_state, .long g_joinedLow, .long g_joinedHigh, g_keptLow, g_keptHigh])), (ga_live, .inl (cZ, 2, .inl f_2)), (ga_low, .inl (cJ, 12, .inr (.inl f_37))), (ga_high, .inl (cJ, 12, .inr (.inl f_44))), (ga_sites, .inl (cJ, 12, .inr (.inl f_8))), (ga_nulls, .inl (cZ, 12, .inl f_9)), (ga_there, .inl (cZ, 80, .inl gc_there)), (ga_lanes, .inl (cI, 80, .inl gc_lanes)), (ga_least, .inl (cJ, 80, .inr (.inl gc_least))), (ga_most, .inl (cJ, 80, .inr (.inl gc_most))), (ga_placeLow, .inl (cJ, 960, .inr (.inl gc_placeLow))), (ga_placeHigh, .inl (cJ, 960, .inr (.inl gc_placeHigh)))] H_45 := hP1
    replace hD : va_D A [(gh, .inr (5, [.int g_acts, g_kind, g_na, g_nb, g_nc, g_nd, g_ne, g_dropped, .ref ga_live, .ref ga_low, .ref ga_high, .ref ga_sites, .ref ga_nulls, .ref ga_there, .ref ga_lanes, .ref ga_least, .ref ga_most, .ref ga_placeLow, .ref ga_placeHigh, g_reached, g_mayThrow, .int g_status, .int g_hasRun, .int g_threw, .int g_whereThrown, g_value, g_means, g_laneOf, g_sizeOf, g_cells, g_copied, .long g_state, .long g_joinedLow, .long g_joinedHigh, g_keptLow, g_keptHigh])), (ga_live, .inl (cZ, 2, .inl f_2)), (ga_low, .inl (cJ, 12, .inr (.inl f_37))), (ga_high, .inl (cJ, 12, .inr (.inl f_44))), (ga_sites, .inl (cJ, 12, .inr (.inl f_8))), (ga_nulls, .inl (cZ, 12, .inl f_9)), (ga_there, .inl (cZ, 80, .inl gc_there)), (ga_lanes, .inl (cI, 80, .inl gc_lanes)), (ga_least, .inl (cJ, 80, .inr (.inl gc_least))), (ga_most, .inl (cJ, 80, .inr (.inl gc_most))), (ga_placeLow, .inl (cJ, 960, .inr (.inl gc_placeLow))), (ga_placeHigh, .inl (cJ, 960, .inr (.inl gc_placeHigh)))] := hD1
    replace hS := hS1
    clear hP1 hD1 hS1
    refine lv_aload_n hx hb dX5_copyBank_64 rfl (lv_at hl 1 rfl) ?_
    refine va_get (D := (dC, dI)) (ci := 5) (v := .ref ga_sites) (C := RX5) (T := TX5) (N := 36) hx hb hts inv_X5_copyBank_X5 hown hK hP 0 rfl rfl 11 (by decide) (hts (.fieldLink RX5 42 "ArraySegmentsModel" "sites" "[J") (List.mem_of_getElem? (i := 4) rfl)) (fun _ h9 => h9) rfl dX5_copyBank_65 ?_
    refine lv_bipush (v := 6) hx hb dX5_copyBank_68 (by decide) ?_
    refine lv_iload_n hx hb dX5_copyBank_70 rfl (lv_at hl 3 rfl) ?_
    refine sf_imul (w := 6) (z := ba.toInt) hx hb dX5_copyBank_71 (by decide) rfl ⟨by omega, by omega⟩ (fun v_46 q_v_46 => ?_)
    refine lv_iload_n hx hb dX5_copyBank_72 rfl (lv_at hl 0 rfl) ?_
    refine sf_iadd hx hb dX5_copyBank_73 ⟨by omega, by omega⟩ (fun v_47 q_v_47 => ?_)
    refine lv_aload_n hx hb dX5_copyBank_74 rfl (lv_at hl 1 rfl) ?_
    refine va_get (D := (dC, dI)) (ci := 5) (v := .ref ga_sites) (C := RX5) (T := TX5) (N := 36) hx hb hts inv_X5_copyBank_X5 hown hK hP 0 rfl rfl 11 (by decide) (hts (.fieldLink RX5 42 "ArraySegmentsModel" "sites" "[J") (List.mem_of_getElem? (i := 4) rfl)) (fun _ h9 => h9) rfl dX5_copyBank_75 ?_
    refine lv_bipush (v := 6) hx hb dX5_copyBank_78 (by decide) ?_
    refine lv_iload_n hx hb dX5_copyBank_80 rfl (lv_at hl 2 rfl) ?_
    refine sf_imul (w := 6) (z := aa.toInt) hx hb dX5_copyBank_81 (by decide) rfl ⟨by omega, by omega⟩ (fun v_48 q_v_48 => ?_)
    refine lv_iload_n hx hb dX5_copyBank_82 rfl (lv_at hl 0 rfl) ?_
    refine sf_iadd hx hb dX5_copyBank_83 ⟨by omega, by omega⟩ (fun v_49 q_v_49 => ?_)
    refine sf_lald lT hx hb hK hP 4 1 rfl rfl (fun _ => trivial) (vp_in_iff.mpr ⟨by omega, by omega⟩) dX5_copyBank_84 (fun v_50 q_v_50 e_v_50 => ?_)
    refine sf_last lT hx hb hK hP hD hS 4 1 rfl rfl (fun _ => trivial) trivial (vp_in_iff.mpr ⟨by omega, by omega⟩) dX5_copyBank_85 (fun f_51 h_f_51 e_f_51 H_52 locs_52 hP1 hD1 hS1 => ?_)
    replace hP : va_P (dC, dI) vwCl [(gh, .inr (5, [.int g_acts, g_kind, g_na, g_nb, g_nc, g_nd, g_ne, g_dropped, .ref ga_live, .ref ga_low, .ref ga_high, .ref ga_sites, .ref ga_nulls, .ref ga_there, .ref ga_lanes, .ref ga_least, .ref ga_most, .ref ga_placeLow, .ref ga_placeHigh, g_reached, g_mayThrow, .int g_status, .int g_hasRun, .int g_threw, .int g_whereThrown, g_value, g_means, g_laneOf, g_sizeOf, g_cells, g_copied, .long g_state, .long g_joinedLow, .long g_joinedHigh, g_keptLow, g_keptHigh])), (ga_live, .inl (cZ, 2, .inl f_2)), (ga_low, .inl (cJ, 12, .inr (.inl f_37))), (ga_high, .inl (cJ, 12, .inr (.inl f_44))), (ga_sites, .inl (cJ, 12, .inr (.inl f_51))), (ga_nulls, .inl (cZ, 12, .inl f_9)), (ga_there, .inl (cZ, 80, .inl gc_there)), (ga_lanes, .inl (cI, 80, .inl gc_lanes)), (ga_least, .inl (cJ, 80, .inr (.inl gc_least))), (ga_most, .inl (cJ, 80, .inr (.inl gc_most))), (ga_placeLow, .inl (cJ, 960, .inr (.inl gc_placeLow))), (ga_placeHigh, .inl (cJ, 960, .inr (.inl gc_placeHigh)))] H_52 := hP1
    replace hD : va_D A [(gh, .inr (5, [.int g_acts, g_kind, g_na, g_nb, g_nc, g_nd, g_ne, g_dropped, .ref ga_live, .ref ga_low, .ref ga_high, .ref ga_sites, .ref ga_nulls, .ref ga_there, .ref ga_lanes, .ref ga_least, .ref ga_most, .ref ga_placeLow, .ref ga_placeHigh, g_reached, g_mayThrow, .int g_status, .int g_hasRun, .int g_threw, .int g_whereThrown, g_value, g_means, g_laneOf, g_sizeOf, g_cells, g_copied, .long g_state, .long g_joinedLow, .long g_joinedHigh, g_keptLow, g_keptHigh])), (ga_live, .inl (cZ, 2, .inl f_2)), (ga_low, .inl (cJ, 12, .inr (.inl f_37))), (ga_high, .inl (cJ, 12, .inr (.inl f_44))), (ga_sites, .inl (cJ, 12, .inr (.inl f_51))), (ga_nulls, .inl (cZ, 12, .inl f_9)), (ga_there, .inl (cZ, 80, .inl gc_there)), (ga_lanes, .inl (cI, 80, .inl gc_lanes)), (ga_least, .inl (cJ, 80, .inr (.inl gc_least))), (ga_most, .inl (cJ, 80, .inr (.inl gc_most))), (ga_placeLow, .inl (cJ, 960, .inr (.inl gc_placeLow))), (ga_placeHigh, .inl (cJ, 960, .inr (.inl gc_placeHigh)))] := hD1
    replace hS := hS1
    clear hP1 hD1 hS1
    refine lv_aload_n hx hb dX5_copyBank_86 rfl (lv_at hl 1 rfl) ?_
    refine va_get (D := (dC, dI)) (ci := 5) (v := .ref ga_nulls) (C := RX5) (T := TX5) (N := 36) hx hb hts inv_X5_copyBank_X5 hown hK hP 0 rfl rfl 12 (by decide) (hts (.fieldLink RX5 45 "ArraySegmentsModel" "nulls" "[Z") (List.mem_of_getElem? (i := 5) rfl)) (fun _ h9 => h9) rfl dX5_copyBank_87 ?_
    refine lv_bipush (v := 6) hx hb dX5_copyBank_90 (by decide) ?_
    refine lv_iload_n hx hb dX5_copyBank_92 rfl (lv_at hl 3 rfl) ?_
    refine sf_imul (w := 6) (z := ba.toInt) hx hb dX5_copyBank_93 (by decide) rfl ⟨by omega, by omega⟩ (fun v_53 q_v_53 => ?_)
    refine lv_iload_n hx hb dX5_copyBank_94 rfl (lv_at hl 0 rfl) ?_
    refine sf_iadd hx hb dX5_copyBank_95 ⟨by omega, by omega⟩ (fun v_54 q_v_54 => ?_)
    refine lv_aload_n hx hb dX5_copyBank_96 rfl (lv_at hl 1 rfl) ?_
    refine va_get (D := (dC, dI)) (ci := 5) (v := .ref ga_nulls) (C := RX5) (T := TX5) (N := 36) hx hb hts inv_X5_copyBank_X5 hown hK hP 0 rfl rfl 12 (by decide) (hts (.fieldLink RX5 45 "ArraySegmentsModel" "nulls" "[Z") (List.mem_of_getElem? (i := 5) rfl)) (fun _ h9 => h9) rfl dX5_copyBank_97 ?_
    refine lv_bipush (v := 6) hx hb dX5_copyBank_100 (by decide) ?_
    refine lv_iload_n hx hb dX5_copyBank_102 rfl (lv_at hl 2 rfl) ?_
    refine sf_imul (w := 6) (z := aa.toInt) hx hb dX5_copyBank_103 (by decide) rfl ⟨by omega, by omega⟩ (fun v_55 q_v_55 => ?_)
    refine lv_iload_n hx hb dX5_copyBank_104 rfl (lv_at hl 0 rfl) ?_
    refine sf_iadd hx hb dX5_copyBank_105 ⟨by omega, by omega⟩ (fun v_56 q_v_56 => ?_)
    refine sf_zald kZ hx hb hK hP 5 2 rfl rfl h_f_9 (vp_in_iff.mpr ⟨by omega, by omega⟩) dX5_copyBank_106 (fun v_57 q_v_57 e_v_57 => ?_)
    refine sf_zast hx hb hK hP hD hS 5 2 rfl rfl h_f_9 (vp_in_iff.mpr ⟨by omega, by omega⟩) dX5_copyBank_107 (fun f_58 h_f_58 e_f_58 H_59 locs_59 hP1 hD1 hS1 => ?_)
    replace hP : va_P (dC, dI) vwCl [(gh, .inr (5, [.int g_acts, g_kind, g_na, g_nb, g_nc, g_nd, g_ne, g_dropped, .ref ga_live, .ref ga_low, .ref ga_high, .ref ga_sites, .ref ga_nulls, .ref ga_there, .ref ga_lanes, .ref ga_least, .ref ga_most, .ref ga_placeLow, .ref ga_placeHigh, g_reached, g_mayThrow, .int g_status, .int g_hasRun, .int g_threw, .int g_whereThrown, g_value, g_means, g_laneOf, g_sizeOf, g_cells, g_copied, .long g_state, .long g_joinedLow, .long g_joinedHigh, g_keptLow, g_keptHigh])), (ga_live, .inl (cZ, 2, .inl f_2)), (ga_low, .inl (cJ, 12, .inr (.inl f_37))), (ga_high, .inl (cJ, 12, .inr (.inl f_44))), (ga_sites, .inl (cJ, 12, .inr (.inl f_51))), (ga_nulls, .inl (cZ, 12, .inl f_58)), (ga_there, .inl (cZ, 80, .inl gc_there)), (ga_lanes, .inl (cI, 80, .inl gc_lanes)), (ga_least, .inl (cJ, 80, .inr (.inl gc_least))), (ga_most, .inl (cJ, 80, .inr (.inl gc_most))), (ga_placeLow, .inl (cJ, 960, .inr (.inl gc_placeLow))), (ga_placeHigh, .inl (cJ, 960, .inr (.inl gc_placeHigh)))] H_59 := hP1
    replace hD : va_D A [(gh, .inr (5, [.int g_acts, g_kind, g_na, g_nb, g_nc, g_nd, g_ne, g_dropped, .ref ga_live, .ref ga_low, .ref ga_high, .ref ga_sites, .ref ga_nulls, .ref ga_there, .ref ga_lanes, .ref ga_least, .ref ga_most, .ref ga_placeLow, .ref ga_placeHigh, g_reached, g_mayThrow, .int g_status, .int g_hasRun, .int g_threw, .int g_whereThrown, g_value, g_means, g_laneOf, g_sizeOf, g_cells, g_copied, .long g_state, .long g_joinedLow, .long g_joinedHigh, g_keptLow, g_keptHigh])), (ga_live, .inl (cZ, 2, .inl f_2)), (ga_low, .inl (cJ, 12, .inr (.inl f_37))), (ga_high, .inl (cJ, 12, .inr (.inl f_44))), (ga_sites, .inl (cJ, 12, .inr (.inl f_51))), (ga_nulls, .inl (cZ, 12, .inl f_58)), (ga_there, .inl (cZ, 80, .inl gc_there)), (ga_lanes, .inl (cI, 80, .inl gc_lanes)), (ga_least, .inl (cJ, 80, .inr (.inl gc_least))), (ga_most, .inl (cJ, 80, .inr (.inl gc_most))), (ga_placeLow, .inl (cJ, 960, .inr (.inl gc_placeLow))), (ga_placeHigh, .inl (cJ, 960, .inr (.inl gc_placeHigh)))] := hD1
    replace hS := hS1
    clear hP1 hD1 hS1
    refine sf_iinc hx hb dX5_copyBank_108 hl (k := 0) (x := v_5) (w := 1) rfl (by decide) (by decide) ⟨by omega, by omega⟩ (fun v_60 q_v_60 ls1 hl1 => ?_)
    replace hl : lv_has ls1 4 [(3, .int v_60), (0, .ref gh), (1, .int aa), (2, .int ba)] := hl1
    clear hl1
    refine lv_goto (tgt := 14) hx hb dX5_copyBank_111 (by decide) ?_
    exact ih_4 (v_60, f_37, f_44, f_51, f_58) (show (0 ≤ v_60.toInt ∧ v_60.toInt ≤ 6) ∧ (∀ j : Nat, kZ (f_58 j)) from ⟨⟨by omega, by omega⟩, h_f_58⟩) (by show (6 - v_60.toInt).toNat < (6 - v_5.toInt).toNat; omega) _ _ _ (hP.sub [0, 1, 2, 3, 4, 5, 6, 7, 8, 9, 10, 11] rfl) (hD.sub [0, 1, 2, 3, 4, 5, 6, 7, 8, 9, 10, 11] (by decide) rfl) hS (lv_sub hl [0, 1, 2, 3] rfl)

def v_X5_join : List Cond := .code yX5_join cX5_join 2 none :: ([.fieldLink RX5 32 "ArraySegmentsModel" "live" "[Z", .fieldLink RX5 35 "ArraySegmentsModel" "low" "[J", .fieldLink RX5 39 "ArraySegmentsModel" "high" "[J", .fieldLink RX5 42 "ArraySegmentsModel" "sites" "[J", .fieldLink RX5 45 "ArraySegmentsModel" "nulls" "[Z", .methodLink RX5 157 yX5_joinSite, .instanceMethod yX5_joinSite, .selects RX5 yX5_joinSite yX5_joinSite, .initialized RX5, .methodLink RX5 154 yX5_copyBank, .instanceMethod yX5_copyBank, .selects RX5 yX5_copyBank yX5_copyBank] ++ (wsX50 ++ (v_X5_joinSite ++ (v_X5_copyBank))))
theorem inv_X5_join_X5 : ∀ w ∈ wsX50, w ∈ v_X5_join := fun _ h => List.mem_cons_of_mem _ (List.mem_append_right _ (List.mem_append_left _ h))
theorem im_X5_join_X5_joinSite : ∀ w ∈ v_X5_joinSite, w ∈ v_X5_join := fun _ h => List.mem_cons_of_mem _ (List.mem_append_right _ (List.mem_append_right _ (List.mem_append_left _ h)))
theorem im_X5_join_X5_copyBank : ∀ w ∈ v_X5_copyBank, w ∈ v_X5_join := fun _ h => List.mem_cons_of_mem _ (List.mem_append_right _ (List.mem_append_right _ (List.mem_append_right _ (h))))
set_option maxRecDepth 20000 in
theorem gd_X5_join : gdL v_X5_join := gdC (gdW (by decide +kernel)) (gdA (gdW (by decide +kernel)) (gdA gd_wsX50 (gdA gd_X5_joinSite gd_X5_copyBank)))
set_option maxRecDepth 20000 in
theorem h_X5_join_X5_joinSite_157 : GoodIn v_X5_join (wsV RX5 157 RX5 yX5_joinSite v_X5_joinSite) := gdI [6, 7, 8, 9] rfl (by decide +kernel) (im_X5_join_X5_joinSite) gd_X5_joinSite
set_option maxRecDepth 20000 in
theorem h_X5_join_X5_copyBank_154 : GoodIn v_X5_join (wsV RX5 154 RX5 yX5_copyBank v_X5_copyBank) := gdI [10, 11, 12, 9] rfl (by decide +kernel) (im_X5_join_X5_copyBank) gd_X5_copyBank
abbrev sw_X5_join (cI cJ cZ : ClassId) (gh : Nat) (g_acts : Int32) (g_kind : Value) (g_na : Value) (g_nb : Value) (g_nc : Value) (g_nd : Value) (g_ne : Value) (g_dropped : Value) (ga_live : Nat) (ga_low : Nat) (ga_high : Nat) (ga_sites : Nat) (ga_nulls : Nat) (ga_there : Nat) (ga_lanes : Nat) (ga_least : Nat) (ga_most : Nat) (ga_placeLow : Nat) (ga_placeHigh : Nat) (g_reached : Value) (g_mayThrow : Value) (g_status : Int32) (g_hasRun : Int32) (g_threw : Int32) (g_whereThrown : Int32) (g_value : Value) (g_means : Value) (g_laneOf : Value) (g_sizeOf : Value) (g_cells : Value) (g_copied : Value) (g_state : Int64) (g_joinedLow : Int64) (g_joinedHigh : Int64) (g_keptLow : Value) (g_keptHigh : Value) (gc_live : Nat → Int32) (gc_low : Nat → Int64) (gc_high : Nat → Int64) (gc_sites : Nat → Int64) (gc_nulls : Nat → Int32) (gc_there : Nat → Int32) (gc_lanes : Nat → Int32) (gc_least : Nat → Int64) (gc_most : Nat → Int64) (gc_placeLow : Nat → Int64) (gc_placeHigh : Nat → Int64) : va_W := [(gh, .inr (5, [.int g_acts, g_kind, g_na, g_nb, g_nc, g_nd, g_ne, g_dropped, .ref ga_live, .ref ga_low, .ref ga_high, .ref ga_sites, .ref ga_nulls, .ref ga_there, .ref ga_lanes, .ref ga_least, .ref ga_most, .ref ga_placeLow, .ref ga_placeHigh, g_reached, g_mayThrow, .int g_status, .int g_hasRun, .int g_threw, .int g_whereThrown, g_value, g_means, g_laneOf, g_sizeOf, g_cells, g_copied, .long g_state, .long g_joinedLow, .long g_joinedHigh, g_keptLow, g_keptHigh])), (ga_live, .inl (cZ, 2, .inl gc_live)), (ga_low, .inl (cJ, 12, .inr (.inl gc_low))), (ga_high, .inl (cJ, 12, .inr (.inl gc_high))), (ga_sites, .inl (cJ, 12, .inr (.inl gc_sites))), (ga_nulls, .inl (cZ, 12, .inl gc_nulls)), (ga_there, .inl (cZ, 80, .inl gc_there)), (ga_lanes, .inl (cI, 80, .inl gc_lanes)), (ga_least, .inl (cJ, 80, .inr (.inl gc_least))), (ga_most, .inl (cJ, 80, .inr (.inl gc_most))), (ga_placeLow, .inl (cJ, 960, .inr (.inl gc_placeLow))), (ga_placeHigh, .inl (cJ, 960, .inr (.inl gc_placeHigh)))]
set_option maxHeartbeats 8000000 in
set_option maxRecDepth 100000 in
theorem s_X5_join (l : Launch) (dC : Nat → ClassId) (dI : Nat → Nat → Nat) (cI cJ cZ : ClassId) (gh : Nat) (g_acts : Int32) (g_kind : Value) (g_na : Value) (g_nb : Value) (g_nc : Value) (g_nd : Value) (g_ne : Value) (g_dropped : Value) (ga_live : Nat) (ga_low : Nat) (ga_high : Nat) (ga_sites : Nat) (ga_nulls : Nat) (ga_there : Nat) (ga_lanes : Nat) (ga_least : Nat) (ga_most : Nat) (ga_placeLow : Nat) (ga_placeHigh : Nat) (g_reached : Value) (g_mayThrow : Value) (g_status : Int32) (g_hasRun : Int32) (g_threw : Int32) (g_whereThrown : Int32) (g_value : Value) (g_means : Value) (g_laneOf : Value) (g_sizeOf : Value) (g_cells : Value) (g_copied : Value) (g_state : Int64) (g_joinedLow : Int64) (g_joinedHigh : Int64) (g_keptLow : Value) (g_keptHigh : Value) (gc_live : Nat → Int32) (gc_low : Nat → Int64) (gc_high : Nat → Int64) (gc_sites : Nat → Int64) (gc_nulls : Nat → Int32) (gc_there : Nat → Int32) (gc_lanes : Nat → Int32) (gc_least : Nat → Int64) (gc_most : Nat → Int64) (gc_placeLow : Nat → Int64) (gc_placeHigh : Nat → Int64) (sz : Nat) (q_g_hasRun : kZ g_hasRun) (h_gc_live : ∀ j : Nat, kZ (gc_live j)) (h_gc_nulls : ∀ j : Nat, kZ (gc_nulls j)) (h_gc_there : ∀ j : Nat, kZ (gc_there j)) (h_gc_most : ∀ j : Nat, l12 (gc_most j)) : Met l yX5_join v_X5_join ({ frames := 2, cells := 0, slots := 0, locals := 50 }) (va_Pc [.ref gh] (cPre dC dI cI cJ cZ sz (sw_X5_join cI cJ cZ gh g_acts g_kind g_na g_nb g_nc g_nd g_ne g_dropped ga_live ga_low ga_high ga_sites ga_nulls ga_there ga_lanes ga_least ga_most ga_placeLow ga_placeHigh g_reached g_mayThrow g_status g_hasRun g_threw g_whereThrown g_value g_means g_laneOf g_sizeOf g_cells g_copied g_state g_joinedLow g_joinedHigh g_keptLow g_keptHigh gc_live gc_low gc_high gc_sites gc_nulls gc_there gc_lanes gc_least gc_most gc_placeLow gc_placeHigh))) (va_Qv (fun (u : (Nat → Int32) × (Nat → Int64) × (Nat → Int64) × (Nat → Int64) × (Nat → Int32) × (Nat → Int32) × (Nat → Int32) × (Nat → Int64) × (Nat → Int64) × (Nat → Int64) × (Nat → Int64)) => (∀ j : Nat, kZ ((u.1) j)) ∧ (∀ j : Nat, kZ ((u.2.2.2.2.1) j)) ∧ (∀ j : Nat, kZ ((u.2.2.2.2.2.1) j)) ∧ (∀ j : Nat, l12 ((u.2.2.2.2.2.2.2.2.1) j))) (fun (u : (Nat → Int32) × (Nat → Int64) × (Nat → Int64) × (Nat → Int64) × (Nat → Int32) × (Nat → Int32) × (Nat → Int32) × (Nat → Int64) × (Nat → Int64) × (Nat → Int64) × (Nat → Int64)) => cPost dC dI cI cJ cZ (va_A (sw_X5_join cI cJ cZ gh g_acts g_kind g_na g_nb g_nc g_nd g_ne g_dropped ga_live ga_low ga_high ga_sites ga_nulls ga_there ga_lanes ga_least ga_most ga_placeLow ga_placeHigh g_reached g_mayThrow g_status g_hasRun g_threw g_whereThrown g_value g_means g_laneOf g_sizeOf g_cells g_copied g_state g_joinedLow g_joinedHigh g_keptLow g_keptHigh gc_live gc_low gc_high gc_sites gc_nulls gc_there gc_lanes gc_least gc_most gc_placeLow gc_placeHigh) sz) [(gh, .inr (5, [.int g_acts, g_kind, g_na, g_nb, g_nc, g_nd, g_ne, g_dropped, .ref ga_live, .ref ga_low, .ref ga_high, .ref ga_sites, .ref ga_nulls, .ref ga_there, .ref ga_lanes, .ref ga_least, .ref ga_most, .ref ga_placeLow, .ref ga_placeHigh, g_reached, g_mayThrow, .int g_status, .int g_hasRun, .int g_threw, .int g_whereThrown, g_value, g_means, g_laneOf, g_sizeOf, g_cells, g_copied, .long g_state, .long g_joinedLow, .long g_joinedHigh, g_keptLow, g_keptHigh])), (ga_live, .inl (cZ, 2, .inl (u.1))), (ga_low, .inl (cJ, 12, .inr (.inl (u.2.1)))), (ga_high, .inl (cJ, 12, .inr (.inl (u.2.2.1)))), (ga_sites, .inl (cJ, 12, .inr (.inl (u.2.2.2.1)))), (ga_nulls, .inl (cZ, 12, .inl (u.2.2.2.2.1))), (ga_there, .inl (cZ, 80, .inl (u.2.2.2.2.2.1))), (ga_lanes, .inl (cI, 80, .inl (u.2.2.2.2.2.2.1))), (ga_least, .inl (cJ, 80, .inr (.inl (u.2.2.2.2.2.2.2.1)))), (ga_most, .inl (cJ, 80, .inr (.inl (u.2.2.2.2.2.2.2.2.1)))), (ga_placeLow, .inl (cJ, 960, .inr (.inl (u.2.2.2.2.2.2.2.2.2.1)))), (ga_placeHigh, .inl (cJ, 960, .inr (.inl (u.2.2.2.2.2.2.2.2.2.2))))]) (va_A (sw_X5_join cI cJ cZ gh g_acts g_kind g_na g_nb g_nc g_nd g_ne g_dropped ga_live ga_low ga_high ga_sites ga_nulls ga_there ga_lanes ga_least ga_most ga_placeLow ga_placeHigh g_reached g_mayThrow g_status g_hasRun g_threw g_whereThrown g_value g_means g_laneOf g_sizeOf g_cells g_copied g_state g_joinedLow g_joinedHigh g_keptLow g_keptHigh gc_live gc_low gc_high gc_sites gc_nulls gc_there gc_lanes gc_least gc_most gc_placeLow gc_placeHigh) sz)) 0 0 (va_A (sw_X5_join cI cJ cZ gh g_acts g_kind g_na g_nb g_nc g_nd g_ne g_dropped ga_live ga_low ga_high ga_sites ga_nulls ga_there ga_lanes ga_least ga_most ga_placeLow ga_placeHigh g_reached g_mayThrow g_status g_hasRun g_threw g_whereThrown g_value g_means g_laneOf g_sizeOf g_cells g_copied g_state g_joinedLow g_joinedHigh g_keptLow g_keptHigh gc_live gc_low gc_high gc_sites gc_nulls gc_there gc_lanes gc_least gc_most gc_placeLow gc_placeHigh) sz) := by
  refine Met.ofW (cc := cX5_join) (maxL := 2) (ret := none) (by decide) rfl ?_
  intro p e s m args below meth c s₁ B hml hv
  obtain ⟨rfl, hsz, hP, hK, hD0, hN⟩ := hv
  have hx := B.exec
  have hb := B.bytes
  have hr := B.returns
  have hts := atoms_spec (ws := v_X5_join) B.pre
  have hown : s.vm.findClass RX5 = some m.cls := findClass_of_methodNamed B.named
  have hlocks := B.notSynchronized
  subst hsz
  have hD := hD0.self (sz := s.heap.size)
  generalize hAe : va_A (sw_X5_join cI cJ cZ gh g_acts g_kind g_na g_nb g_nc g_nd g_ne g_dropped ga_live ga_low ga_high ga_sites ga_nulls ga_there ga_lanes ga_least ga_most ga_placeLow ga_placeHigh g_reached g_mayThrow g_status g_hasRun g_threw g_whereThrown g_value g_means g_laneOf g_sizeOf g_cells g_copied g_state g_joinedLow g_joinedHigh g_keptLow g_keptHigh gc_live gc_low gc_high gc_sites gc_nulls gc_there gc_lanes gc_least gc_most gc_placeLow gc_placeHigh) s.heap.size = A at hD ⊢
  have hA : ∀ q : Nat, s.heap.size ≤ q → A q := fun q h => by rw [← hAe]; exact Or.inr h
  clear hAe hD0
  have hS : va_S A s.heap s.heap [] := va_S.rf
  replace hP : va_P (dC, dI) vwCl [(gh, .inr (5, [.int g_acts, g_kind, g_na, g_nb, g_nc, g_nd, g_ne, g_dropped, .ref ga_live, .ref ga_low, .ref ga_high, .ref ga_sites, .ref ga_nulls, .ref ga_there, .ref ga_lanes, .ref ga_least, .ref ga_most, .ref ga_placeLow, .ref ga_placeHigh, g_reached, g_mayThrow, .int g_status, .int g_hasRun, .int g_threw, .int g_whereThrown, g_value, g_means, g_laneOf, g_sizeOf, g_cells, g_copied, .long g_state, .long g_joinedLow, .long g_joinedHigh, g_keptLow, g_keptHigh])), (ga_live, .inl (cZ, 2, .inl gc_live)), (ga_low, .inl (cJ, 12, .inr (.inl gc_low))), (ga_high, .inl (cJ, 12, .inr (.inl gc_high))), (ga_sites, .inl (cJ, 12, .inr (.inl gc_sites))), (ga_nulls, .inl (cZ, 12, .inl gc_nulls)), (ga_there, .inl (cZ, 80, .inl gc_there)), (ga_lanes, .inl (cI, 80, .inl gc_lanes)), (ga_least, .inl (cJ, 80, .inr (.inl gc_least))), (ga_most, .inl (cJ, 80, .inr (.inl gc_most))), (ga_placeLow, .inl (cJ, 960, .inr (.inl gc_placeLow))), (ga_placeHigh, .inl (cJ, 960, .inr (.inl gc_placeHigh)))] s.heap := hP
  replace hD : va_D A [(gh, .inr (5, [.int g_acts, g_kind, g_na, g_nb, g_nc, g_nd, g_ne, g_dropped, .ref ga_live, .ref ga_low, .ref ga_high, .ref ga_sites, .ref ga_nulls, .ref ga_there, .ref ga_lanes, .ref ga_least, .ref ga_most, .ref ga_placeLow, .ref ga_placeHigh, g_reached, g_mayThrow, .int g_status, .int g_hasRun, .int g_threw, .int g_whereThrown, g_value, g_means, g_laneOf, g_sizeOf, g_cells, g_copied, .long g_state, .long g_joinedLow, .long g_joinedHigh, g_keptLow, g_keptHigh])), (ga_live, .inl (cZ, 2, .inl gc_live)), (ga_low, .inl (cJ, 12, .inr (.inl gc_low))), (ga_high, .inl (cJ, 12, .inr (.inl gc_high))), (ga_sites, .inl (cJ, 12, .inr (.inl gc_sites))), (ga_nulls, .inl (cZ, 12, .inl gc_nulls)), (ga_there, .inl (cZ, 80, .inl gc_there)), (ga_lanes, .inl (cI, 80, .inl gc_lanes)), (ga_least, .inl (cJ, 80, .inr (.inl gc_least))), (ga_most, .inl (cJ, 80, .inr (.inl gc_most))), (ga_placeLow, .inl (cJ, 960, .inr (.inl gc_placeLow))), (ga_placeHigh, .inl (cJ, 960, .inr (.inl gc_placeHigh)))] := hD
  have hl := lv_entry ([.ref gh]) (n := 2) (Nat.le_of_ble_eq_true rfl)
  rw [lg_entry_eq]
  generalize (lg_sl ([.ref gh]) ++ List.replicate (2 - (lg_sl ([.ref gh])).length) Slot.unset).toArray = ls at hl ⊢
  replace hl : lv_has ls 2 [(0, .ref gh)] := hl
  have z_0 : (0 : Int32).toInt = 0 := by decide
  have z_1 : (1 : Int32).toInt = 1 := by decide
  have z_6 : (6 : Int32).toInt = 6 := by decide
  have z_40 : (40 : Int32).toInt = 40 := by decide
  refine lv_aload_n hx hb dX5_join_0 rfl (lv_at hl 0 rfl) ?_
  refine va_get (D := (dC, dI)) (ci := 5) (v := .ref ga_live) (C := RX5) (T := TX5) (N := 36) hx hb hts inv_X5_join_X5 hown hK hP 0 rfl rfl 8 (by decide) (hts (.fieldLink RX5 32 "ArraySegmentsModel" "live" "[Z") (List.mem_of_getElem? (i := 1) rfl)) (fun _ h9 => h9) rfl dX5_join_1 ?_
  refine lv_iconst (v := 1) hx hb dX5_join_4 (by decide) ?_
  refine sf_zald kZ hx hb hK hP 1 2 rfl rfl h_gc_live (vp_in_iff.mpr ⟨by omega, by omega⟩) dX5_join_5 (fun v_1 q_v_1 e_v_1 => ?_)
  refine lv_if_ne (tgt := 10) hx hb dX5_join_6 (by decide) (fun c_2 => ?_) (fun c_2 => ?_)
  · -- yes
    have k_2 : ¬ v_1.toInt = (0 : Int32).toInt := ci_ne c_2
    refine lv_aload_n hx hb dX5_join_10 rfl (lv_at hl 0 rfl) ?_
    refine va_get (D := (dC, dI)) (ci := 5) (v := .ref ga_live) (C := RX5) (T := TX5) (N := 36) hx hb hts inv_X5_join_X5 hown hK hP 0 rfl rfl 8 (by decide) (hts (.fieldLink RX5 32 "ArraySegmentsModel" "live" "[Z") (List.mem_of_getElem? (i := 1) rfl)) (fun _ h9 => h9) rfl dX5_join_11 ?_
    refine lv_iconst (v := 0) hx hb dX5_join_14 (by decide) ?_
    refine sf_zald kZ hx hb hK hP 1 2 rfl rfl h_gc_live (vp_in_iff.mpr ⟨by omega, by omega⟩) dX5_join_15 (fun v_3 q_v_3 e_v_3 => ?_)
    refine lv_if_ne (tgt := 26) hx hb dX5_join_16 (by decide) (fun c_4 => ?_) (fun c_4 => ?_)
    · -- yes
      have k_4 : ¬ v_3.toInt = (0 : Int32).toInt := ci_ne c_4
      refine lv_iconst (v := 0) hx hb dX5_join_26 (by decide) ?_
      refine lv_istore_n (lv' := [(1, .int 0), (0, .ref gh)]) hx hb dX5_join_27 rfl hl (by decide) rfl (fun ls1 hl1 => ?_)
      replace hl := hl1; clear hl1
      refine my_wloop (S := Int32 × (Nat → Int64) × (Nat → Int64) × (Nat → Int64) × (Nat → Int32)) (fun u => (0 ≤ (u.1).toInt ∧ (u.1).toInt ≤ 6) ∧ (∀ j : Nat, kZ ((u.2.2.2.2) j))) (fun u => (6 - (u.1).toInt).toNat) (fun u => [(gh, .inr (5, [.int g_acts, g_kind, g_na, g_nb, g_nc, g_nd, g_ne, g_dropped, .ref ga_live, .ref ga_low, .ref ga_high, .ref ga_sites, .ref ga_nulls, .ref ga_there, .ref ga_lanes, .ref ga_least, .ref ga_most, .ref ga_placeLow, .ref ga_placeHigh, g_reached, g_mayThrow, .int g_status, .int g_hasRun, .int g_threw, .int g_whereThrown, g_value, g_means, g_laneOf, g_sizeOf, g_cells, g_copied, .long g_state, .long g_joinedLow, .long g_joinedHigh, g_keptLow, g_keptHigh])), (ga_live, .inl (cZ, 2, .inl gc_live)), (ga_low, .inl (cJ, 12, .inr (.inl (u.2.1)))), (ga_high, .inl (cJ, 12, .inr (.inl (u.2.2.1)))), (ga_sites, .inl (cJ, 12, .inr (.inl (u.2.2.2.1)))), (ga_nulls, .inl (cZ, 12, .inl (u.2.2.2.2))), (ga_there, .inl (cZ, 80, .inl gc_there)), (ga_lanes, .inl (cI, 80, .inl gc_lanes)), (ga_least, .inl (cJ, 80, .inr (.inl gc_least))), (ga_most, .inl (cJ, 80, .inr (.inl gc_most))), (ga_placeLow, .inl (cJ, 960, .inr (.inl gc_placeLow))), (ga_placeHigh, .inl (cJ, 960, .inr (.inl gc_placeHigh)))]) (fun u => [(1, .int (u.1)), (0, .ref gh)]) (H0 := s.heap) (A := A) (D := (dC, dI)) (cl := vwCl) ((0 : Int32), gc_low, gc_high, gc_sites, gc_nulls) (show (0 ≤ (0 : Int32).toInt ∧ (0 : Int32).toInt ≤ 6) ∧ (∀ j : Nat, kZ (gc_nulls j)) from ⟨⟨by omega, by omega⟩, h_gc_nulls⟩) (by exact hP) (by exact hD) hS (by exact hl) (fun u_5 hu_5 ih_5 H_5 locs_5 ls1 hP1 hD1 hS1 hl1 => ?_)
      obtain ⟨v_6, f_7, f_8, f_9, f_10⟩ := u_5
      replace hu_5 : (0 ≤ v_6.toInt ∧ v_6.toInt ≤ 6) ∧ (∀ j : Nat, kZ (f_10 j)) := hu_5
      obtain ⟨q_v_6, h_f_10⟩ := hu_5
      replace hP : va_P (dC, dI) vwCl [(gh, .inr (5, [.int g_acts, g_kind, g_na, g_nb, g_nc, g_nd, g_ne, g_dropped, .ref ga_live, .ref ga_low, .ref ga_high, .ref ga_sites, .ref ga_nulls, .ref ga_there, .ref ga_lanes, .ref ga_least, .ref ga_most, .ref ga_placeLow, .ref ga_placeHigh, g_reached, g_mayThrow, .int g_status, .int g_hasRun, .int g_threw, .int g_whereThrown, g_value, g_means, g_laneOf, g_sizeOf, g_cells, g_copied, .long g_state, .long g_joinedLow, .long g_joinedHigh, g_keptLow, g_keptHigh])), (ga_live, .inl (cZ, 2, .inl gc_live)), (ga_low, .inl (cJ, 12, .inr (.inl f_7))), (ga_high, .inl (cJ, 12, .inr (.inl f_8))), (ga_sites, .inl (cJ, 12, .inr (.inl f_9))), (ga_nulls, .inl (cZ, 12, .inl f_10)), (ga_there, .inl (cZ, 80, .inl gc_there)), (ga_lanes, .inl (cI, 80, .inl gc_lanes)), (ga_least, .inl (cJ, 80, .inr (.inl gc_least))), (ga_most, .inl (cJ, 80, .inr (.inl gc_most))), (ga_placeLow, .inl (cJ, 960, .inr (.inl gc_placeLow))), (ga_placeHigh, .inl (cJ, 960, .inr (.inl gc_placeHigh)))] H_5 := hP1
      replace hD : va_D A [(gh, .inr (5, [.int g_acts, g_kind, g_na, g_nb, g_nc, g_nd, g_ne, g_dropped, .ref ga_live, .ref ga_low, .ref ga_high, .ref ga_sites, .ref ga_nulls, .ref ga_there, .ref ga_lanes, .ref ga_least, .ref ga_most, .ref ga_placeLow, .ref ga_placeHigh, g_reached, g_mayThrow, .int g_status, .int g_hasRun, .int g_threw, .int g_whereThrown, g_value, g_means, g_laneOf, g_sizeOf, g_cells, g_copied, .long g_state, .long g_joinedLow, .long g_joinedHigh, g_keptLow, g_keptHigh])), (ga_live, .inl (cZ, 2, .inl gc_live)), (ga_low, .inl (cJ, 12, .inr (.inl f_7))), (ga_high, .inl (cJ, 12, .inr (.inl f_8))), (ga_sites, .inl (cJ, 12, .inr (.inl f_9))), (ga_nulls, .inl (cZ, 12, .inl f_10)), (ga_there, .inl (cZ, 80, .inl gc_there)), (ga_lanes, .inl (cI, 80, .inl gc_lanes)), (ga_least, .inl (cJ, 80, .inr (.inl gc_least))), (ga_most, .inl (cJ, 80, .inr (.inl gc_most))), (ga_placeLow, .inl (cJ, 960, .inr (.inl gc_placeLow))), (ga_placeHigh, .inl (cJ, 960, .inr (.inl gc_placeHigh)))] := hD1
      replace hS := hS1
      clear hP1 hD1 hS1
      replace hl : lv_has ls1 2 [(1, .int v_6), (0, .ref gh)] := hl1
      clear hl1
      refine lv_iload_n hx hb dX5_join_28 rfl (lv_at hl 0 rfl) ?_
      refine lv_bipush (v := 6) hx hb dX5_join_29 (by decide) ?_
      refine lv_icmp_ge (tgt := 162) hx hb dX5_join_31 (by decide) (fun c_11 => ?_) (fun c_11 => ?_)
      · -- yes
        have k_11 : (6 : Int32).toInt ≤ v_6.toInt := ci_ge c_11
        refine lv_iconst (v := 0) hx hb dX5_join_162 (by decide) ?_
        refine lv_istore_n (lv' := [(1, .int 0), (0, .ref gh)]) hx hb dX5_join_163 rfl hl (by decide) rfl (fun ls1 hl1 => ?_)
        replace hl := hl1; clear hl1
        refine my_wloop (S := Int32 × (Nat → Int32) × (Nat → Int32) × (Nat → Int64) × (Nat → Int64) × (Nat → Int64) × (Nat → Int64)) (fun u => (0 ≤ (u.1).toInt ∧ (u.1).toInt ≤ 40) ∧ (∀ j : Nat, kZ ((u.2.1) j)) ∧ (∀ j : Nat, l12 ((u.2.2.2.2.1) j))) (fun u => (40 - (u.1).toInt).toNat) (fun u => [(gh, .inr (5, [.int g_acts, g_kind, g_na, g_nb, g_nc, g_nd, g_ne, g_dropped, .ref ga_live, .ref ga_low, .ref ga_high, .ref ga_sites, .ref ga_nulls, .ref ga_there, .ref ga_lanes, .ref ga_least, .ref ga_most, .ref ga_placeLow, .ref ga_placeHigh, g_reached, g_mayThrow, .int g_status, .int g_hasRun, .int g_threw, .int g_whereThrown, g_value, g_means, g_laneOf, g_sizeOf, g_cells, g_copied, .long g_state, .long g_joinedLow, .long g_joinedHigh, g_keptLow, g_keptHigh])), (ga_live, .inl (cZ, 2, .inl gc_live)), (ga_low, .inl (cJ, 12, .inr (.inl f_7))), (ga_high, .inl (cJ, 12, .inr (.inl f_8))), (ga_sites, .inl (cJ, 12, .inr (.inl f_9))), (ga_nulls, .inl (cZ, 12, .inl f_10)), (ga_there, .inl (cZ, 80, .inl (u.2.1))), (ga_lanes, .inl (cI, 80, .inl (u.2.2.1))), (ga_least, .inl (cJ, 80, .inr (.inl (u.2.2.2.1)))), (ga_most, .inl (cJ, 80, .inr (.inl (u.2.2.2.2.1)))), (ga_placeLow, .inl (cJ, 960, .inr (.inl (u.2.2.2.2.2.1)))), (ga_placeHigh, .inl (cJ, 960, .inr (.inl (u.2.2.2.2.2.2))))]) (fun u => [(1, .int (u.1)), (0, .ref gh)]) (H0 := s.heap) (A := A) (D := (dC, dI)) (cl := vwCl) ((0 : Int32), gc_there, gc_lanes, gc_least, gc_most, gc_placeLow, gc_placeHigh) (show (0 ≤ (0 : Int32).toInt ∧ (0 : Int32).toInt ≤ 40) ∧ (∀ j : Nat, kZ (gc_there j)) ∧ (∀ j : Nat, l12 (gc_most j)) from ⟨⟨by omega, by omega⟩, h_gc_there, h_gc_most⟩) (by exact hP) (by exact hD) hS (by exact hl) (fun u_12 hu_12 ih_12 H_12 locs_12 ls1 hP1 hD1 hS1 hl1 => ?_)
        obtain ⟨v_13, f_14, f_15, f_16, f_17, f_18, f_19⟩ := u_12
        replace hu_12 : (0 ≤ v_13.toInt ∧ v_13.toInt ≤ 40) ∧ (∀ j : Nat, kZ (f_14 j)) ∧ (∀ j : Nat, l12 (f_17 j)) := hu_12
        obtain ⟨q_v_13, h_f_14, h_f_17⟩ := hu_12
        replace hP : va_P (dC, dI) vwCl [(gh, .inr (5, [.int g_acts, g_kind, g_na, g_nb, g_nc, g_nd, g_ne, g_dropped, .ref ga_live, .ref ga_low, .ref ga_high, .ref ga_sites, .ref ga_nulls, .ref ga_there, .ref ga_lanes, .ref ga_least, .ref ga_most, .ref ga_placeLow, .ref ga_placeHigh, g_reached, g_mayThrow, .int g_status, .int g_hasRun, .int g_threw, .int g_whereThrown, g_value, g_means, g_laneOf, g_sizeOf, g_cells, g_copied, .long g_state, .long g_joinedLow, .long g_joinedHigh, g_keptLow, g_keptHigh])), (ga_live, .inl (cZ, 2, .inl gc_live)), (ga_low, .inl (cJ, 12, .inr (.inl f_7))), (ga_high, .inl (cJ, 12, .inr (.inl f_8))), (ga_sites, .inl (cJ, 12, .inr (.inl f_9))), (ga_nulls, .inl (cZ, 12, .inl f_10)), (ga_there, .inl (cZ, 80, .inl f_14)), (ga_lanes, .inl (cI, 80, .inl f_15)), (ga_least, .inl (cJ, 80, .inr (.inl f_16))), (ga_most, .inl (cJ, 80, .inr (.inl f_17))), (ga_placeLow, .inl (cJ, 960, .inr (.inl f_18))), (ga_placeHigh, .inl (cJ, 960, .inr (.inl f_19)))] H_12 := hP1
        replace hD : va_D A [(gh, .inr (5, [.int g_acts, g_kind, g_na, g_nb, g_nc, g_nd, g_ne, g_dropped, .ref ga_live, .ref ga_low, .ref ga_high, .ref ga_sites, .ref ga_nulls, .ref ga_there, .ref ga_lanes, .ref ga_least, .ref ga_most, .ref ga_placeLow, .ref ga_placeHigh, g_reached, g_mayThrow, .int g_status, .int g_hasRun, .int g_threw, .int g_whereThrown, g_value, g_means, g_laneOf, g_sizeOf, g_cells, g_copied, .long g_state, .long g_joinedLow, .long g_joinedHigh, g_keptLow, g_keptHigh])), (ga_live, .inl (cZ, 2, .inl gc_live)), (ga_low, .inl (cJ, 12, .inr (.inl f_7))), (ga_high, .inl (cJ, 12, .inr (.inl f_8))), (ga_sites, .inl (cJ, 12, .inr (.inl f_9))), (ga_nulls, .inl (cZ, 12, .inl f_10)), (ga_there, .inl (cZ, 80, .inl f_14)), (ga_lanes, .inl (cI, 80, .inl f_15)), (ga_least, .inl (cJ, 80, .inr (.inl f_16))), (ga_most, .inl (cJ, 80, .inr (.inl f_17))), (ga_placeLow, .inl (cJ, 960, .inr (.inl f_18))), (ga_placeHigh, .inl (cJ, 960, .inr (.inl f_19)))] := hD1
        replace hS := hS1
        clear hP1 hD1 hS1
        replace hl : lv_has ls1 2 [(1, .int v_13), (0, .ref gh)] := hl1
        clear hl1
        refine lv_iload_n hx hb dX5_join_164 rfl (lv_at hl 0 rfl) ?_
        refine lv_bipush (v := 40) hx hb dX5_join_165 (by decide) ?_
        refine lv_icmp_ge (tgt := 185) hx hb dX5_join_167 (by decide) (fun c_20 => ?_) (fun c_20 => ?_)
        · -- yes
          have k_20 : (40 : Int32).toInt ≤ v_13.toInt := ci_ge c_20
          have hP9 := hP.sub (ws' := [(gh, .inr (5, [.int g_acts, g_kind, g_na, g_nb, g_nc, g_nd, g_ne, g_dropped, .ref ga_live, .ref ga_low, .ref ga_high, .ref ga_sites, .ref ga_nulls, .ref ga_there, .ref ga_lanes, .ref ga_least, .ref ga_most, .ref ga_placeLow, .ref ga_placeHigh, g_reached, g_mayThrow, .int g_status, .int g_hasRun, .int g_threw, .int g_whereThrown, g_value, g_means, g_laneOf, g_sizeOf, g_cells, g_copied, .long g_state, .long g_joinedLow, .long g_joinedHigh, g_keptLow, g_keptHigh])), (ga_live, .inl (cZ, 2, .inl gc_live)), (ga_low, .inl (cJ, 12, .inr (.inl f_7))), (ga_high, .inl (cJ, 12, .inr (.inl f_8))), (ga_sites, .inl (cJ, 12, .inr (.inl f_9))), (ga_nulls, .inl (cZ, 12, .inl f_10)), (ga_there, .inl (cZ, 80, .inl f_14)), (ga_lanes, .inl (cI, 80, .inl f_15)), (ga_least, .inl (cJ, 80, .inr (.inl f_16))), (ga_most, .inl (cJ, 80, .inr (.inl f_17))), (ga_placeLow, .inl (cJ, 960, .inr (.inl f_18))), (ga_placeHigh, .inl (cJ, 960, .inr (.inl f_19)))]) [0, 1, 2, 3, 4, 5, 6, 7, 8, 9, 10, 11] rfl
          have hD9 := hD.sub (ws' := [(gh, .inr (5, [.int g_acts, g_kind, g_na, g_nb, g_nc, g_nd, g_ne, g_dropped, .ref ga_live, .ref ga_low, .ref ga_high, .ref ga_sites, .ref ga_nulls, .ref ga_there, .ref ga_lanes, .ref ga_least, .ref ga_most, .ref ga_placeLow, .ref ga_placeHigh, g_reached, g_mayThrow, .int g_status, .int g_hasRun, .int g_threw, .int g_whereThrown, g_value, g_means, g_laneOf, g_sizeOf, g_cells, g_copied, .long g_state, .long g_joinedLow, .long g_joinedHigh, g_keptLow, g_keptHigh])), (ga_live, .inl (cZ, 2, .inl gc_live)), (ga_low, .inl (cJ, 12, .inr (.inl f_7))), (ga_high, .inl (cJ, 12, .inr (.inl f_8))), (ga_sites, .inl (cJ, 12, .inr (.inl f_9))), (ga_nulls, .inl (cZ, 12, .inl f_10)), (ga_there, .inl (cZ, 80, .inl f_14)), (ga_lanes, .inl (cI, 80, .inl f_15)), (ga_least, .inl (cJ, 80, .inr (.inl f_16))), (ga_most, .inl (cJ, 80, .inr (.inl f_17))), (ga_placeLow, .inl (cJ, 960, .inr (.inl f_18))), (ga_placeHigh, .inl (cJ, 960, .inr (.inl f_19)))]) [0, 1, 2, 3, 4, 5, 6, 7, 8, 9, 10, 11] (by decide) rfl
          exact W.vret hx hb hr (fun t ht hW => ⟨⟨(gc_live, f_7, f_8, f_9, f_10, f_14, f_15, f_16, f_17, f_18, f_19), rfl, ⟨(show ∀ j : Nat, kZ (gc_live j) from h_gc_live), (show ∀ j : Nat, kZ (f_10 j) from h_f_10), (show ∀ j : Nat, kZ (f_14 j) from h_f_14), (show ∀ j : Nat, l12 (f_17 j) from h_f_17)⟩, by rw [ht]; exact hP9, va_K.moved hW.alike hK, hD9⟩, hS.F ht⟩) hS.2.2 dX5_join_185
        · -- no
          have k_20 : v_13.toInt < (40 : Int32).toInt := ci_nge c_20
          refine lv_aload_n hx hb dX5_join_170 rfl (lv_at hl 1 rfl) ?_
          refine lv_bipush (v := 40) hx hb dX5_join_171 (by decide) ?_
          refine lv_iload_n hx hb dX5_join_173 rfl (lv_at hl 0 rfl) ?_
          refine sf_iadd hx hb dX5_join_174 ⟨by omega, by omega⟩ (fun v_21 q_v_21 => ?_)
          refine lv_iload_n hx hb dX5_join_175 rfl (lv_at hl 0 rfl) ?_
          have hPc := hP.sub (ws' := [(gh, .inr (5, [.int g_acts, g_kind, g_na, g_nb, g_nc, g_nd, g_ne, g_dropped, .ref ga_live, .ref ga_low, .ref ga_high, .ref ga_sites, .ref ga_nulls, .ref ga_there, .ref ga_lanes, .ref ga_least, .ref ga_most, .ref ga_placeLow, .ref ga_placeHigh, g_reached, g_mayThrow, .int g_status, .int g_hasRun, .int g_threw, .int g_whereThrown, g_value, g_means, g_laneOf, g_sizeOf, g_cells, g_copied, .long g_state, .long g_joinedLow, .long g_joinedHigh, g_keptLow, g_keptHigh])), (ga_there, .inl (cZ, 80, .inl f_14)), (ga_lanes, .inl (cI, 80, .inl f_15)), (ga_least, .inl (cJ, 80, .inr (.inl f_16))), (ga_most, .inl (cJ, 80, .inr (.inl f_17))), (ga_placeLow, .inl (cJ, 960, .inr (.inl f_18))), (ga_placeHigh, .inl (cJ, 960, .inr (.inl f_19)))]) [0, 6, 7, 8, 9, 10, 11] rfl
          have hDc := hD.sub (ws' := [(gh, .inr (5, [.int g_acts, g_kind, g_na, g_nb, g_nc, g_nd, g_ne, g_dropped, .ref ga_live, .ref ga_low, .ref ga_high, .ref ga_sites, .ref ga_nulls, .ref ga_there, .ref ga_lanes, .ref ga_least, .ref ga_most, .ref ga_placeLow, .ref ga_placeHigh, g_reached, g_mayThrow, .int g_status, .int g_hasRun, .int g_threw, .int g_whereThrown, g_value, g_means, g_laneOf, g_sizeOf, g_cells, g_copied, .long g_state, .long g_joinedLow, .long g_joinedHigh, g_keptLow, g_keptHigh])), (ga_there, .inl (cZ, 80, .inl f_14)), (ga_lanes, .inl (cI, 80, .inl f_15)), (ga_least, .inl (cJ, 80, .inr (.inl f_16))), (ga_most, .inl (cJ, 80, .inr (.inl f_17))), (ga_placeLow, .inl (cJ, 960, .inr (.inl f_18))), (ga_placeHigh, .inl (cJ, 960, .inr (.inl f_19)))]) [0, 6, 7, 8, 9, 10, 11] (by decide) rfl
          have hFc := va_free (wc := [(gh, .inr (5, [.int g_acts, g_kind, g_na, g_nb, g_nc, g_nd, g_ne, g_dropped, .ref ga_live, .ref ga_low, .ref ga_high, .ref ga_sites, .ref ga_nulls, .ref ga_there, .ref ga_lanes, .ref ga_least, .ref ga_most, .ref ga_placeLow, .ref ga_placeHigh, g_reached, g_mayThrow, .int g_status, .int g_hasRun, .int g_threw, .int g_whereThrown, g_value, g_means, g_laneOf, g_sizeOf, g_cells, g_copied, .long g_state, .long g_joinedLow, .long g_joinedHigh, g_keptLow, g_keptHigh])), (ga_there, .inl (cZ, 80, .inl f_14)), (ga_lanes, .inl (cI, 80, .inl f_15)), (ga_least, .inl (cJ, 80, .inr (.inl f_16))), (ga_most, .inl (cJ, 80, .inr (.inl f_17))), (ga_placeLow, .inl (cJ, 960, .inr (.inl f_18))), (ga_placeHigh, .inl (cJ, 960, .inr (.inl f_19)))]) hD hS hA [0, 6, 7, 8, 9, 10, 11] rfl
          refine va_callv (va_runV (As := [.int v_21, .int v_13]) (rest := []) ⟨hx, hb, hml, hown, hts⟩ (s_X5_joinSite l dC dI cI cJ cZ gh g_acts g_kind g_na g_nb g_nc g_nd g_ne g_dropped (.ref ga_live) (.ref ga_low) (.ref ga_high) (.ref ga_sites) (.ref ga_nulls) ga_there ga_lanes ga_least ga_most ga_placeLow ga_placeHigh g_reached g_mayThrow g_status g_hasRun g_threw g_whereThrown g_value g_means g_laneOf g_sizeOf g_cells g_copied g_state g_joinedLow g_joinedHigh g_keptLow g_keptHigh f_14 f_15 f_16 f_17 f_18 f_19 v_21 v_13 H_12.size q_g_hasRun h_f_14 h_f_17 (by first | assumption | omega) (by first | assumption | omega)) (cwV 2 hts h_X5_join_X5_joinSite_157 rfl rfl rfl (by decide +kernel) ⟨Nat.le_of_ble_eq_true rfl, Nat.le_of_ble_eq_true rfl⟩) ⟨cPre_blind, va_recv hK hPc (ci := 5) (q0 := 0) rfl rfl, cPre_of hK hN hPc hDc⟩ rfl rfl hl.1 rfl (lv_room (Nat.le_of_ble_eq_true rfl)) dX5_join_176 ⟨Nat.le_of_ble_eq_true rfl, Nat.le_of_ble_eq_true rfl⟩) hS (fun q _ h => hFc q h) hFc (fun u_22 t_22 H_22 locs_22 ht hvm hw_22 hB hz1 hk1 hS1 => ?_)
          obtain ⟨f_23, f_24, f_25, f_26, f_27, f_28⟩ := u_22
          obtain ⟨hP1, hK1, hD1⟩ := hB
          rw [ht] at hP1
          obtain ⟨hP2, hD2⟩ := va_join (wr := [(ga_live, .inl (cZ, 2, .inl gc_live)), (ga_low, .inl (cJ, 12, .inr (.inl f_7))), (ga_high, .inl (cJ, 12, .inr (.inl f_8))), (ga_sites, .inl (cJ, 12, .inr (.inl f_9))), (ga_nulls, .inl (cZ, 12, .inl f_10))]) (w1 := [(gh, .inr (5, [.int g_acts, g_kind, g_na, g_nb, g_nc, g_nd, g_ne, g_dropped, .ref ga_live, .ref ga_low, .ref ga_high, .ref ga_sites, .ref ga_nulls, .ref ga_there, .ref ga_lanes, .ref ga_least, .ref ga_most, .ref ga_placeLow, .ref ga_placeHigh, g_reached, g_mayThrow, .int g_status, .int g_hasRun, .int g_threw, .int g_whereThrown, g_value, g_means, g_laneOf, g_sizeOf, g_cells, g_copied, .long g_state, .long g_joinedLow, .long g_joinedHigh, g_keptLow, g_keptHigh])), (ga_there, .inl (cZ, 80, .inl f_23)), (ga_lanes, .inl (cI, 80, .inl f_24)), (ga_least, .inl (cJ, 80, .inr (.inl f_25))), (ga_most, .inl (cJ, 80, .inr (.inl f_26))), (ga_placeLow, .inl (cJ, 960, .inr (.inl f_27))), (ga_placeHigh, .inl (cJ, 960, .inr (.inl f_28)))]) hP hD [0, 6, 7, 8, 9, 10, 11] [1, 2, 3, 4, 5] rfl rfl (by decide) (by decide) hk1 hFc hP1 hD1
          clear hPc hDc hFc hP1 hD1 hK1 hk1 hz1 hvm ht
          replace hP : va_P (dC, dI) vwCl [(ga_live, .inl (cZ, 2, .inl gc_live)), (ga_low, .inl (cJ, 12, .inr (.inl f_7))), (ga_high, .inl (cJ, 12, .inr (.inl f_8))), (ga_sites, .inl (cJ, 12, .inr (.inl f_9))), (ga_nulls, .inl (cZ, 12, .inl f_10)), (gh, .inr (5, [.int g_acts, g_kind, g_na, g_nb, g_nc, g_nd, g_ne, g_dropped, .ref ga_live, .ref ga_low, .ref ga_high, .ref ga_sites, .ref ga_nulls, .ref ga_there, .ref ga_lanes, .ref ga_least, .ref ga_most, .ref ga_placeLow, .ref ga_placeHigh, g_reached, g_mayThrow, .int g_status, .int g_hasRun, .int g_threw, .int g_whereThrown, g_value, g_means, g_laneOf, g_sizeOf, g_cells, g_copied, .long g_state, .long g_joinedLow, .long g_joinedHigh, g_keptLow, g_keptHigh])), (ga_there, .inl (cZ, 80, .inl f_23)), (ga_lanes, .inl (cI, 80, .inl f_24)), (ga_least, .inl (cJ, 80, .inr (.inl f_25))), (ga_most, .inl (cJ, 80, .inr (.inl f_26))), (ga_placeLow, .inl (cJ, 960, .inr (.inl f_27))), (ga_placeHigh, .inl (cJ, 960, .inr (.inl f_28)))] H_22 := hP2
          replace hD : va_D A [(ga_live, .inl (cZ, 2, .inl gc_live)), (ga_low, .inl (cJ, 12, .inr (.inl f_7))), (ga_high, .inl (cJ, 12, .inr (.inl f_8))), (ga_sites, .inl (cJ, 12, .inr (.inl f_9))), (ga_nulls, .inl (cZ, 12, .inl f_10)), (gh, .inr (5, [.int g_acts, g_kind, g_na, g_nb, g_nc, g_nd, g_ne, g_dropped, .ref ga_live, .ref ga_low, .ref ga_high, .ref ga_sites, .ref ga_nulls, .ref ga_there, .ref ga_lanes, .ref ga_least, .ref ga_most, .ref ga_placeLow, .ref ga_placeHigh, g_reached, g_mayThrow, .int g_status, .int g_hasRun, .int g_threw, .int g_whereThrown, g_value, g_means, g_laneOf, g_sizeOf, g_cells, g_copied, .long g_state, .long g_joinedLow, .long g_joinedHigh, g_keptLow, g_keptHigh])), (ga_there, .inl (cZ, 80, .inl f_23)), (ga_lanes, .inl (cI, 80, .inl f_24)), (ga_least, .inl (cJ, 80, .inr (.inl f_25))), (ga_most, .inl (cJ, 80, .inr (.inl f_26))), (ga_placeLow, .inl (cJ, 960, .inr (.inl f_27))), (ga_placeHigh, .inl (cJ, 960, .inr (.inl f_28)))] := hD2
          replace hS := hS1
          clear hP2 hD2 hS1
          replace hw_22 : (∀ j : Nat, kZ (f_23 j)) ∧ (∀ j : Nat, l12 (f_26 j)) := hw_22
          obtain ⟨h_f_23, h_f_26⟩ := hw_22
          refine sf_iinc hx hb dX5_join_179 hl (k := 0) (x := v_13) (w := 1) rfl (by decide) (by decide) ⟨by omega, by omega⟩ (fun v_29 q_v_29 ls1 hl1 => ?_)
          replace hl : lv_has ls1 2 [(1, .int v_29), (0, .ref gh)] := hl1
          clear hl1
          refine lv_goto (tgt := 164) hx hb dX5_join_182 (by decide) ?_
          exact ih_12 (v_29, f_23, f_24, f_25, f_26, f_27, f_28) (show (0 ≤ v_29.toInt ∧ v_29.toInt ≤ 40) ∧ (∀ j : Nat, kZ (f_23 j)) ∧ (∀ j : Nat, l12 (f_26 j)) from ⟨⟨by omega, by omega⟩, h_f_23, h_f_26⟩) (by show (40 - v_29.toInt).toNat < (40 - v_13.toInt).toNat; omega) _ _ _ (hP.sub [5, 0, 1, 2, 3, 4, 6, 7, 8, 9, 10, 11] rfl) (hD.sub [5, 0, 1, 2, 3, 4, 6, 7, 8, 9, 10, 11] (by decide) rfl) hS (lv_sub hl [0, 1] rfl)
      · -- no
        have k_11 : v_6.toInt < (6 : Int32).toInt := ci_nge c_11
        refine lv_aload_n hx hb dX5_join_34 rfl (lv_at hl 1 rfl) ?_
        refine va_get (D := (dC, dI)) (ci := 5) (v := .ref ga_low) (C := RX5) (T := TX5) (N := 36) hx hb hts inv_X5_join_X5 hown hK hP 0 rfl rfl 9 (by decide) (hts (.fieldLink RX5 35 "ArraySegmentsModel" "low" "[J") (List.mem_of_getElem? (i := 2) rfl)) (fun _ h9 => h9) rfl dX5_join_35 ?_
        refine lv_iload_n hx hb dX5_join_38 rfl (lv_at hl 0 rfl) ?_
        refine lv_aload_n hx hb dX5_join_39 rfl (lv_at hl 1 rfl) ?_
        refine va_get (D := (dC, dI)) (ci := 5) (v := .ref ga_low) (C := RX5) (T := TX5) (N := 36) hx hb hts inv_X5_join_X5 hown hK hP 0 rfl rfl 9 (by decide) (hts (.fieldLink RX5 35 "ArraySegmentsModel" "low" "[J") (List.mem_of_getElem? (i := 2) rfl)) (fun _ h9 => h9) rfl dX5_join_40 ?_
        refine lv_bipush (v := 6) hx hb dX5_join_43 (by decide) ?_
        refine lv_iload_n hx hb dX5_join_45 rfl (lv_at hl 0 rfl) ?_
        refine sf_iadd hx hb dX5_join_46 ⟨by omega, by omega⟩ (fun v_30 q_v_30 => ?_)
        refine sf_lald lT hx hb hK hP 2 1 rfl rfl (fun _ => trivial) (vp_in_iff.mpr ⟨by omega, by omega⟩) dX5_join_47 (fun v_31 q_v_31 e_v_31 => ?_)
        refine lv_aload_n hx hb dX5_join_48 rfl (lv_at hl 1 rfl) ?_
        refine va_get (D := (dC, dI)) (ci := 5) (v := .ref ga_low) (C := RX5) (T := TX5) (N := 36) hx hb hts inv_X5_join_X5 hown hK hP 0 rfl rfl 9 (by decide) (hts (.fieldLink RX5 35 "ArraySegmentsModel" "low" "[J") (List.mem_of_getElem? (i := 2) rfl)) (fun _ h9 => h9) rfl dX5_join_49 ?_
        refine lv_iload_n hx hb dX5_join_52 rfl (lv_at hl 0 rfl) ?_
        refine sf_lald lT hx hb hK hP 2 1 rfl rfl (fun _ => trivial) (vp_in_iff.mpr ⟨by omega, by omega⟩) dX5_join_53 (fun v_32 q_v_32 e_v_32 => ?_)
        refine W.lcmp hx hb dX5_join_54 ?_
        refine my_join (S := Int64) (fun u => True) (fun u => [(gh, .inr (5, [.int g_acts, g_kind, g_na, g_nb, g_nc, g_nd, g_ne, g_dropped, .ref ga_live, .ref ga_low, .ref ga_high, .ref ga_sites, .ref ga_nulls, .ref ga_there, .ref ga_lanes, .ref ga_least, .ref ga_most, .ref ga_placeLow, .ref ga_placeHigh, g_reached, g_mayThrow, .int g_status, .int g_hasRun, .int g_threw, .int g_whereThrown, g_value, g_means, g_laneOf, g_sizeOf, g_cells, g_copied, .long g_state, .long g_joinedLow, .long g_joinedHigh, g_keptLow, g_keptHigh])), (ga_live, .inl (cZ, 2, .inl gc_live)), (ga_low, .inl (cJ, 12, .inr (.inl f_7))), (ga_high, .inl (cJ, 12, .inr (.inl f_8))), (ga_sites, .inl (cJ, 12, .inr (.inl f_9))), (ga_nulls, .inl (cZ, 12, .inl f_10)), (ga_there, .inl (cZ, 80, .inl gc_there)), (ga_lanes, .inl (cI, 80, .inl gc_lanes)), (ga_least, .inl (cJ, 80, .inr (.inl gc_least))), (ga_most, .inl (cJ, 80, .inr (.inl gc_most))), (ga_placeLow, .inl (cJ, 960, .inr (.inl gc_placeLow))), (ga_placeHigh, .inl (cJ, 960, .inr (.inl gc_placeHigh)))]) (fun u => [(1, .int v_6), (0, .ref gh)]) (fun u => [.long (u), .int v_6, .ref ga_low]) (nL := 2) (H0 := s.heap) (A := A) (D := (dC, dI)) (cl := vwCl) 76 (fun u_34 hu_34 H_34 locs_34 ls1 hP1 hD1 hS1 hl1 => ?_) (fun jn_34 => ?_)
        · -- behind 76
          obtain ⟨v_35, rfl⟩ : ∃ z, z = u_34 := ⟨_, rfl⟩
          replace hP : va_P (dC, dI) vwCl [(gh, .inr (5, [.int g_acts, g_kind, g_na, g_nb, g_nc, g_nd, g_ne, g_dropped, .ref ga_live, .ref ga_low, .ref ga_high, .ref ga_sites, .ref ga_nulls, .ref ga_there, .ref ga_lanes, .ref ga_least, .ref ga_most, .ref ga_placeLow, .ref ga_placeHigh, g_reached, g_mayThrow, .int g_status, .int g_hasRun, .int g_threw, .int g_whereThrown, g_value, g_means, g_laneOf, g_sizeOf, g_cells, g_copied, .long g_state, .long g_joinedLow, .long g_joinedHigh, g_keptLow, g_keptHigh])), (ga_live, .inl (cZ, 2, .inl gc_live)), (ga_low, .inl (cJ, 12, .inr (.inl f_7))), (ga_high, .inl (cJ, 12, .inr (.inl f_8))), (ga_sites, .inl (cJ, 12, .inr (.inl f_9))), (ga_nulls, .inl (cZ, 12, .inl f_10)), (ga_there, .inl (cZ, 80, .inl gc_there)), (ga_lanes, .inl (cI, 80, .inl gc_lanes)), (ga_least, .inl (cJ, 80, .inr (.inl gc_least))), (ga_most, .inl (cJ, 80, .inr (.inl gc_most))), (ga_placeLow, .inl (cJ, 960, .inr (.inl gc_placeLow))), (ga_placeHigh, .inl (cJ, 960, .inr (.inl gc_placeHigh)))] H_34 := hP1
          replace hD : va_D A [(gh, .inr (5, [.int g_acts, g_kind, g_na, g_nb, g_nc, g_nd, g_ne, g_dropped, .ref ga_live, .ref ga_low, .ref ga_high, .ref ga_sites, .ref ga_nulls, .ref ga_there, .ref ga_lanes, .ref ga_least, .ref ga_most, .ref ga_placeLow, .ref ga_placeHigh, g_reached, g_mayThrow, .int g_status, .int g_hasRun, .int g_threw, .int g_whereThrown, g_value, g_means, g_laneOf, g_sizeOf, g_cells, g_copied, .long g_state, .long g_joinedLow, .long g_joinedHigh, g_keptLow, g_keptHigh])), (ga_live, .inl (cZ, 2, .inl gc_live)), (ga_low, .inl (cJ, 12, .inr (.inl f_7))), (ga_high, .inl (cJ, 12, .inr (.inl f_8))), (ga_sites, .inl (cJ, 12, .inr (.inl f_9))), (ga_nulls, .inl (cZ, 12, .inl f_10)), (ga_there, .inl (cZ, 80, .inl gc_there)), (ga_lanes, .inl (cI, 80, .inl gc_lanes)), (ga_least, .inl (cJ, 80, .inr (.inl gc_least))), (ga_most, .inl (cJ, 80, .inr (.inl gc_most))), (ga_placeLow, .inl (cJ, 960, .inr (.inl gc_placeLow))), (ga_placeHigh, .inl (cJ, 960, .inr (.inl gc_placeHigh)))] := hD1
          replace hS := hS1
          clear hP1 hD1 hS1
          replace hl : lv_has ls1 2 [(1, .int v_6), (0, .ref gh)] := hl1
          clear hl1
          refine sf_last lT hx hb hK hP hD hS 2 1 rfl rfl (fun _ => trivial) trivial (vp_in_iff.mpr ⟨by omega, by omega⟩) dX5_join_76 (fun f_36 h_f_36 e_f_36 H_37 locs_37 hP1 hD1 hS1 => ?_)
          replace hP : va_P (dC, dI) vwCl [(gh, .inr (5, [.int g_acts, g_kind, g_na, g_nb, g_nc, g_nd, g_ne, g_dropped, .ref ga_live, .ref ga_low, .ref ga_high, .ref ga_sites, .ref ga_nulls, .ref ga_there, .ref ga_lanes, .ref ga_least, .ref ga_most, .ref ga_placeLow, .ref ga_placeHigh, g_reached, g_mayThrow, .int g_status, .int g_hasRun, .int g_threw, .int g_whereThrown, g_value, g_means, g_laneOf, g_sizeOf, g_cells, g_copied, .long g_state, .long g_joinedLow, .long g_joinedHigh, g_keptLow, g_keptHigh])), (ga_live, .inl (cZ, 2, .inl gc_live)), (ga_low, .inl (cJ, 12, .inr (.inl f_36))), (ga_high, .inl (cJ, 12, .inr (.inl f_8))), (ga_sites, .inl (cJ, 12, .inr (.inl f_9))), (ga_nulls, .inl (cZ, 12, .inl f_10)), (ga_there, .inl (cZ, 80, .inl gc_there)), (ga_lanes, .inl (cI, 80, .inl gc_lanes)), (ga_least, .inl (cJ, 80, .inr (.inl gc_least))), (ga_most, .inl (cJ, 80, .inr (.inl gc_most))), (ga_placeLow, .inl (cJ, 960, .inr (.inl gc_placeLow))), (ga_placeHigh, .inl (cJ, 960, .inr (.inl gc_placeHigh)))] H_37 := hP1
          replace hD : va_D A [(gh, .inr (5, [.int g_acts, g_kind, g_na, g_nb, g_nc, g_nd, g_ne, g_dropped, .ref ga_live, .ref ga_low, .ref ga_high, .ref ga_sites, .ref ga_nulls, .ref ga_there, .ref ga_lanes, .ref ga_least, .ref ga_most, .ref ga_placeLow, .ref ga_placeHigh, g_reached, g_mayThrow, .int g_status, .int g_hasRun, .int g_threw, .int g_whereThrown, g_value, g_means, g_laneOf, g_sizeOf, g_cells, g_copied, .long g_state, .long g_joinedLow, .long g_joinedHigh, g_keptLow, g_keptHigh])), (ga_live, .inl (cZ, 2, .inl gc_live)), (ga_low, .inl (cJ, 12, .inr (.inl f_36))), (ga_high, .inl (cJ, 12, .inr (.inl f_8))), (ga_sites, .inl (cJ, 12, .inr (.inl f_9))), (ga_nulls, .inl (cZ, 12, .inl f_10)), (ga_there, .inl (cZ, 80, .inl gc_there)), (ga_lanes, .inl (cI, 80, .inl gc_lanes)), (ga_least, .inl (cJ, 80, .inr (.inl gc_least))), (ga_most, .inl (cJ, 80, .inr (.inl gc_most))), (ga_placeLow, .inl (cJ, 960, .inr (.inl gc_placeLow))), (ga_placeHigh, .inl (cJ, 960, .inr (.inl gc_placeHigh)))] := hD1
          replace hS := hS1
          clear hP1 hD1 hS1
          refine lv_aload_n hx hb dX5_join_77 rfl (lv_at hl 1 rfl) ?_
          refine va_get (D := (dC, dI)) (ci := 5) (v := .ref ga_high) (C := RX5) (T := TX5) (N := 36) hx hb hts inv_X5_join_X5 hown hK hP 0 rfl rfl 10 (by decide) (hts (.fieldLink RX5 39 "ArraySegmentsModel" "high" "[J") (List.mem_of_getElem? (i := 3) rfl)) (fun _ h9 => h9) rfl dX5_join_78 ?_
          refine lv_iload_n hx hb dX5_join_81 rfl (lv_at hl 0 rfl) ?_
          refine lv_aload_n hx hb dX5_join_82 rfl (lv_at hl 1 rfl) ?_
          refine va_get (D := (dC, dI)) (ci := 5) (v := .ref ga_high) (C := RX5) (T := TX5) (N := 36) hx hb hts inv_X5_join_X5 hown hK hP 0 rfl rfl 10 (by decide) (hts (.fieldLink RX5 39 "ArraySegmentsModel" "high" "[J") (List.mem_of_getElem? (i := 3) rfl)) (fun _ h9 => h9) rfl dX5_join_83 ?_
          refine lv_bipush (v := 6) hx hb dX5_join_86 (by decide) ?_
          refine lv_iload_n hx hb dX5_join_88 rfl (lv_at hl 0 rfl) ?_
          refine sf_iadd hx hb dX5_join_89 ⟨by omega, by omega⟩ (fun v_38 q_v_38 => ?_)
          refine sf_lald lT hx hb hK hP 3 1 rfl rfl (fun _ => trivial) (vp_in_iff.mpr ⟨by omega, by omega⟩) dX5_join_90 (fun v_39 q_v_39 e_v_39 => ?_)
          refine lv_aload_n hx hb dX5_join_91 rfl (lv_at hl 1 rfl) ?_
          refine va_get (D := (dC, dI)) (ci := 5) (v := .ref ga_high) (C := RX5) (T := TX5) (N := 36) hx hb hts inv_X5_join_X5 hown hK hP 0 rfl rfl 10 (by decide) (hts (.fieldLink RX5 39 "ArraySegmentsModel" "high" "[J") (List.mem_of_getElem? (i := 3) rfl)) (fun _ h9 => h9) rfl dX5_join_92 ?_
          refine lv_iload_n hx hb dX5_join_95 rfl (lv_at hl 0 rfl) ?_
          refine sf_lald lT hx hb hK hP 3 1 rfl rfl (fun _ => trivial) (vp_in_iff.mpr ⟨by omega, by omega⟩) dX5_join_96 (fun v_40 q_v_40 e_v_40 => ?_)
          refine W.lcmp hx hb dX5_join_97 ?_
          refine my_join (S := Int64) (fun u => True) (fun u => [(gh, .inr (5, [.int g_acts, g_kind, g_na, g_nb, g_nc, g_nd, g_ne, g_dropped, .ref ga_live, .ref ga_low, .ref ga_high, .ref ga_sites, .ref ga_nulls, .ref ga_there, .ref ga_lanes, .ref ga_least, .ref ga_most, .ref ga_placeLow, .ref ga_placeHigh, g_reached, g_mayThrow, .int g_status, .int g_hasRun, .int g_threw, .int g_whereThrown, g_value, g_means, g_laneOf, g_sizeOf, g_cells, g_copied, .long g_state, .long g_joinedLow, .long g_joinedHigh, g_keptLow, g_keptHigh])), (ga_live, .inl (cZ, 2, .inl gc_live)), (ga_low, .inl (cJ, 12, .inr (.inl f_36))), (ga_high, .inl (cJ, 12, .inr (.inl f_8))), (ga_sites, .inl (cJ, 12, .inr (.inl f_9))), (ga_nulls, .inl (cZ, 12, .inl f_10)), (ga_there, .inl (cZ, 80, .inl gc_there)), (ga_lanes, .inl (cI, 80, .inl gc_lanes)), (ga_least, .inl (cJ, 80, .inr (.inl gc_least))), (ga_most, .inl (cJ, 80, .inr (.inl gc_most))), (ga_placeLow, .inl (cJ, 960, .inr (.inl gc_placeLow))), (ga_placeHigh, .inl (cJ, 960, .inr (.inl gc_placeHigh)))]) (fun u => [(1, .int v_6), (0, .ref gh)]) (fun u => [.long (u), .int v_6, .ref ga_high]) (nL := 2) (H0 := s.heap) (A := A) (D := (dC, dI)) (cl := vwCl) 119 (fun u_42 hu_42 H_42 locs_42 ls1 hP1 hD1 hS1 hl1 => ?_) (fun jn_42 => ?_)
          · -- behind 119
            obtain ⟨v_43, rfl⟩ : ∃ z, z = u_42 := ⟨_, rfl⟩
            replace hP : va_P (dC, dI) vwCl [(gh, .inr (5, [.int g_acts, g_kind, g_na, g_nb, g_nc, g_nd, g_ne, g_dropped, .ref ga_live, .ref ga_low, .ref ga_high, .ref ga_sites, .ref ga_nulls, .ref ga_there, .ref ga_lanes, .ref ga_least, .ref ga_most, .ref ga_placeLow, .ref ga_placeHigh, g_reached, g_mayThrow, .int g_status, .int g_hasRun, .int g_threw, .int g_whereThrown, g_value, g_means, g_laneOf, g_sizeOf, g_cells, g_copied, .long g_state, .long g_joinedLow, .long g_joinedHigh, g_keptLow, g_keptHigh])), (ga_live, .inl (cZ, 2, .inl gc_live)), (ga_low, .inl (cJ, 12, .inr (.inl f_36))), (ga_high, .inl (cJ, 12, .inr (.inl f_8))), (ga_sites, .inl (cJ, 12, .inr (.inl f_9))), (ga_nulls, .inl (cZ, 12, .inl f_10)), (ga_there, .inl (cZ, 80, .inl gc_there)), (ga_lanes, .inl (cI, 80, .inl gc_lanes)), (ga_least, .inl (cJ, 80, .inr (.inl gc_least))), (ga_most, .inl (cJ, 80, .inr (.inl gc_most))), (ga_placeLow, .inl (cJ, 960, .inr (.inl gc_placeLow))), (ga_placeHigh, .inl (cJ, 960, .inr (.inl gc_placeHigh)))] H_42 := hP1
            replace hD : va_D A [(gh, .inr (5, [.int g_acts, g_kind, g_na, g_nb, g_nc, g_nd, g_ne, g_dropped, .ref ga_live, .ref ga_low, .ref ga_high, .ref ga_sites, .ref ga_nulls, .ref ga_there, .ref ga_lanes, .ref ga_least, .ref ga_most, .ref ga_placeLow, .ref ga_placeHigh, g_reached, g_mayThrow, .int g_status, .int g_hasRun, .int g_threw, .int g_whereThrown, g_value, g_means, g_laneOf, g_sizeOf, g_cells, g_copied, .long g_state, .long g_joinedLow, .long g_joinedHigh, g_keptLow, g_keptHigh])), (ga_live, .inl (cZ, 2, .inl gc_live)), (ga_low, .inl (cJ, 12, .inr (.inl f_36))), (ga_high, .inl (cJ, 12, .inr (.inl f_8))), (ga_sites, .inl (cJ, 12, .inr (.inl f_9))), (ga_nulls, .inl (cZ, 12, .inl f_10)), (ga_there, .inl (cZ, 80, .inl gc_there)), (ga_lanes, .inl (cI, 80, .inl gc_lanes)), (ga_least, .inl (cJ, 80, .inr (.inl gc_least))), (ga_most, .inl (cJ, 80, .inr (.inl gc_most))), (ga_placeLow, .inl (cJ, 960, .inr (.inl gc_placeLow))), (ga_placeHigh, .inl (cJ, 960, .inr (.inl gc_placeHigh)))] := hD1
            replace hS := hS1
            clear hP1 hD1 hS1
            replace hl : lv_has ls1 2 [(1, .int v_6), (0, .ref gh)] := hl1
            clear hl1
            refine sf_last lT hx hb hK hP hD hS 3 1 rfl rfl (fun _ => trivial) trivial (vp_in_iff.mpr ⟨by omega, by omega⟩) dX5_join_119 (fun f_44 h_f_44 e_f_44 H_45 locs_45 hP1 hD1 hS1 => ?_)
            replace hP : va_P (dC, dI) vwCl [(gh, .inr (5, [.int g_acts, g_kind, g_na, g_nb, g_nc, g_nd, g_ne, g_dropped, .ref ga_live, .ref ga_low, .ref ga_high, .ref ga_sites, .ref ga_nulls, .ref ga_there, .ref ga_lanes, .ref ga_least, .ref ga_most, .ref ga_placeLow, .ref ga_placeHigh, g_reached, g_mayThrow, .int g_status, .int g_hasRun, .int g_threw, .int g_whereThrown, g_value, g_means, g_laneOf, g_sizeOf, g_cells, g_copied, .long g_state, .long g_joinedLow, .long g_joinedHigh, g_keptLow, g_keptHigh])), (ga_live, .inl (cZ, 2, .inl gc_live)), (ga_low, .inl (cJ, 12, .inr (.inl f_36))), (ga_high, .inl (cJ, 12, .inr (.inl f_44))), (ga_sites, .inl (cJ, 12, .inr (.inl f_9))), (ga_nulls, .inl (cZ, 12, .inl f_10)), (ga_there, .inl (cZ, 80, .inl gc_there)), (ga_lanes, .inl (cI, 80, .inl gc_lanes)), (ga_least, .inl (cJ, 80, .inr (.inl gc_least))), (ga_most, .inl (cJ, 80, .inr (.inl gc_most))), (ga_placeLow, .inl (cJ, 960, .inr (.inl gc_placeLow))), (ga_placeHigh, .inl (cJ, 960, .inr (.inl gc_placeHigh)))] H_45 := hP1
            replace hD : va_D A [(gh, .inr (5, [.int g_acts, g_kind, g_na, g_nb, g_nc, g_nd, g_ne, g_dropped, .ref ga_live, .ref ga_low, .ref ga_high, .ref ga_sites, .ref ga_nulls, .ref ga_there, .ref ga_lanes, .ref ga_least, .ref ga_most, .ref ga_placeLow, .ref ga_placeHigh, g_reached, g_mayThrow, .int g_status, .int g_hasRun, .int g_threw, .int g_whereThrown, g_value, g_means, g_laneOf, g_sizeOf, g_cells, g_copied, .long g_state, .long g_joinedLow, .long g_joinedHigh, g_keptLow, g_keptHigh])), (ga_live, .inl (cZ, 2, .inl gc_live)), (ga_low, .inl (cJ, 12, .inr (.inl f_36))), (ga_high, .inl (cJ, 12, .inr (.inl f_44))), (ga_sites, .inl (cJ, 12, .inr (.inl f_9))), (ga_nulls, .inl (cZ, 12, .inl f_10)), (ga_there, .inl (cZ, 80, .inl gc_there)), (ga_lanes, .inl (cI, 80, .inl gc_lanes)), (ga_least, .inl (cJ, 80, .inr (.inl gc_least))), (ga_most, .inl (cJ, 80, .inr (.inl gc_most))), (ga_placeLow, .inl (cJ, 960, .inr (.inl gc_placeLow))), (ga_placeHigh, .inl (cJ, 960, .inr (.inl gc_placeHigh)))] := hD1
            replace hS := hS1
            clear hP1 hD1 hS1
            refine lv_aload_n hx hb dX5_join_120 rfl (lv_at hl 1 rfl) ?_
            refine va_get (D := (dC, dI)) (ci := 5) (v := .ref ga_sites) (C := RX5) (T := TX5) (N := 36) hx hb hts inv_X5_join_X5 hown hK hP 0 rfl rfl 11 (by decide) (hts (.fieldLink RX5 42 "ArraySegmentsModel" "sites" "[J") (List.mem_of_getElem? (i := 4) rfl)) (fun _ h9 => h9) rfl dX5_join_121 ?_
            refine lv_iload_n hx hb dX5_join_124 rfl (lv_at hl 0 rfl) ?_
            refine lv_dup2_11 hx hb dX5_join_125 rfl rfl ?_
            refine sf_lald lT hx hb hK hP 4 1 rfl rfl (fun _ => trivial) (vp_in_iff.mpr ⟨by omega, by omega⟩) dX5_join_126 (fun v_46 q_v_46 e_v_46 => ?_)
            refine lv_aload_n hx hb dX5_join_127 rfl (lv_at hl 1 rfl) ?_
            refine va_get (D := (dC, dI)) (ci := 5) (v := .ref ga_sites) (C := RX5) (T := TX5) (N := 36) hx hb hts inv_X5_join_X5 hown hK hP 0 rfl rfl 11 (by decide) (hts (.fieldLink RX5 42 "ArraySegmentsModel" "sites" "[J") (List.mem_of_getElem? (i := 4) rfl)) (fun _ h9 => h9) rfl dX5_join_128 ?_
            refine lv_bipush (v := 6) hx hb dX5_join_131 (by decide) ?_
            refine lv_iload_n hx hb dX5_join_133 rfl (lv_at hl 0 rfl) ?_
            refine sf_iadd hx hb dX5_join_134 ⟨by omega, by omega⟩ (fun v_47 q_v_47 => ?_)
            refine sf_lald lT hx hb hK hP 4 1 rfl rfl (fun _ => trivial) (vp_in_iff.mpr ⟨by omega, by omega⟩) dX5_join_135 (fun v_48 q_v_48 e_v_48 => ?_)
            refine lv_lor hx hb dX5_join_136 ?_
            refine lv_topl (fun v_49 e_v_49 => ?_)
            refine sf_last lT hx hb hK hP hD hS 4 1 rfl rfl (fun _ => trivial) trivial (vp_in_iff.mpr ⟨by omega, by omega⟩) dX5_join_137 (fun f_50 h_f_50 e_f_50 H_51 locs_51 hP1 hD1 hS1 => ?_)
            replace hP : va_P (dC, dI) vwCl [(gh, .inr (5, [.int g_acts, g_kind, g_na, g_nb, g_nc, g_nd, g_ne, g_dropped, .ref ga_live, .ref ga_low, .ref ga_high, .ref ga_sites, .ref ga_nulls, .ref ga_there, .ref ga_lanes, .ref ga_least, .ref ga_most, .ref ga_placeLow, .ref ga_placeHigh, g_reached, g_mayThrow, .int g_status, .int g_hasRun, .int g_threw, .int g_whereThrown, g_value, g_means, g_laneOf, g_sizeOf, g_cells, g_copied, .long g_state, .long g_joinedLow, .long g_joinedHigh, g_keptLow, g_keptHigh])), (ga_live, .inl (cZ, 2, .inl gc_live)), (ga_low, .inl (cJ, 12, .inr (.inl f_36))), (ga_high, .inl (cJ, 12, .inr (.inl f_44))), (ga_sites, .inl (cJ, 12, .inr (.inl f_50))), (ga_nulls, .inl (cZ, 12, .inl f_10)), (ga_there, .inl (cZ, 80, .inl gc_there)), (ga_lanes, .inl (cI, 80, .inl gc_lanes)), (ga_least, .inl (cJ, 80, .inr (.inl gc_least))), (ga_most, .inl (cJ, 80, .inr (.inl gc_most))), (ga_placeLow, .inl (cJ, 960, .inr (.inl gc_placeLow))), (ga_placeHigh, .inl (cJ, 960, .inr (.inl gc_placeHigh)))] H_51 := hP1
            replace hD : va_D A [(gh, .inr (5, [.int g_acts, g_kind, g_na, g_nb, g_nc, g_nd, g_ne, g_dropped, .ref ga_live, .ref ga_low, .ref ga_high, .ref ga_sites, .ref ga_nulls, .ref ga_there, .ref ga_lanes, .ref ga_least, .ref ga_most, .ref ga_placeLow, .ref ga_placeHigh, g_reached, g_mayThrow, .int g_status, .int g_hasRun, .int g_threw, .int g_whereThrown, g_value, g_means, g_laneOf, g_sizeOf, g_cells, g_copied, .long g_state, .long g_joinedLow, .long g_joinedHigh, g_keptLow, g_keptHigh])), (ga_live, .inl (cZ, 2, .inl gc_live)), (ga_low, .inl (cJ, 12, .inr (.inl f_36))), (ga_high, .inl (cJ, 12, .inr (.inl f_44))), (ga_sites, .inl (cJ, 12, .inr (.inl f_50))), (ga_nulls, .inl (cZ, 12, .inl f_10)), (ga_there, .inl (cZ, 80, .inl gc_there)), (ga_lanes, .inl (cI, 80, .inl gc_lanes)), (ga_least, .inl (cJ, 80, .inr (.inl gc_least))), (ga_most, .inl (cJ, 80, .inr (.inl gc_most))), (ga_placeLow, .inl (cJ, 960, .inr (.inl gc_placeLow))), (ga_placeHigh, .inl (cJ, 960, .inr (.inl gc_placeHigh)))] := hD1
            replace hS := hS1
            clear hP1 hD1 hS1
            refine lv_aload_n hx hb dX5_join_138 rfl (lv_at hl 1 rfl) ?_
            refine va_get (D := (dC, dI)) (ci := 5) (v := .ref ga_nulls) (C := RX5) (T := TX5) (N := 36) hx hb hts inv_X5_join_X5 hown hK hP 0 rfl rfl 12 (by decide) (hts (.fieldLink RX5 45 "ArraySegmentsModel" "nulls" "[Z") (List.mem_of_getElem? (i := 5) rfl)) (fun _ h9 => h9) rfl dX5_join_139 ?_
            refine lv_iload_n hx hb dX5_join_142 rfl (lv_at hl 0 rfl) ?_
            refine lv_dup2_11 hx hb dX5_join_143 rfl rfl ?_
            refine sf_zald kZ hx hb hK hP 5 2 rfl rfl h_f_10 (vp_in_iff.mpr ⟨by omega, by omega⟩) dX5_join_144 (fun v_52 q_v_52 e_v_52 => ?_)
            refine lv_aload_n hx hb dX5_join_145 rfl (lv_at hl 1 rfl) ?_
            refine va_get (D := (dC, dI)) (ci := 5) (v := .ref ga_nulls) (C := RX5) (T := TX5) (N := 36) hx hb hts inv_X5_join_X5 hown hK hP 0 rfl rfl 12 (by decide) (hts (.fieldLink RX5 45 "ArraySegmentsModel" "nulls" "[Z") (List.mem_of_getElem? (i := 5) rfl)) (fun _ h9 => h9) rfl dX5_join_146 ?_
            refine lv_bipush (v := 6) hx hb dX5_join_149 (by decide) ?_
            refine lv_iload_n hx hb dX5_join_151 rfl (lv_at hl 0 rfl) ?_
            refine sf_iadd hx hb dX5_join_152 ⟨by omega, by omega⟩ (fun v_53 q_v_53 => ?_)
            refine sf_zald kZ hx hb hK hP 5 2 rfl rfl h_f_10 (vp_in_iff.mpr ⟨by omega, by omega⟩) dX5_join_153 (fun v_54 q_v_54 e_v_54 => ?_)
            refine lv_ior hx hb dX5_join_154 ?_
            refine lv_topi (fun v_55 e_v_55 => ?_)
            refine sf_zast hx hb hK hP hD hS 5 2 rfl rfl h_f_10 (vp_in_iff.mpr ⟨by omega, by omega⟩) dX5_join_155 (fun f_56 h_f_56 e_f_56 H_57 locs_57 hP1 hD1 hS1 => ?_)
            replace hP : va_P (dC, dI) vwCl [(gh, .inr (5, [.int g_acts, g_kind, g_na, g_nb, g_nc, g_nd, g_ne, g_dropped, .ref ga_live, .ref ga_low, .ref ga_high, .ref ga_sites, .ref ga_nulls, .ref ga_there, .ref ga_lanes, .ref ga_least, .ref ga_most, .ref ga_placeLow, .ref ga_placeHigh, g_reached, g_mayThrow, .int g_status, .int g_hasRun, .int g_threw, .int g_whereThrown, g_value, g_means, g_laneOf, g_sizeOf, g_cells, g_copied, .long g_state, .long g_joinedLow, .long g_joinedHigh, g_keptLow, g_keptHigh])), (ga_live, .inl (cZ, 2, .inl gc_live)), (ga_low, .inl (cJ, 12, .inr (.inl f_36))), (ga_high, .inl (cJ, 12, .inr (.inl f_44))), (ga_sites, .inl (cJ, 12, .inr (.inl f_50))), (ga_nulls, .inl (cZ, 12, .inl f_56)), (ga_there, .inl (cZ, 80, .inl gc_there)), (ga_lanes, .inl (cI, 80, .inl gc_lanes)), (ga_least, .inl (cJ, 80, .inr (.inl gc_least))), (ga_most, .inl (cJ, 80, .inr (.inl gc_most))), (ga_placeLow, .inl (cJ, 960, .inr (.inl gc_placeLow))), (ga_placeHigh, .inl (cJ, 960, .inr (.inl gc_placeHigh)))] H_57 := hP1
            replace hD : va_D A [(gh, .inr (5, [.int g_acts, g_kind, g_na, g_nb, g_nc, g_nd, g_ne, g_dropped, .ref ga_live, .ref ga_low, .ref ga_high, .ref ga_sites, .ref ga_nulls, .ref ga_there, .ref ga_lanes, .ref ga_least, .ref ga_most, .ref ga_placeLow, .ref ga_placeHigh, g_reached, g_mayThrow, .int g_status, .int g_hasRun, .int g_threw, .int g_whereThrown, g_value, g_means, g_laneOf, g_sizeOf, g_cells, g_copied, .long g_state, .long g_joinedLow, .long g_joinedHigh, g_keptLow, g_keptHigh])), (ga_live, .inl (cZ, 2, .inl gc_live)), (ga_low, .inl (cJ, 12, .inr (.inl f_36))), (ga_high, .inl (cJ, 12, .inr (.inl f_44))), (ga_sites, .inl (cJ, 12, .inr (.inl f_50))), (ga_nulls, .inl (cZ, 12, .inl f_56)), (ga_there, .inl (cZ, 80, .inl gc_there)), (ga_lanes, .inl (cI, 80, .inl gc_lanes)), (ga_least, .inl (cJ, 80, .inr (.inl gc_least))), (ga_most, .inl (cJ, 80, .inr (.inl gc_most))), (ga_placeLow, .inl (cJ, 960, .inr (.inl gc_placeLow))), (ga_placeHigh, .inl (cJ, 960, .inr (.inl gc_placeHigh)))] := hD1
            replace hS := hS1
            clear hP1 hD1 hS1
            refine sf_iinc hx hb dX5_join_156 hl (k := 0) (x := v_6) (w := 1) rfl (by decide) (by decide) ⟨by omega, by omega⟩ (fun v_58 q_v_58 ls1 hl1 => ?_)
            replace hl : lv_has ls1 2 [(1, .int v_58), (0, .ref gh)] := hl1
            clear hl1
            refine lv_goto (tgt := 28) hx hb dX5_join_159 (by decide) ?_
            exact ih_5 (v_58, f_36, f_44, f_50, f_56) (show (0 ≤ v_58.toInt ∧ v_58.toInt ≤ 6) ∧ (∀ j : Nat, kZ (f_56 j)) from ⟨⟨by omega, by omega⟩, h_f_56⟩) (by show (6 - v_58.toInt).toNat < (6 - v_6.toInt).toNat; omega) _ _ _ (hP.sub [0, 1, 2, 3, 4, 5, 6, 7, 8, 9, 10, 11] rfl) (hD.sub [0, 1, 2, 3, 4, 5, 6, 7, 8, 9, 10, 11] (by decide) rfl) hS (lv_sub hl [0, 1] rfl)
          · -- ahead of 119
            refine lv_if_le (tgt := 113) hx hb dX5_join_98 (by decide) (fun c_59 => ?_) (fun c_59 => ?_)
            · -- yes
              have k_59 : v_39.toInt ≤ v_40.toInt := lc_le c_59
              refine lv_aload_n hx hb dX5_join_113 rfl (lv_at hl 1 rfl) ?_
              refine va_get (D := (dC, dI)) (ci := 5) (v := .ref ga_high) (C := RX5) (T := TX5) (N := 36) hx hb hts inv_X5_join_X5 hown hK hP 0 rfl rfl 10 (by decide) (hts (.fieldLink RX5 39 "ArraySegmentsModel" "high" "[J") (List.mem_of_getElem? (i := 3) rfl)) (fun _ h9 => h9) rfl dX5_join_114 ?_
              refine lv_iload_n hx hb dX5_join_117 rfl (lv_at hl 0 rfl) ?_
              refine sf_lald lT hx hb hK hP 3 1 rfl rfl (fun _ => trivial) (vp_in_iff.mpr ⟨by omega, by omega⟩) dX5_join_118 (fun v_60 q_v_60 e_v_60 => ?_)
              exact jn_42 v_60 (show True from trivial) _ _ _ (hP.sub [0, 1, 2, 3, 4, 5, 6, 7, 8, 9, 10, 11] rfl) (hD.sub [0, 1, 2, 3, 4, 5, 6, 7, 8, 9, 10, 11] (by decide) rfl) hS (lv_sub hl [0, 1] rfl)
            · -- no
              have k_59 : v_40.toInt < v_39.toInt := lc_nle c_59
              refine lv_aload_n hx hb dX5_join_101 rfl (lv_at hl 1 rfl) ?_
              refine va_get (D := (dC, dI)) (ci := 5) (v := .ref ga_high) (C := RX5) (T := TX5) (N := 36) hx hb hts inv_X5_join_X5 hown hK hP 0 rfl rfl 10 (by decide) (hts (.fieldLink RX5 39 "ArraySegmentsModel" "high" "[J") (List.mem_of_getElem? (i := 3) rfl)) (fun _ h9 => h9) rfl dX5_join_102 ?_
              refine lv_bipush (v := 6) hx hb dX5_join_105 (by decide) ?_
              refine lv_iload_n hx hb dX5_join_107 rfl (lv_at hl 0 rfl) ?_
              refine sf_iadd hx hb dX5_join_108 ⟨by omega, by omega⟩ (fun v_61 q_v_61 => ?_)
              refine sf_lald lT hx hb hK hP 3 1 rfl rfl (fun _ => trivial) (vp_in_iff.mpr ⟨by omega, by omega⟩) dX5_join_109 (fun v_62 q_v_62 e_v_62 => ?_)
              refine lv_goto (tgt := 119) hx hb dX5_join_110 (by decide) ?_
              exact jn_42 v_62 (show True from trivial) _ _ _ (hP.sub [0, 1, 2, 3, 4, 5, 6, 7, 8, 9, 10, 11] rfl) (hD.sub [0, 1, 2, 3, 4, 5, 6, 7, 8, 9, 10, 11] (by decide) rfl) hS (lv_sub hl [0, 1] rfl)
        · -- ahead of 76
          refine lv_if_ge (tgt := 70) hx hb dX5_join_55 (by decide) (fun c_63 => ?_) (fun c_63 => ?_)
          · -- yes
            have k_63 : v_32.toInt ≤ v_31.toInt := lc_ge c_63
            refine lv_aload_n hx hb dX5_join_70 rfl (lv_at hl 1 rfl) ?_
            refine va_get (D := (dC, dI)) (ci := 5) (v := .ref ga_low) (C := RX5) (T := TX5) (N := 36) hx hb hts inv_X5_join_X5 hown hK hP 0 rfl rfl 9 (by decide) (hts (.fieldLink RX5 35 "ArraySegmentsModel" "low" "[J") (List.mem_of_getElem? (i := 2) rfl)) (fun _ h9 => h9) rfl dX5_join_71 ?_
            refine lv_iload_n hx hb dX5_join_74 rfl (lv_at hl 0 rfl) ?_
            refine sf_lald lT hx hb hK hP 2 1 rfl rfl (fun _ => trivial) (vp_in_iff.mpr ⟨by omega, by omega⟩) dX5_join_75 (fun v_64 q_v_64 e_v_64 => ?_)
            exact jn_34 v_64 (show True from trivial) _ _ _ (hP.sub [0, 1, 2, 3, 4, 5, 6, 7, 8, 9, 10, 11] rfl) (hD.sub [0, 1, 2, 3, 4, 5, 6, 7, 8, 9, 10, 11] (by decide) rfl) hS (lv_sub hl [0, 1] rfl)
          · -- no
            have k_63 : v_31.toInt < v_32.toInt := lc_nge c_63
            refine lv_aload_n hx hb dX5_join_58 rfl (lv_at hl 1 rfl) ?_
            refine va_get (D := (dC, dI)) (ci := 5) (v := .ref ga_low) (C := RX5) (T := TX5) (N := 36) hx hb hts inv_X5_join_X5 hown hK hP 0 rfl rfl 9 (by decide) (hts (.fieldLink RX5 35 "ArraySegmentsModel" "low" "[J") (List.mem_of_getElem? (i := 2) rfl)) (fun _ h9 => h9) rfl dX5_join_59 ?_
            refine lv_bipush (v := 6) hx hb dX5_join_62 (by decide) ?_
            refine lv_iload_n hx hb dX5_join_64 rfl (lv_at hl 0 rfl) ?_
            refine sf_iadd hx hb dX5_join_65 ⟨by omega, by omega⟩ (fun v_65 q_v_65 => ?_)
            refine sf_lald lT hx hb hK hP 2 1 rfl rfl (fun _ => trivial) (vp_in_iff.mpr ⟨by omega, by omega⟩) dX5_join_66 (fun v_66 q_v_66 e_v_66 => ?_)
            refine lv_goto (tgt := 76) hx hb dX5_join_67 (by decide) ?_
            exact jn_34 v_66 (show True from trivial) _ _ _ (hP.sub [0, 1, 2, 3, 4, 5, 6, 7, 8, 9, 10, 11] rfl) (hD.sub [0, 1, 2, 3, 4, 5, 6, 7, 8, 9, 10, 11] (by decide) rfl) hS (lv_sub hl [0, 1] rfl)
    · -- no
      have k_4 : v_3.toInt = (0 : Int32).toInt := ci_eq c_4
      refine lv_aload_n hx hb dX5_join_19 rfl (lv_at hl 0 rfl) ?_
      refine lv_iconst (v := 1) hx hb dX5_join_20 (by decide) ?_
      refine lv_iconst (v := 0) hx hb dX5_join_21 (by decide) ?_
      have hPc := hP.sub (ws' := [(gh, .inr (5, [.int g_acts, g_kind, g_na, g_nb, g_nc, g_nd, g_ne, g_dropped, .ref ga_live, .ref ga_low, .ref ga_high, .ref ga_sites, .ref ga_nulls, .ref ga_there, .ref ga_lanes, .ref ga_least, .ref ga_most, .ref ga_placeLow, .ref ga_placeHigh, g_reached, g_mayThrow, .int g_status, .int g_hasRun, .int g_threw, .int g_whereThrown, g_value, g_means, g_laneOf, g_sizeOf, g_cells, g_copied, .long g_state, .long g_joinedLow, .long g_joinedHigh, g_keptLow, g_keptHigh])), (ga_live, .inl (cZ, 2, .inl gc_live)), (ga_low, .inl (cJ, 12, .inr (.inl gc_low))), (ga_high, .inl (cJ, 12, .inr (.inl gc_high))), (ga_sites, .inl (cJ, 12, .inr (.inl gc_sites))), (ga_nulls, .inl (cZ, 12, .inl gc_nulls)), (ga_there, .inl (cZ, 80, .inl gc_there)), (ga_lanes, .inl (cI, 80, .inl gc_lanes)), (ga_least, .inl (cJ, 80, .inr (.inl gc_least))), (ga_most, .inl (cJ, 80, .inr (.inl gc_most))), (ga_placeLow, .inl (cJ, 960, .inr (.inl gc_placeLow))), (ga_placeHigh, .inl (cJ, 960, .inr (.inl gc_placeHigh)))]) [0, 1, 2, 3, 4, 5, 6, 7, 8, 9, 10, 11] rfl
      have hDc := hD.sub (ws' := [(gh, .inr (5, [.int g_acts, g_kind, g_na, g_nb, g_nc, g_nd, g_ne, g_dropped, .ref ga_live, .ref ga_low, .ref ga_high, .ref ga_sites, .ref ga_nulls, .ref ga_there, .ref ga_lanes, .ref ga_least, .ref ga_most, .ref ga_placeLow, .ref ga_placeHigh, g_reached, g_mayThrow, .int g_status, .int g_hasRun, .int g_threw, .int g_whereThrown, g_value, g_means, g_laneOf, g_sizeOf, g_cells, g_copied, .long g_state, .long g_joinedLow, .long g_joinedHigh, g_keptLow, g_keptHigh])), (ga_live, .inl (cZ, 2, .inl gc_live)), (ga_low, .inl (cJ, 12, .inr (.inl gc_low))), (ga_high, .inl (cJ, 12, .inr (.inl gc_high))), (ga_sites, .inl (cJ, 12, .inr (.inl gc_sites))), (ga_nulls, .inl (cZ, 12, .inl gc_nulls)), (ga_there, .inl (cZ, 80, .inl gc_there)), (ga_lanes, .inl (cI, 80, .inl gc_lanes)), (ga_least, .inl (cJ, 80, .inr (.inl gc_least))), (ga_most, .inl (cJ, 80, .inr (.inl gc_most))), (ga_placeLow, .inl (cJ, 960, .inr (.inl gc_placeLow))), (ga_placeHigh, .inl (cJ, 960, .inr (.inl gc_placeHigh)))]) [0, 1, 2, 3, 4, 5, 6, 7, 8, 9, 10, 11] (by decide) rfl
      have hFc := va_free (wc := [(gh, .inr (5, [.int g_acts, g_kind, g_na, g_nb, g_nc, g_nd, g_ne, g_dropped, .ref ga_live, .ref ga_low, .ref ga_high, .ref ga_sites, .ref ga_nulls, .ref ga_there, .ref ga_lanes, .ref ga_least, .ref ga_most, .ref ga_placeLow, .ref ga_placeHigh, g_reached, g_mayThrow, .int g_status, .int g_hasRun, .int g_threw, .int g_whereThrown, g_value, g_means, g_laneOf, g_sizeOf, g_cells, g_copied, .long g_state, .long g_joinedLow, .long g_joinedHigh, g_keptLow, g_keptHigh])), (ga_live, .inl (cZ, 2, .inl gc_live)), (ga_low, .inl (cJ, 12, .inr (.inl gc_low))), (ga_high, .inl (cJ, 12, .inr (.inl gc_high))), (ga_sites, .inl (cJ, 12, .inr (.inl gc_sites))), (ga_nulls, .inl (cZ, 12, .inl gc_nulls)), (ga_there, .inl (cZ, 80, .inl gc_there)), (ga_lanes, .inl (cI, 80, .inl gc_lanes)), (ga_least, .inl (cJ, 80, .inr (.inl gc_least))), (ga_most, .inl (cJ, 80, .inr (.inl gc_most))), (ga_placeLow, .inl (cJ, 960, .inr (.inl gc_placeLow))), (ga_placeHigh, .inl (cJ, 960, .inr (.inl gc_placeHigh)))]) hD hS hA [0, 1, 2, 3, 4, 5, 6, 7, 8, 9, 10, 11] rfl
      refine va_callv (va_runV (As := [.int 1, .int 0]) (rest := []) ⟨hx, hb, hml, hown, hts⟩ (s_X5_copyBank l dC dI cI cJ cZ gh g_acts g_kind g_na g_nb g_nc g_nd g_ne g_dropped ga_live ga_low ga_high ga_sites ga_nulls ga_there ga_lanes ga_least ga_most ga_placeLow ga_placeHigh g_reached g_mayThrow g_status g_hasRun g_threw g_whereThrown g_value g_means g_laneOf g_sizeOf g_cells g_copied g_state g_joinedLow g_joinedHigh g_keptLow g_keptHigh gc_live gc_low gc_high gc_sites gc_nulls gc_there gc_lanes gc_least gc_most gc_placeLow gc_placeHigh 1 0 s.heap.size q_g_hasRun h_gc_live h_gc_nulls h_gc_there h_gc_most (by first | assumption | omega) (by first | assumption | omega)) (cwV 2 hts h_X5_join_X5_copyBank_154 rfl rfl rfl (by decide +kernel) ⟨Nat.le_of_ble_eq_true rfl, Nat.le_of_ble_eq_true rfl⟩) ⟨cPre_blind, va_recv hK hPc (ci := 5) (q0 := 0) rfl rfl, cPre_of hK hN hPc hDc⟩ rfl rfl hl.1 rfl (lv_room (Nat.le_of_ble_eq_true rfl)) dX5_join_22 ⟨Nat.le_of_ble_eq_true rfl, Nat.le_of_ble_eq_true rfl⟩) hS (fun q _ h => hFc q h) hFc (fun u_67 t_67 H_67 locs_67 ht hvm hw_67 hB hz1 hk1 hS1 => ?_)
      obtain ⟨f_68, f_69, f_70, f_71, f_72, f_73, f_74, f_75, f_76, f_77, f_78⟩ := u_67
      obtain ⟨hP1, hK1, hD1⟩ := hB
      rw [ht] at hP1
      obtain ⟨hP2, hD2⟩ := va_join (wr := []) (w1 := [(gh, .inr (5, [.int g_acts, g_kind, g_na, g_nb, g_nc, g_nd, g_ne, g_dropped, .ref ga_live, .ref ga_low, .ref ga_high, .ref ga_sites, .ref ga_nulls, .ref ga_there, .ref ga_lanes, .ref ga_least, .ref ga_most, .ref ga_placeLow, .ref ga_placeHigh, g_reached, g_mayThrow, .int g_status, .int g_hasRun, .int g_threw, .int g_whereThrown, g_value, g_means, g_laneOf, g_sizeOf, g_cells, g_copied, .long g_state, .long g_joinedLow, .long g_joinedHigh, g_keptLow, g_keptHigh])), (ga_live, .inl (cZ, 2, .inl f_68)), (ga_low, .inl (cJ, 12, .inr (.inl f_69))), (ga_high, .inl (cJ, 12, .inr (.inl f_70))), (ga_sites, .inl (cJ, 12, .inr (.inl f_71))), (ga_nulls, .inl (cZ, 12, .inl f_72)), (ga_there, .inl (cZ, 80, .inl f_73)), (ga_lanes, .inl (cI, 80, .inl f_74)), (ga_least, .inl (cJ, 80, .inr (.inl f_75))), (ga_most, .inl (cJ, 80, .inr (.inl f_76))), (ga_placeLow, .inl (cJ, 960, .inr (.inl f_77))), (ga_placeHigh, .inl (cJ, 960, .inr (.inl f_78)))]) hP hD [0, 1, 2, 3, 4, 5, 6, 7, 8, 9, 10, 11] [] rfl rfl (by decide) (by decide) hk1 hFc hP1 hD1
      clear hPc hDc hFc hP1 hD1 hK1 hk1 hz1 hvm ht
      replace hP : va_P (dC, dI) vwCl [(gh, .inr (5, [.int g_acts, g_kind, g_na, g_nb, g_nc, g_nd, g_ne, g_dropped, .ref ga_live, .ref ga_low, .ref ga_high, .ref ga_sites, .ref ga_nulls, .ref ga_there, .ref ga_lanes, .ref ga_least, .ref ga_most, .ref ga_placeLow, .ref ga_placeHigh, g_reached, g_mayThrow, .int g_status, .int g_hasRun, .int g_threw, .int g_whereThrown, g_value, g_means, g_laneOf, g_sizeOf, g_cells, g_copied, .long g_state, .long g_joinedLow, .long g_joinedHigh, g_keptLow, g_keptHigh])), (ga_live, .inl (cZ, 2, .inl f_68)), (ga_low, .inl (cJ, 12, .inr (.inl f_69))), (ga_high, .inl (cJ, 12, .inr (.inl f_70))), (ga_sites, .inl (cJ, 12, .inr (.inl f_71))), (ga_nulls, .inl (cZ, 12, .inl f_72)), (ga_there, .inl (cZ, 80, .inl f_73)), (ga_lanes, .inl (cI, 80, .inl f_74)), (ga_least, .inl (cJ, 80, .inr (.inl f_75))), (ga_most, .inl (cJ, 80, .inr (.inl f_76))), (ga_placeLow, .inl (cJ, 960, .inr (.inl f_77))), (ga_placeHigh, .inl (cJ, 960, .inr (.inl f_78)))] H_67 := hP2
      replace hD : va_D A [(gh, .inr (5, [.int g_acts, g_kind, g_na, g_nb, g_nc, g_nd, g_ne, g_dropped, .ref ga_live, .ref ga_low, .ref ga_high, .ref ga_sites, .ref ga_nulls, .ref ga_there, .ref ga_lanes, .ref ga_least, .ref ga_most, .ref ga_placeLow, .ref ga_placeHigh, g_reached, g_mayThrow, .int g_status, .int g_hasRun, .int g_threw, .int g_whereThrown, g_value, g_means, g_laneOf, g_sizeOf, g_cells, g_copied, .long g_state, .long g_joinedLow, .long g_joinedHigh, g_keptLow, g_keptHigh])), (ga_live, .inl (cZ, 2, .inl f_68)), (ga_low, .inl (cJ, 12, .inr (.inl f_69))), (ga_high, .inl (cJ, 12, .inr (.inl f_70))), (ga_sites, .inl (cJ, 12, .inr (.inl f_71))), (ga_nulls, .inl (cZ, 12, .inl f_72)), (ga_there, .inl (cZ, 80, .inl f_73)), (ga_lanes, .inl (cI, 80, .inl f_74)), (ga_least, .inl (cJ, 80, .inr (.inl f_75))), (ga_most, .inl (cJ, 80, .inr (.inl f_76))), (ga_placeLow, .inl (cJ, 960, .inr (.inl f_77))), (ga_placeHigh, .inl (cJ, 960, .inr (.inl f_78)))] := hD2
      replace hS := hS1
      clear hP2 hD2 hS1
      replace hw_67 : (∀ j : Nat, kZ (f_68 j)) ∧ (∀ j : Nat, kZ (f_72 j)) ∧ (∀ j : Nat, kZ (f_73 j)) ∧ (∀ j : Nat, l12 (f_76 j)) := hw_67
      obtain ⟨h_f_68, h_f_72, h_f_73, h_f_76⟩ := hw_67
      have hP9 := hP.sub (ws' := [(gh, .inr (5, [.int g_acts, g_kind, g_na, g_nb, g_nc, g_nd, g_ne, g_dropped, .ref ga_live, .ref ga_low, .ref ga_high, .ref ga_sites, .ref ga_nulls, .ref ga_there, .ref ga_lanes, .ref ga_least, .ref ga_most, .ref ga_placeLow, .ref ga_placeHigh, g_reached, g_mayThrow, .int g_status, .int g_hasRun, .int g_threw, .int g_whereThrown, g_value, g_means, g_laneOf, g_sizeOf, g_cells, g_copied, .long g_state, .long g_joinedLow, .long g_joinedHigh, g_keptLow, g_keptHigh])), (ga_live, .inl (cZ, 2, .inl f_68)), (ga_low, .inl (cJ, 12, .inr (.inl f_69))), (ga_high, .inl (cJ, 12, .inr (.inl f_70))), (ga_sites, .inl (cJ, 12, .inr (.inl f_71))), (ga_nulls, .inl (cZ, 12, .inl f_72)), (ga_there, .inl (cZ, 80, .inl f_73)), (ga_lanes, .inl (cI, 80, .inl f_74)), (ga_least, .inl (cJ, 80, .inr (.inl f_75))), (ga_most, .inl (cJ, 80, .inr (.inl f_76))), (ga_placeLow, .inl (cJ, 960, .inr (.inl f_77))), (ga_placeHigh, .inl (cJ, 960, .inr (.inl f_78)))]) [0, 1, 2, 3, 4, 5, 6, 7, 8, 9, 10, 11] rfl
      have hD9 := hD.sub (ws' := [(gh, .inr (5, [.int g_acts, g_kind, g_na, g_nb, g_nc, g_nd, g_ne, g_dropped, .ref ga_live, .ref ga_low, .ref ga_high, .ref ga_sites, .ref ga_nulls, .ref ga_there, .ref ga_lanes, .ref ga_least, .ref ga_most, .ref ga_placeLow, .ref ga_placeHigh, g_reached, g_mayThrow, .int g_status, .int g_hasRun, .int g_threw, .int g_whereThrown, g_value, g_means, g_laneOf, g_sizeOf, g_cells, g_copied, .long g_state, .long g_joinedLow, .long g_joinedHigh, g_keptLow, g_keptHigh])), (ga_live, .inl (cZ, 2, .inl f_68)), (ga_low, .inl (cJ, 12, .inr (.inl f_69))), (ga_high, .inl (cJ, 12, .inr (.inl f_70))), (ga_sites, .inl (cJ, 12, .inr (.inl f_71))), (ga_nulls, .inl (cZ, 12, .inl f_72)), (ga_there, .inl (cZ, 80, .inl f_73)), (ga_lanes, .inl (cI, 80, .inl f_74)), (ga_least, .inl (cJ, 80, .inr (.inl f_75))), (ga_most, .inl (cJ, 80, .inr (.inl f_76))), (ga_placeLow, .inl (cJ, 960, .inr (.inl f_77))), (ga_placeHigh, .inl (cJ, 960, .inr (.inl f_78)))]) [0, 1, 2, 3, 4, 5, 6, 7, 8, 9, 10, 11] (by decide) rfl
      exact W.vret hx hb hr (fun t ht hW => ⟨⟨(f_68, f_69, f_70, f_71, f_72, f_73, f_74, f_75, f_76, f_77, f_78), rfl, ⟨(show ∀ j : Nat, kZ (f_68 j) from h_f_68), (show ∀ j : Nat, kZ (f_72 j) from h_f_72), (show ∀ j : Nat, kZ (f_73 j) from h_f_73), (show ∀ j : Nat, l12 (f_76 j) from h_f_76)⟩, by rw [ht]; exact hP9, va_K.moved hW.alike hK, hD9⟩, hS.F ht⟩) hS.2.2 dX5_join_25
  · -- no
    have k_2 : v_1.toInt = (0 : Int32).toInt := ci_eq c_2
    have hP9 := hP.sub (ws' := [(gh, .inr (5, [.int g_acts, g_kind, g_na, g_nb, g_nc, g_nd, g_ne, g_dropped, .ref ga_live, .ref ga_low, .ref ga_high, .ref ga_sites, .ref ga_nulls, .ref ga_there, .ref ga_lanes, .ref ga_least, .ref ga_most, .ref ga_placeLow, .ref ga_placeHigh, g_reached, g_mayThrow, .int g_status, .int g_hasRun, .int g_threw, .int g_whereThrown, g_value, g_means, g_laneOf, g_sizeOf, g_cells, g_copied, .long g_state, .long g_joinedLow, .long g_joinedHigh, g_keptLow, g_keptHigh])), (ga_live, .inl (cZ, 2, .inl gc_live)), (ga_low, .inl (cJ, 12, .inr (.inl gc_low))), (ga_high, .inl (cJ, 12, .inr (.inl gc_high))), (ga_sites, .inl (cJ, 12, .inr (.inl gc_sites))), (ga_nulls, .inl (cZ, 12, .inl gc_nulls)), (ga_there, .inl (cZ, 80, .inl gc_there)), (ga_lanes, .inl (cI, 80, .inl gc_lanes)), (ga_least, .inl (cJ, 80, .inr (.inl gc_least))), (ga_most, .inl (cJ, 80, .inr (.inl gc_most))), (ga_placeLow, .inl (cJ, 960, .inr (.inl gc_placeLow))), (ga_placeHigh, .inl (cJ, 960, .inr (.inl gc_placeHigh)))]) [0, 1, 2, 3, 4, 5, 6, 7, 8, 9, 10, 11] rfl
    have hD9 := hD.sub (ws' := [(gh, .inr (5, [.int g_acts, g_kind, g_na, g_nb, g_nc, g_nd, g_ne, g_dropped, .ref ga_live, .ref ga_low, .ref ga_high, .ref ga_sites, .ref ga_nulls, .ref ga_there, .ref ga_lanes, .ref ga_least, .ref ga_most, .ref ga_placeLow, .ref ga_placeHigh, g_reached, g_mayThrow, .int g_status, .int g_hasRun, .int g_threw, .int g_whereThrown, g_value, g_means, g_laneOf, g_sizeOf, g_cells, g_copied, .long g_state, .long g_joinedLow, .long g_joinedHigh, g_keptLow, g_keptHigh])), (ga_live, .inl (cZ, 2, .inl gc_live)), (ga_low, .inl (cJ, 12, .inr (.inl gc_low))), (ga_high, .inl (cJ, 12, .inr (.inl gc_high))), (ga_sites, .inl (cJ, 12, .inr (.inl gc_sites))), (ga_nulls, .inl (cZ, 12, .inl gc_nulls)), (ga_there, .inl (cZ, 80, .inl gc_there)), (ga_lanes, .inl (cI, 80, .inl gc_lanes)), (ga_least, .inl (cJ, 80, .inr (.inl gc_least))), (ga_most, .inl (cJ, 80, .inr (.inl gc_most))), (ga_placeLow, .inl (cJ, 960, .inr (.inl gc_placeLow))), (ga_placeHigh, .inl (cJ, 960, .inr (.inl gc_placeHigh)))]) [0, 1, 2, 3, 4, 5, 6, 7, 8, 9, 10, 11] (by decide) rfl
    exact W.vret hx hb hr (fun t ht hW => ⟨⟨(gc_live, gc_low, gc_high, gc_sites, gc_nulls, gc_there, gc_lanes, gc_least, gc_most, gc_placeLow, gc_placeHigh), rfl, ⟨(show ∀ j : Nat, kZ (gc_live j) from h_gc_live), (show ∀ j : Nat, kZ (gc_nulls j) from h_gc_nulls), (show ∀ j : Nat, kZ (gc_there j) from h_gc_there), (show ∀ j : Nat, l12 (gc_most j) from h_gc_most)⟩, by rw [ht]; exact hP9, va_K.moved hW.alike hK, hD9⟩, hS.F ht⟩) hS.2.2 dX5_join_9

def v_X5_mark : List Cond := .code yX5_mark cX5_mark 4 none :: ([.fieldLink RX5 69 "ArraySegmentsModel" "mayThrow" "[I"] ++ (wsX50))
theorem inv_X5_mark_X5 : ∀ w ∈ wsX50, w ∈ v_X5_mark := fun _ h => List.mem_cons_of_mem _ (List.mem_append_right _ (h))
set_option maxRecDepth 20000 in
theorem gd_X5_mark : gdL v_X5_mark := gdC (gdW (by decide +kernel)) (gdA (gdW (by decide +kernel)) gd_wsX50)
abbrev sw_X5_mark (cI cJ cZ : ClassId) (gh : Nat) (g_acts : Int32) (g_kind : Value) (g_na : Value) (g_nb : Value) (g_nc : Value) (g_nd : Value) (g_ne : Value) (g_dropped : Value) (g_live : Value) (g_low : Value) (g_high : Value) (g_sites : Value) (g_nulls : Value) (g_there : Value) (g_lanes : Value) (g_least : Value) (g_most : Value) (g_placeLow : Value) (g_placeHigh : Value) (g_reached : Value) (ga_mayThrow : Nat) (g_status : Int32) (g_hasRun : Int32) (g_threw : Int32) (g_whereThrown : Int32) (g_value : Value) (g_means : Value) (g_laneOf : Value) (g_sizeOf : Value) (g_cells : Value) (g_copied : Value) (g_state : Int64) (g_joinedLow : Int64) (g_joinedHigh : Int64) (g_keptLow : Value) (g_keptHigh : Value) (gc_mayThrow : Nat → Int32) (ia : Int32) (ta : Int32) (ba : Int32) : va_W := [(gh, .inr (5, [.int g_acts, g_kind, g_na, g_nb, g_nc, g_nd, g_ne, g_dropped, g_live, g_low, g_high, g_sites, g_nulls, g_there, g_lanes, g_least, g_most, g_placeLow, g_placeHigh, g_reached, .ref ga_mayThrow, .int g_status, .int g_hasRun, .int g_threw, .int g_whereThrown, g_value, g_means, g_laneOf, g_sizeOf, g_cells, g_copied, .long g_state, .long g_joinedLow, .long g_joinedHigh, g_keptLow, g_keptHigh])), (ga_mayThrow, .inl (cI, 40, .inl gc_mayThrow))]
set_option maxHeartbeats 8000000 in
set_option maxRecDepth 100000 in
theorem s_X5_mark (l : Launch) (dC : Nat → ClassId) (dI : Nat → Nat → Nat) (cI cJ cZ : ClassId) (gh : Nat) (g_acts : Int32) (g_kind : Value) (g_na : Value) (g_nb : Value) (g_nc : Value) (g_nd : Value) (g_ne : Value) (g_dropped : Value) (g_live : Value) (g_low : Value) (g_high : Value) (g_sites : Value) (g_nulls : Value) (g_there : Value) (g_lanes : Value) (g_least : Value) (g_most : Value) (g_placeLow : Value) (g_placeHigh : Value) (g_reached : Value) (ga_mayThrow : Nat) (g_status : Int32) (g_hasRun : Int32) (g_threw : Int32) (g_whereThrown : Int32) (g_value : Value) (g_means : Value) (g_laneOf : Value) (g_sizeOf : Value) (g_cells : Value) (g_copied : Value) (g_state : Int64) (g_joinedLow : Int64) (g_joinedHigh : Int64) (g_keptLow : Value) (g_keptHigh : Value) (gc_mayThrow : Nat → Int32) (ia : Int32) (ta : Int32) (ba : Int32) (sz : Nat) (q_g_hasRun : kZ g_hasRun) (hy_ia : 0 ≤ ia.toInt ∧ ia.toInt ≤ 39) : Met l yX5_mark v_X5_mark ({ frames := 0, cells := 0, slots := 0, locals := 0 }) (va_Pc [.ref gh, .int ia, .int ta, .int ba] (cPre dC dI cI cJ cZ sz (sw_X5_mark cI cJ cZ gh g_acts g_kind g_na g_nb g_nc g_nd g_ne g_dropped g_live g_low g_high g_sites g_nulls g_there g_lanes g_least g_most g_placeLow g_placeHigh g_reached ga_mayThrow g_status g_hasRun g_threw g_whereThrown g_value g_means g_laneOf g_sizeOf g_cells g_copied g_state g_joinedLow g_joinedHigh g_keptLow g_keptHigh gc_mayThrow ia ta ba))) (va_Qv (fun (u : (Nat → Int32)) => True) (fun (u : (Nat → Int32)) => cPost dC dI cI cJ cZ (va_A (sw_X5_mark cI cJ cZ gh g_acts g_kind g_na g_nb g_nc g_nd g_ne g_dropped g_live g_low g_high g_sites g_nulls g_there g_lanes g_least g_most g_placeLow g_placeHigh g_reached ga_mayThrow g_status g_hasRun g_threw g_whereThrown g_value g_means g_laneOf g_sizeOf g_cells g_copied g_state g_joinedLow g_joinedHigh g_keptLow g_keptHigh gc_mayThrow ia ta ba) sz) [(gh, .inr (5, [.int g_acts, g_kind, g_na, g_nb, g_nc, g_nd, g_ne, g_dropped, g_live, g_low, g_high, g_sites, g_nulls, g_there, g_lanes, g_least, g_most, g_placeLow, g_placeHigh, g_reached, .ref ga_mayThrow, .int g_status, .int g_hasRun, .int g_threw, .int g_whereThrown, g_value, g_means, g_laneOf, g_sizeOf, g_cells, g_copied, .long g_state, .long g_joinedLow, .long g_joinedHigh, g_keptLow, g_keptHigh])), (ga_mayThrow, .inl (cI, 40, .inl (u)))]) (va_A (sw_X5_mark cI cJ cZ gh g_acts g_kind g_na g_nb g_nc g_nd g_ne g_dropped g_live g_low g_high g_sites g_nulls g_there g_lanes g_least g_most g_placeLow g_placeHigh g_reached ga_mayThrow g_status g_hasRun g_threw g_whereThrown g_value g_means g_laneOf g_sizeOf g_cells g_copied g_state g_joinedLow g_joinedHigh g_keptLow g_keptHigh gc_mayThrow ia ta ba) sz)) 0 0 (va_A (sw_X5_mark cI cJ cZ gh g_acts g_kind g_na g_nb g_nc g_nd g_ne g_dropped g_live g_low g_high g_sites g_nulls g_there g_lanes g_least g_most g_placeLow g_placeHigh g_reached ga_mayThrow g_status g_hasRun g_threw g_whereThrown g_value g_means g_laneOf g_sizeOf g_cells g_copied g_state g_joinedLow g_joinedHigh g_keptLow g_keptHigh gc_mayThrow ia ta ba) sz) := by
  refine Met.ofW (cc := cX5_mark) (maxL := 4) (ret := none) (by decide) rfl ?_
  intro p e s m args below meth c s₁ B hml hv
  obtain ⟨rfl, hsz, hP, hK, hD0, hN⟩ := hv
  have hx := B.exec
  have hb := B.bytes
  have hr := B.returns
  have hts := atoms_spec (ws := v_X5_mark) B.pre
  have hown : s.vm.findClass RX5 = some m.cls := findClass_of_methodNamed B.named
  have hlocks := B.notSynchronized
  subst hsz
  have hD := hD0.self (sz := s.heap.size)
  generalize hAe : va_A (sw_X5_mark cI cJ cZ gh g_acts g_kind g_na g_nb g_nc g_nd g_ne g_dropped g_live g_low g_high g_sites g_nulls g_there g_lanes g_least g_most g_placeLow g_placeHigh g_reached ga_mayThrow g_status g_hasRun g_threw g_whereThrown g_value g_means g_laneOf g_sizeOf g_cells g_copied g_state g_joinedLow g_joinedHigh g_keptLow g_keptHigh gc_mayThrow ia ta ba) s.heap.size = A at hD ⊢
  have hA : ∀ q : Nat, s.heap.size ≤ q → A q := fun q h => by rw [← hAe]; exact Or.inr h
  clear hAe hD0
  have hS : va_S A s.heap s.heap [] := va_S.rf
  replace hP : va_P (dC, dI) vwCl [(gh, .inr (5, [.int g_acts, g_kind, g_na, g_nb, g_nc, g_nd, g_ne, g_dropped, g_live, g_low, g_high, g_sites, g_nulls, g_there, g_lanes, g_least, g_most, g_placeLow, g_placeHigh, g_reached, .ref ga_mayThrow, .int g_status, .int g_hasRun, .int g_threw, .int g_whereThrown, g_value, g_means, g_laneOf, g_sizeOf, g_cells, g_copied, .long g_state, .long g_joinedLow, .long g_joinedHigh, g_keptLow, g_keptHigh])), (ga_mayThrow, .inl (cI, 40, .inl gc_mayThrow))] s.heap := hP
  replace hD : va_D A [(gh, .inr (5, [.int g_acts, g_kind, g_na, g_nb, g_nc, g_nd, g_ne, g_dropped, g_live, g_low, g_high, g_sites, g_nulls, g_there, g_lanes, g_least, g_most, g_placeLow, g_placeHigh, g_reached, .ref ga_mayThrow, .int g_status, .int g_hasRun, .int g_threw, .int g_whereThrown, g_value, g_means, g_laneOf, g_sizeOf, g_cells, g_copied, .long g_state, .long g_joinedLow, .long g_joinedHigh, g_keptLow, g_keptHigh])), (ga_mayThrow, .inl (cI, 40, .inl gc_mayThrow))] := hD
  have hl := lv_entry ([.ref gh, .int ia, .int ta, .int ba]) (n := 4) (Nat.le_of_ble_eq_true rfl)
  rw [lg_entry_eq]
  generalize (lg_sl ([.ref gh, .int ia, .int ta, .int ba]) ++ List.replicate (4 - (lg_sl ([.ref gh, .int ia, .int ta, .int ba])).length) Slot.unset).toArray = ls at hl ⊢
  replace hl : lv_has ls 4 [(0, .ref gh), (1, .int ia), (2, .int ta), (3, .int ba)] := hl
  have z_0 : (0 : Int32).toInt = 0 := by decide
  have z_1 : (1 : Int32).toInt = 1 := by decide
  refine lv_aload_n hx hb dX5_mark_0 rfl (lv_at hl 0 rfl) ?_
  refine va_get (D := (dC, dI)) (ci := 5) (v := .ref ga_mayThrow) (C := RX5) (T := TX5) (N := 36) hx hb hts inv_X5_mark_X5 hown hK hP 0 rfl rfl 20 (by decide) (hts (.fieldLink RX5 69 "ArraySegmentsModel" "mayThrow" "[I") (List.mem_of_getElem? (i := 1) rfl)) (fun _ h9 => h9) rfl dX5_mark_1 ?_
  refine lv_iload_n hx hb dX5_mark_4 rfl (lv_at hl 1 rfl) ?_
  refine lv_dup2_11 hx hb dX5_mark_5 rfl rfl ?_
  refine sf_iald kT hx hb hK hP 1 0 rfl rfl (fun _ => trivial) (vp_in_iff.mpr ⟨by omega, by omega⟩) dX5_mark_6 (fun v_1 q_v_1 e_v_1 => ?_)
  refine lv_iload_n hx hb dX5_mark_7 rfl (lv_at hl 3 rfl) ?_
  refine my_join (S := Int32) (fun u => True) (fun u => [(gh, .inr (5, [.int g_acts, g_kind, g_na, g_nb, g_nc, g_nd, g_ne, g_dropped, g_live, g_low, g_high, g_sites, g_nulls, g_there, g_lanes, g_least, g_most, g_placeLow, g_placeHigh, g_reached, .ref ga_mayThrow, .int g_status, .int g_hasRun, .int g_threw, .int g_whereThrown, g_value, g_means, g_laneOf, g_sizeOf, g_cells, g_copied, .long g_state, .long g_joinedLow, .long g_joinedHigh, g_keptLow, g_keptHigh])), (ga_mayThrow, .inl (cI, 40, .inl gc_mayThrow))]) (fun u => [(0, .ref gh), (1, .int ia), (2, .int ta), (3, .int ba)]) (fun u => [.int (u), .int v_1, .int ia, .ref ga_mayThrow]) (nL := 4) (H0 := s.heap) (A := A) (D := (dC, dI)) (cl := vwCl) 18 (fun u_3 hu_3 H_3 locs_3 ls1 hP1 hD1 hS1 hl1 => ?_) (fun jn_3 => ?_)
  · -- behind 18
    obtain ⟨v_4, rfl⟩ : ∃ z, z = u_3 := ⟨_, rfl⟩
    replace hP : va_P (dC, dI) vwCl [(gh, .inr (5, [.int g_acts, g_kind, g_na, g_nb, g_nc, g_nd, g_ne, g_dropped, g_live, g_low, g_high, g_sites, g_nulls, g_there, g_lanes, g_least, g_most, g_placeLow, g_placeHigh, g_reached, .ref ga_mayThrow, .int g_status, .int g_hasRun, .int g_threw, .int g_whereThrown, g_value, g_means, g_laneOf, g_sizeOf, g_cells, g_copied, .long g_state, .long g_joinedLow, .long g_joinedHigh, g_keptLow, g_keptHigh])), (ga_mayThrow, .inl (cI, 40, .inl gc_mayThrow))] H_3 := hP1
    replace hD : va_D A [(gh, .inr (5, [.int g_acts, g_kind, g_na, g_nb, g_nc, g_nd, g_ne, g_dropped, g_live, g_low, g_high, g_sites, g_nulls, g_there, g_lanes, g_least, g_most, g_placeLow, g_placeHigh, g_reached, .ref ga_mayThrow, .int g_status, .int g_hasRun, .int g_threw, .int g_whereThrown, g_value, g_means, g_laneOf, g_sizeOf, g_cells, g_copied, .long g_state, .long g_joinedLow, .long g_joinedHigh, g_keptLow, g_keptHigh])), (ga_mayThrow, .inl (cI, 40, .inl gc_mayThrow))] := hD1
    replace hS := hS1
    clear hP1 hD1 hS1
    replace hl : lv_has ls1 4 [(0, .ref gh), (1, .int ia), (2, .int ta), (3, .int ba)] := hl1
    clear hl1
    refine lv_ior hx hb dX5_mark_18 ?_
    refine lv_topi (fun v_5 e_v_5 => ?_)
    refine sf_iast kT hx hb hK hP hD hS 1 0 rfl rfl (fun _ => trivial) trivial (vp_in_iff.mpr ⟨by omega, by omega⟩) dX5_mark_19 (fun f_6 h_f_6 e_f_6 H_7 locs_7 hP1 hD1 hS1 => ?_)
    replace hP : va_P (dC, dI) vwCl [(gh, .inr (5, [.int g_acts, g_kind, g_na, g_nb, g_nc, g_nd, g_ne, g_dropped, g_live, g_low, g_high, g_sites, g_nulls, g_there, g_lanes, g_least, g_most, g_placeLow, g_placeHigh, g_reached, .ref ga_mayThrow, .int g_status, .int g_hasRun, .int g_threw, .int g_whereThrown, g_value, g_means, g_laneOf, g_sizeOf, g_cells, g_copied, .long g_state, .long g_joinedLow, .long g_joinedHigh, g_keptLow, g_keptHigh])), (ga_mayThrow, .inl (cI, 40, .inl f_6))] H_7 := hP1
    replace hD : va_D A [(gh, .inr (5, [.int g_acts, g_kind, g_na, g_nb, g_nc, g_nd, g_ne, g_dropped, g_live, g_low, g_high, g_sites, g_nulls, g_there, g_lanes, g_least, g_most, g_placeLow, g_placeHigh, g_reached, .ref ga_mayThrow, .int g_status, .int g_hasRun, .int g_threw, .int g_whereThrown, g_value, g_means, g_laneOf, g_sizeOf, g_cells, g_copied, .long g_state, .long g_joinedLow, .long g_joinedHigh, g_keptLow, g_keptHigh])), (ga_mayThrow, .inl (cI, 40, .inl f_6))] := hD1
    replace hS := hS1
    clear hP1 hD1 hS1
    have hP9 := hP.sub (ws' := [(gh, .inr (5, [.int g_acts, g_kind, g_na, g_nb, g_nc, g_nd, g_ne, g_dropped, g_live, g_low, g_high, g_sites, g_nulls, g_there, g_lanes, g_least, g_most, g_placeLow, g_placeHigh, g_reached, .ref ga_mayThrow, .int g_status, .int g_hasRun, .int g_threw, .int g_whereThrown, g_value, g_means, g_laneOf, g_sizeOf, g_cells, g_copied, .long g_state, .long g_joinedLow, .long g_joinedHigh, g_keptLow, g_keptHigh])), (ga_mayThrow, .inl (cI, 40, .inl f_6))]) [0, 1] rfl
    have hD9 := hD.sub (ws' := [(gh, .inr (5, [.int g_acts, g_kind, g_na, g_nb, g_nc, g_nd, g_ne, g_dropped, g_live, g_low, g_high, g_sites, g_nulls, g_there, g_lanes, g_least, g_most, g_placeLow, g_placeHigh, g_reached, .ref ga_mayThrow, .int g_status, .int g_hasRun, .int g_threw, .int g_whereThrown, g_value, g_means, g_laneOf, g_sizeOf, g_cells, g_copied, .long g_state, .long g_joinedLow, .long g_joinedHigh, g_keptLow, g_keptHigh])), (ga_mayThrow, .inl (cI, 40, .inl f_6))]) [0, 1] (by decide) rfl
    exact W.vret hx hb hr (fun t ht hW => ⟨⟨f_6, rfl, trivial, by rw [ht]; exact hP9, va_K.moved hW.alike hK, hD9⟩, hS.F ht⟩) hS.2.2 dX5_mark_20
  · -- ahead of 18
    refine lv_if_eq (tgt := 17) hx hb dX5_mark_8 (by decide) (fun c_8 => ?_) (fun c_8 => ?_)
    · -- yes
      have k_8 : ba.toInt = (0 : Int32).toInt := ci_eq c_8
      refine lv_iconst (v := 0) hx hb dX5_mark_17 (by decide) ?_
      exact jn_3 (0 : Int32) (show True from trivial) _ _ _ (hP.sub [0, 1] rfl) (hD.sub [0, 1] (by decide) rfl) hS (lv_sub hl [0, 1, 2, 3] rfl)
    · -- no
      have k_8 : ¬ ba.toInt = (0 : Int32).toInt := ci_ne c_8
      refine lv_iconst (v := 1) hx hb dX5_mark_11 (by decide) ?_
      refine lv_iload_n hx hb dX5_mark_12 rfl (lv_at hl 2 rfl) ?_
      refine lv_ishl hx hb dX5_mark_13 ?_
      refine lv_topi (fun v_9 e_v_9 => ?_)
      refine lv_goto (tgt := 18) hx hb dX5_mark_14 (by decide) ?_
      exact jn_3 v_9 (show True from trivial) _ _ _ (hP.sub [0, 1] rfl) (hD.sub [0, 1] (by decide) rfl) hS (lv_sub hl [0, 1, 2, 3] rfl)

def v_X5_mean : List Cond := .code yX5_mean cX5_mean 3 none :: ([.fieldLink RX5 42 "ArraySegmentsModel" "sites" "[J", .fieldLink RX5 45 "ArraySegmentsModel" "nulls" "[Z"] ++ (wsX50))
theorem inv_X5_mean_X5 : ∀ w ∈ wsX50, w ∈ v_X5_mean := fun _ h => List.mem_cons_of_mem _ (List.mem_append_right _ (h))
set_option maxRecDepth 20000 in
theorem gd_X5_mean : gdL v_X5_mean := gdC (gdW (by decide +kernel)) (gdA (gdW (by decide +kernel)) gd_wsX50)
abbrev sw_X5_mean (cI cJ cZ : ClassId) (gh : Nat) (g_acts : Int32) (g_kind : Value) (g_na : Value) (g_nb : Value) (g_nc : Value) (g_nd : Value) (g_ne : Value) (g_dropped : Value) (g_live : Value) (g_low : Value) (g_high : Value) (ga_sites : Nat) (ga_nulls : Nat) (g_there : Value) (g_lanes : Value) (g_least : Value) (g_most : Value) (g_placeLow : Value) (g_placeHigh : Value) (g_reached : Value) (g_mayThrow : Value) (g_status : Int32) (g_hasRun : Int32) (g_threw : Int32) (g_whereThrown : Int32) (g_value : Value) (g_means : Value) (g_laneOf : Value) (g_sizeOf : Value) (g_cells : Value) (g_copied : Value) (g_state : Int64) (g_joinedLow : Int64) (g_joinedHigh : Int64) (g_keptLow : Value) (g_keptHigh : Value) (gc_sites : Nat → Int64) (gc_nulls : Nat → Int32) (ra : Int32) (ia : Int32) : va_W := [(gh, .inr (5, [.int g_acts, g_kind, g_na, g_nb, g_nc, g_nd, g_ne, g_dropped, g_live, g_low, g_high, .ref ga_sites, .ref ga_nulls, g_there, g_lanes, g_least, g_most, g_placeLow, g_placeHigh, g_reached, g_mayThrow, .int g_status, .int g_hasRun, .int g_threw, .int g_whereThrown, g_value, g_means, g_laneOf, g_sizeOf, g_cells, g_copied, .long g_state, .long g_joinedLow, .long g_joinedHigh, g_keptLow, g_keptHigh])), (ga_sites, .inl (cJ, 12, .inr (.inl gc_sites))), (ga_nulls, .inl (cZ, 12, .inl gc_nulls))]
set_option maxHeartbeats 8000000 in
set_option maxRecDepth 100000 in
theorem s_X5_mean (l : Launch) (dC : Nat → ClassId) (dI : Nat → Nat → Nat) (cI cJ cZ : ClassId) (gh : Nat) (g_acts : Int32) (g_kind : Value) (g_na : Value) (g_nb : Value) (g_nc : Value) (g_nd : Value) (g_ne : Value) (g_dropped : Value) (g_live : Value) (g_low : Value) (g_high : Value) (ga_sites : Nat) (ga_nulls : Nat) (g_there : Value) (g_lanes : Value) (g_least : Value) (g_most : Value) (g_placeLow : Value) (g_placeHigh : Value) (g_reached : Value) (g_mayThrow : Value) (g_status : Int32) (g_hasRun : Int32) (g_threw : Int32) (g_whereThrown : Int32) (g_value : Value) (g_means : Value) (g_laneOf : Value) (g_sizeOf : Value) (g_cells : Value) (g_copied : Value) (g_state : Int64) (g_joinedLow : Int64) (g_joinedHigh : Int64) (g_keptLow : Value) (g_keptHigh : Value) (gc_sites : Nat → Int64) (gc_nulls : Nat → Int32) (ra : Int32) (ia : Int32) (sz : Nat) (q_g_hasRun : kZ g_hasRun) (h_gc_nulls : ∀ j : Nat, kZ (gc_nulls j)) (hy_ra : V6 ra) : Met l yX5_mean v_X5_mean ({ frames := 0, cells := 0, slots := 0, locals := 0 }) (va_Pc [.ref gh, .int ra, .int ia] (cPre dC dI cI cJ cZ sz (sw_X5_mean cI cJ cZ gh g_acts g_kind g_na g_nb g_nc g_nd g_ne g_dropped g_live g_low g_high ga_sites ga_nulls g_there g_lanes g_least g_most g_placeLow g_placeHigh g_reached g_mayThrow g_status g_hasRun g_threw g_whereThrown g_value g_means g_laneOf g_sizeOf g_cells g_copied g_state g_joinedLow g_joinedHigh g_keptLow g_keptHigh gc_sites gc_nulls ra ia))) (va_Qv (fun (u : (Nat → Int64) × (Nat → Int32)) => (∀ j : Nat, kZ ((u.2) j))) (fun (u : (Nat → Int64) × (Nat → Int32)) => cPost dC dI cI cJ cZ (va_A (sw_X5_mean cI cJ cZ gh g_acts g_kind g_na g_nb g_nc g_nd g_ne g_dropped g_live g_low g_high ga_sites ga_nulls g_there g_lanes g_least g_most g_placeLow g_placeHigh g_reached g_mayThrow g_status g_hasRun g_threw g_whereThrown g_value g_means g_laneOf g_sizeOf g_cells g_copied g_state g_joinedLow g_joinedHigh g_keptLow g_keptHigh gc_sites gc_nulls ra ia) sz) [(gh, .inr (5, [.int g_acts, g_kind, g_na, g_nb, g_nc, g_nd, g_ne, g_dropped, g_live, g_low, g_high, .ref ga_sites, .ref ga_nulls, g_there, g_lanes, g_least, g_most, g_placeLow, g_placeHigh, g_reached, g_mayThrow, .int g_status, .int g_hasRun, .int g_threw, .int g_whereThrown, g_value, g_means, g_laneOf, g_sizeOf, g_cells, g_copied, .long g_state, .long g_joinedLow, .long g_joinedHigh, g_keptLow, g_keptHigh])), (ga_sites, .inl (cJ, 12, .inr (.inl (u.1)))), (ga_nulls, .inl (cZ, 12, .inl (u.2)))]) (va_A (sw_X5_mean cI cJ cZ gh g_acts g_kind g_na g_nb g_nc g_nd g_ne g_dropped g_live g_low g_high ga_sites ga_nulls g_there g_lanes g_least g_most g_placeLow g_placeHigh g_reached g_mayThrow g_status g_hasRun g_threw g_whereThrown g_value g_means g_laneOf g_sizeOf g_cells g_copied g_state g_joinedLow g_joinedHigh g_keptLow g_keptHigh gc_sites gc_nulls ra ia) sz)) 0 0 (va_A (sw_X5_mean cI cJ cZ gh g_acts g_kind g_na g_nb g_nc g_nd g_ne g_dropped g_live g_low g_high ga_sites ga_nulls g_there g_lanes g_least g_most g_placeLow g_placeHigh g_reached g_mayThrow g_status g_hasRun g_threw g_whereThrown g_value g_means g_laneOf g_sizeOf g_cells g_copied g_state g_joinedLow g_joinedHigh g_keptLow g_keptHigh gc_sites gc_nulls ra ia) sz) := by
  refine Met.ofW (cc := cX5_mean) (maxL := 3) (ret := none) (by decide) rfl ?_
  intro p e s m args below meth c s₁ B hml hv
  obtain ⟨rfl, hsz, hP, hK, hD0, hN⟩ := hv
  have hx := B.exec
  have hb := B.bytes
  have hr := B.returns
  have hts := atoms_spec (ws := v_X5_mean) B.pre
  have hown : s.vm.findClass RX5 = some m.cls := findClass_of_methodNamed B.named
  have hlocks := B.notSynchronized
  subst hsz
  have hD := hD0.self (sz := s.heap.size)
  generalize hAe : va_A (sw_X5_mean cI cJ cZ gh g_acts g_kind g_na g_nb g_nc g_nd g_ne g_dropped g_live g_low g_high ga_sites ga_nulls g_there g_lanes g_least g_most g_placeLow g_placeHigh g_reached g_mayThrow g_status g_hasRun g_threw g_whereThrown g_value g_means g_laneOf g_sizeOf g_cells g_copied g_state g_joinedLow g_joinedHigh g_keptLow g_keptHigh gc_sites gc_nulls ra ia) s.heap.size = A at hD ⊢
  have hA : ∀ q : Nat, s.heap.size ≤ q → A q := fun q h => by rw [← hAe]; exact Or.inr h
  clear hAe hD0
  have hS : va_S A s.heap s.heap [] := va_S.rf
  replace hP : va_P (dC, dI) vwCl [(gh, .inr (5, [.int g_acts, g_kind, g_na, g_nb, g_nc, g_nd, g_ne, g_dropped, g_live, g_low, g_high, .ref ga_sites, .ref ga_nulls, g_there, g_lanes, g_least, g_most, g_placeLow, g_placeHigh, g_reached, g_mayThrow, .int g_status, .int g_hasRun, .int g_threw, .int g_whereThrown, g_value, g_means, g_laneOf, g_sizeOf, g_cells, g_copied, .long g_state, .long g_joinedLow, .long g_joinedHigh, g_keptLow, g_keptHigh])), (ga_sites, .inl (cJ, 12, .inr (.inl gc_sites))), (ga_nulls, .inl (cZ, 12, .inl gc_nulls))] s.heap := hP
  replace hD : va_D A [(gh, .inr (5, [.int g_acts, g_kind, g_na, g_nb, g_nc, g_nd, g_ne, g_dropped, g_live, g_low, g_high, .ref ga_sites, .ref ga_nulls, g_there, g_lanes, g_least, g_most, g_placeLow, g_placeHigh, g_reached, g_mayThrow, .int g_status, .int g_hasRun, .int g_threw, .int g_whereThrown, g_value, g_means, g_laneOf, g_sizeOf, g_cells, g_copied, .long g_state, .long g_joinedLow, .long g_joinedHigh, g_keptLow, g_keptHigh])), (ga_sites, .inl (cJ, 12, .inr (.inl gc_sites))), (ga_nulls, .inl (cZ, 12, .inl gc_nulls))] := hD
  have hl := lv_entry ([.ref gh, .int ra, .int ia]) (n := 3) (Nat.le_of_ble_eq_true rfl)
  rw [lg_entry_eq]
  generalize (lg_sl ([.ref gh, .int ra, .int ia]) ++ List.replicate (3 - (lg_sl ([.ref gh, .int ra, .int ia])).length) Slot.unset).toArray = ls at hl ⊢
  replace hl : lv_has ls 3 [(0, .ref gh), (1, .int ra), (2, .int ia)] := hl
  have z_0 : (0 : Int32).toInt = 0 := by decide
  have z_1 : (1 : Int32).toInt = 1 := by decide
  refine lv_aload_n hx hb dX5_mean_0 rfl (lv_at hl 0 rfl) ?_
  refine va_get (D := (dC, dI)) (ci := 5) (v := .ref ga_sites) (C := RX5) (T := TX5) (N := 36) hx hb hts inv_X5_mean_X5 hown hK hP 0 rfl rfl 11 (by decide) (hts (.fieldLink RX5 42 "ArraySegmentsModel" "sites" "[J") (List.mem_of_getElem? (i := 1) rfl)) (fun _ h9 => h9) rfl dX5_mean_1 ?_
  refine lv_iload_n hx hb dX5_mean_4 rfl (lv_at hl 1 rfl) ?_
  refine lv_lconst (v := 1) hx hb dX5_mean_5 (by decide) ?_
  refine lv_iload_n hx hb dX5_mean_6 rfl (lv_at hl 2 rfl) ?_
  refine lv_lshl (v := _) hx hb dX5_mean_7 rfl ?_
  refine lv_topl (fun v_1 _ => ?_)
  refine sf_last lT hx hb hK hP hD hS 1 1 rfl rfl (fun _ => trivial) trivial (vp_in_iff.mpr ⟨by omega, by omega⟩) dX5_mean_8 (fun f_2 h_f_2 e_f_2 H_3 locs_3 hP1 hD1 hS1 => ?_)
  replace hP : va_P (dC, dI) vwCl [(gh, .inr (5, [.int g_acts, g_kind, g_na, g_nb, g_nc, g_nd, g_ne, g_dropped, g_live, g_low, g_high, .ref ga_sites, .ref ga_nulls, g_there, g_lanes, g_least, g_most, g_placeLow, g_placeHigh, g_reached, g_mayThrow, .int g_status, .int g_hasRun, .int g_threw, .int g_whereThrown, g_value, g_means, g_laneOf, g_sizeOf, g_cells, g_copied, .long g_state, .long g_joinedLow, .long g_joinedHigh, g_keptLow, g_keptHigh])), (ga_sites, .inl (cJ, 12, .inr (.inl f_2))), (ga_nulls, .inl (cZ, 12, .inl gc_nulls))] H_3 := hP1
  replace hD : va_D A [(gh, .inr (5, [.int g_acts, g_kind, g_na, g_nb, g_nc, g_nd, g_ne, g_dropped, g_live, g_low, g_high, .ref ga_sites, .ref ga_nulls, g_there, g_lanes, g_least, g_most, g_placeLow, g_placeHigh, g_reached, g_mayThrow, .int g_status, .int g_hasRun, .int g_threw, .int g_whereThrown, g_value, g_means, g_laneOf, g_sizeOf, g_cells, g_copied, .long g_state, .long g_joinedLow, .long g_joinedHigh, g_keptLow, g_keptHigh])), (ga_sites, .inl (cJ, 12, .inr (.inl f_2))), (ga_nulls, .inl (cZ, 12, .inl gc_nulls))] := hD1
  replace hS := hS1
  clear hP1 hD1 hS1
  refine lv_aload_n hx hb dX5_mean_9 rfl (lv_at hl 0 rfl) ?_
  refine va_get (D := (dC, dI)) (ci := 5) (v := .ref ga_nulls) (C := RX5) (T := TX5) (N := 36) hx hb hts inv_X5_mean_X5 hown hK hP 0 rfl rfl 12 (by decide) (hts (.fieldLink RX5 45 "ArraySegmentsModel" "nulls" "[Z") (List.mem_of_getElem? (i := 2) rfl)) (fun _ h9 => h9) rfl dX5_mean_10 ?_
  refine lv_iload_n hx hb dX5_mean_13 rfl (lv_at hl 1 rfl) ?_
  refine lv_iconst (v := 0) hx hb dX5_mean_14 (by decide) ?_
  refine sf_zast hx hb hK hP hD hS 2 2 rfl rfl h_gc_nulls (vp_in_iff.mpr ⟨by omega, by omega⟩) dX5_mean_15 (fun f_4 h_f_4 e_f_4 H_5 locs_5 hP1 hD1 hS1 => ?_)
  replace hP : va_P (dC, dI) vwCl [(gh, .inr (5, [.int g_acts, g_kind, g_na, g_nb, g_nc, g_nd, g_ne, g_dropped, g_live, g_low, g_high, .ref ga_sites, .ref ga_nulls, g_there, g_lanes, g_least, g_most, g_placeLow, g_placeHigh, g_reached, g_mayThrow, .int g_status, .int g_hasRun, .int g_threw, .int g_whereThrown, g_value, g_means, g_laneOf, g_sizeOf, g_cells, g_copied, .long g_state, .long g_joinedLow, .long g_joinedHigh, g_keptLow, g_keptHigh])), (ga_sites, .inl (cJ, 12, .inr (.inl f_2))), (ga_nulls, .inl (cZ, 12, .inl f_4))] H_5 := hP1
  replace hD : va_D A [(gh, .inr (5, [.int g_acts, g_kind, g_na, g_nb, g_nc, g_nd, g_ne, g_dropped, g_live, g_low, g_high, .ref ga_sites, .ref ga_nulls, g_there, g_lanes, g_least, g_most, g_placeLow, g_placeHigh, g_reached, g_mayThrow, .int g_status, .int g_hasRun, .int g_threw, .int g_whereThrown, g_value, g_means, g_laneOf, g_sizeOf, g_cells, g_copied, .long g_state, .long g_joinedLow, .long g_joinedHigh, g_keptLow, g_keptHigh])), (ga_sites, .inl (cJ, 12, .inr (.inl f_2))), (ga_nulls, .inl (cZ, 12, .inl f_4))] := hD1
  replace hS := hS1
  clear hP1 hD1 hS1
  have hP9 := hP.sub (ws' := [(gh, .inr (5, [.int g_acts, g_kind, g_na, g_nb, g_nc, g_nd, g_ne, g_dropped, g_live, g_low, g_high, .ref ga_sites, .ref ga_nulls, g_there, g_lanes, g_least, g_most, g_placeLow, g_placeHigh, g_reached, g_mayThrow, .int g_status, .int g_hasRun, .int g_threw, .int g_whereThrown, g_value, g_means, g_laneOf, g_sizeOf, g_cells, g_copied, .long g_state, .long g_joinedLow, .long g_joinedHigh, g_keptLow, g_keptHigh])), (ga_sites, .inl (cJ, 12, .inr (.inl f_2))), (ga_nulls, .inl (cZ, 12, .inl f_4))]) [0, 1, 2] rfl
  have hD9 := hD.sub (ws' := [(gh, .inr (5, [.int g_acts, g_kind, g_na, g_nb, g_nc, g_nd, g_ne, g_dropped, g_live, g_low, g_high, .ref ga_sites, .ref ga_nulls, g_there, g_lanes, g_least, g_most, g_placeLow, g_placeHigh, g_reached, g_mayThrow, .int g_status, .int g_hasRun, .int g_threw, .int g_whereThrown, g_value, g_means, g_laneOf, g_sizeOf, g_cells, g_copied, .long g_state, .long g_joinedLow, .long g_joinedHigh, g_keptLow, g_keptHigh])), (ga_sites, .inl (cJ, 12, .inr (.inl f_2))), (ga_nulls, .inl (cZ, 12, .inl f_4))]) [0, 1, 2] (by decide) rfl
  exact W.vret hx hb hr (fun t ht hW => ⟨⟨(f_2, f_4), rfl, (show ∀ j : Nat, kZ (f_4 j) from h_f_4), by rw [ht]; exact hP9, va_K.moved hW.alike hK, hD9⟩, hS.F ht⟩) hS.2.2 dX5_mean_16

def v_X5_leastLength : List Cond := .code yX5_leastLength cX5_leastLength 5 (some .long) :: ([.constantLong RX5 167 (100), .methodLink RX5 169 yX5_has, .instanceMethod yX5_has, .selects RX5 yX5_has yX5_has, .initialized RX5, .fieldLink RX5 54 "ArraySegmentsModel" "least" "[J"] ++ (wsX50 ++ (v_X5_has)))
theorem inv_X5_leastLength_X5 : ∀ w ∈ wsX50, w ∈ v_X5_leastLength := fun _ h => List.mem_cons_of_mem _ (List.mem_append_right _ (List.mem_append_left _ h))
theorem im_X5_leastLength_X5_has : ∀ w ∈ v_X5_has, w ∈ v_X5_leastLength := fun _ h => List.mem_cons_of_mem _ (List.mem_append_right _ (List.mem_append_right _ (h)))
set_option maxRecDepth 20000 in
theorem gd_X5_leastLength : gdL v_X5_leastLength := gdC (gdW (by decide +kernel)) (gdA (gdW (by decide +kernel)) (gdA gd_wsX50 gd_X5_has))
set_option maxRecDepth 20000 in
theorem h_X5_leastLength_X5_has_169 : GoodIn v_X5_leastLength (wsV RX5 169 RX5 yX5_has v_X5_has) := gdI [2, 3, 4, 5] rfl (by decide +kernel) (im_X5_leastLength_X5_has) gd_X5_has
abbrev sw_X5_leastLength (cI cJ cZ : ClassId) (gh : Nat) (g_acts : Int32) (g_kind : Value) (g_na : Value) (g_nb : Value) (g_nc : Value) (g_nd : Value) (g_ne : Value) (g_dropped : Value) (g_live : Value) (g_low : Value) (g_high : Value) (ga_sites : Nat) (g_nulls : Value) (g_there : Value) (g_lanes : Value) (ga_least : Nat) (g_most : Value) (g_placeLow : Value) (g_placeHigh : Value) (g_reached : Value) (g_mayThrow : Value) (g_status : Int32) (g_hasRun : Int32) (g_threw : Int32) (g_whereThrown : Int32) (g_value : Value) (g_means : Value) (g_laneOf : Value) (g_sizeOf : Value) (g_cells : Value) (g_copied : Value) (g_state : Int64) (g_joinedLow : Int64) (g_joinedHigh : Int64) (g_keptLow : Value) (g_keptHigh : Value) (gc_sites : Nat → Int64) (gc_least : Nat → Int64) (ra : Int32) : va_W := [(gh, .inr (5, [.int g_acts, g_kind, g_na, g_nb, g_nc, g_nd, g_ne, g_dropped, g_live, g_low, g_high, .ref ga_sites, g_nulls, g_there, g_lanes, .ref ga_least, g_most, g_placeLow, g_placeHigh, g_reached, g_mayThrow, .int g_status, .int g_hasRun, .int g_threw, .int g_whereThrown, g_value, g_means, g_laneOf, g_sizeOf, g_cells, g_copied, .long g_state, .long g_joinedLow, .long g_joinedHigh, g_keptLow, g_keptHigh])), (ga_sites, .inl (cJ, 12, .inr (.inl gc_sites))), (ga_least, .inl (cJ, 80, .inr (.inl gc_least)))]
set_option maxHeartbeats 8000000 in
set_option maxRecDepth 100000 in
theorem s_X5_leastLength (l : Launch) (dC : Nat → ClassId) (dI : Nat → Nat → Nat) (cI cJ cZ : ClassId) (gh : Nat) (g_acts : Int32) (g_kind : Value) (g_na : Value) (g_nb : Value) (g_nc : Value) (g_nd : Value) (g_ne : Value) (g_dropped : Value) (g_live : Value) (g_low : Value) (g_high : Value) (ga_sites : Nat) (g_nulls : Value) (g_there : Value) (g_lanes : Value) (ga_least : Nat) (g_most : Value) (g_placeLow : Value) (g_placeHigh : Value) (g_reached : Value) (g_mayThrow : Value) (g_status : Int32) (g_hasRun : Int32) (g_threw : Int32) (g_whereThrown : Int32) (g_value : Value) (g_means : Value) (g_laneOf : Value) (g_sizeOf : Value) (g_cells : Value) (g_copied : Value) (g_state : Int64) (g_joinedLow : Int64) (g_joinedHigh : Int64) (g_keptLow : Value) (g_keptHigh : Value) (gc_sites : Nat → Int64) (gc_least : Nat → Int64) (ra : Int32) (sz : Nat) (q_g_hasRun : kZ g_hasRun) (hy_ra : V6 ra) : Met l yX5_leastLength v_X5_leastLength ({ frames := 1, cells := 0, slots := 0, locals := 22 }) (va_Pc [.ref gh, .int ra] (cPre dC dI cI cJ cZ sz (sw_X5_leastLength cI cJ cZ gh g_acts g_kind g_na g_nb g_nc g_nd g_ne g_dropped g_live g_low g_high ga_sites g_nulls g_there g_lanes ga_least g_most g_placeLow g_placeHigh g_reached g_mayThrow g_status g_hasRun g_threw g_whereThrown g_value g_means g_laneOf g_sizeOf g_cells g_copied g_state g_joinedLow g_joinedHigh g_keptLow g_keptHigh gc_sites gc_least ra))) (va_Ql (fun (r : Int64) (u : Unit) => True) (fun (u : Unit) => cPost dC dI cI cJ cZ (va_A (sw_X5_leastLength cI cJ cZ gh g_acts g_kind g_na g_nb g_nc g_nd g_ne g_dropped g_live g_low g_high ga_sites g_nulls g_there g_lanes ga_least g_most g_placeLow g_placeHigh g_reached g_mayThrow g_status g_hasRun g_threw g_whereThrown g_value g_means g_laneOf g_sizeOf g_cells g_copied g_state g_joinedLow g_joinedHigh g_keptLow g_keptHigh gc_sites gc_least ra) sz) [(gh, .inr (5, [.int g_acts, g_kind, g_na, g_nb, g_nc, g_nd, g_ne, g_dropped, g_live, g_low, g_high, .ref ga_sites, g_nulls, g_there, g_lanes, .ref ga_least, g_most, g_placeLow, g_placeHigh, g_reached, g_mayThrow, .int g_status, .int g_hasRun, .int g_threw, .int g_whereThrown, g_value, g_means, g_laneOf, g_sizeOf, g_cells, g_copied, .long g_state, .long g_joinedLow, .long g_joinedHigh, g_keptLow, g_keptHigh])), (ga_sites, .inl (cJ, 12, .inr (.inl gc_sites))), (ga_least, .inl (cJ, 80, .inr (.inl gc_least)))]) (va_A (sw_X5_leastLength cI cJ cZ gh g_acts g_kind g_na g_nb g_nc g_nd g_ne g_dropped g_live g_low g_high ga_sites g_nulls g_there g_lanes ga_least g_most g_placeLow g_placeHigh g_reached g_mayThrow g_status g_hasRun g_threw g_whereThrown g_value g_means g_laneOf g_sizeOf g_cells g_copied g_state g_joinedLow g_joinedHigh g_keptLow g_keptHigh gc_sites gc_least ra) sz)) 0 0 (va_A (sw_X5_leastLength cI cJ cZ gh g_acts g_kind g_na g_nb g_nc g_nd g_ne g_dropped g_live g_low g_high ga_sites g_nulls g_there g_lanes ga_least g_most g_placeLow g_placeHigh g_reached g_mayThrow g_status g_hasRun g_threw g_whereThrown g_value g_means g_laneOf g_sizeOf g_cells g_copied g_state g_joinedLow g_joinedHigh g_keptLow g_keptHigh gc_sites gc_least ra) sz) := by
  refine Met.ofW (cc := cX5_leastLength) (maxL := 5) (ret := (some .long)) (by decide) rfl ?_
  intro p e s m args below meth c s₁ B hml hv
  obtain ⟨rfl, hsz, hP, hK, hD0, hN⟩ := hv
  have hx := B.exec
  have hb := B.bytes
  have hr := B.returns
  have hts := atoms_spec (ws := v_X5_leastLength) B.pre
  have hown : s.vm.findClass RX5 = some m.cls := findClass_of_methodNamed B.named
  have hlocks := B.notSynchronized
  subst hsz
  have hD := hD0.self (sz := s.heap.size)
  generalize hAe : va_A (sw_X5_leastLength cI cJ cZ gh g_acts g_kind g_na g_nb g_nc g_nd g_ne g_dropped g_live g_low g_high ga_sites g_nulls g_there g_lanes ga_least g_most g_placeLow g_placeHigh g_reached g_mayThrow g_status g_hasRun g_threw g_whereThrown g_value g_means g_laneOf g_sizeOf g_cells g_copied g_state g_joinedLow g_joinedHigh g_keptLow g_keptHigh gc_sites gc_least ra) s.heap.size = A at hD ⊢
  have hA : ∀ q : Nat, s.heap.size ≤ q → A q := fun q h => by rw [← hAe]; exact Or.inr h
  clear hAe hD0
  have hS : va_S A s.heap s.heap [] := va_S.rf
  replace hP : va_P (dC, dI) vwCl [(gh, .inr (5, [.int g_acts, g_kind, g_na, g_nb, g_nc, g_nd, g_ne, g_dropped, g_live, g_low, g_high, .ref ga_sites, g_nulls, g_there, g_lanes, .ref ga_least, g_most, g_placeLow, g_placeHigh, g_reached, g_mayThrow, .int g_status, .int g_hasRun, .int g_threw, .int g_whereThrown, g_value, g_means, g_laneOf, g_sizeOf, g_cells, g_copied, .long g_state, .long g_joinedLow, .long g_joinedHigh, g_keptLow, g_keptHigh])), (ga_sites, .inl (cJ, 12, .inr (.inl gc_sites))), (ga_least, .inl (cJ, 80, .inr (.inl gc_least)))] s.heap := hP
  replace hD : va_D A [(gh, .inr (5, [.int g_acts, g_kind, g_na, g_nb, g_nc, g_nd, g_ne, g_dropped, g_live, g_low, g_high, .ref ga_sites, g_nulls, g_there, g_lanes, .ref ga_least, g_most, g_placeLow, g_placeHigh, g_reached, g_mayThrow, .int g_status, .int g_hasRun, .int g_threw, .int g_whereThrown, g_value, g_means, g_laneOf, g_sizeOf, g_cells, g_copied, .long g_state, .long g_joinedLow, .long g_joinedHigh, g_keptLow, g_keptHigh])), (ga_sites, .inl (cJ, 12, .inr (.inl gc_sites))), (ga_least, .inl (cJ, 80, .inr (.inl gc_least)))] := hD
  have hl := lv_entry ([.ref gh, .int ra]) (n := 5) (Nat.le_of_ble_eq_true rfl)
  rw [lg_entry_eq]
  generalize (lg_sl ([.ref gh, .int ra]) ++ List.replicate (5 - (lg_sl ([.ref gh, .int ra])).length) Slot.unset).toArray = ls at hl ⊢
  replace hl : lv_has ls 5 [(0, .ref gh), (1, .int ra)] := hl
  have z_0 : (0 : Int32).toInt = 0 := by decide
  have z_1 : (1 : Int32).toInt = 1 := by decide
  have z_40 : (40 : Int32).toInt = 40 := by decide
  have zl_100 : (100 : Int64).toInt = 100 := by decide
  refine lv_ldc2 hx hb hown (hts (.constantLong RX5 167 (100)) (List.mem_of_getElem? (i := 1) rfl)) dX5_leastLength_0 ?_
  refine lv_lstore_n (lv' := [(2, .long 100), (0, .ref gh), (1, .int ra)]) hx hb dX5_leastLength_3 rfl hl (by decide) rfl (fun ls1 hl1 => ?_)
  replace hl := hl1; clear hl1
  refine lv_iconst (v := 0) hx hb dX5_leastLength_4 (by decide) ?_
  refine lv_istore (lv' := [(4, .int 0), (2, .long 100), (0, .ref gh), (1, .int ra)]) hx hb dX5_leastLength_5 hl (by decide) rfl (fun ls1 hl1 => ?_)
  replace hl := hl1; clear hl1
  refine my_wloop (S := Int32 × Int64) (fun u => (0 ≤ (u.1).toInt ∧ (u.1).toInt ≤ 40)) (fun u => (40 - (u.1).toInt).toNat) (fun u => [(gh, .inr (5, [.int g_acts, g_kind, g_na, g_nb, g_nc, g_nd, g_ne, g_dropped, g_live, g_low, g_high, .ref ga_sites, g_nulls, g_there, g_lanes, .ref ga_least, g_most, g_placeLow, g_placeHigh, g_reached, g_mayThrow, .int g_status, .int g_hasRun, .int g_threw, .int g_whereThrown, g_value, g_means, g_laneOf, g_sizeOf, g_cells, g_copied, .long g_state, .long g_joinedLow, .long g_joinedHigh, g_keptLow, g_keptHigh])), (ga_sites, .inl (cJ, 12, .inr (.inl gc_sites))), (ga_least, .inl (cJ, 80, .inr (.inl gc_least)))]) (fun u => [(4, .int (u.1)), (2, .long (u.2)), (0, .ref gh), (1, .int ra)]) (H0 := s.heap) (A := A) (D := (dC, dI)) (cl := vwCl) ((0 : Int32), (100 : Int64)) (show (0 ≤ (0 : Int32).toInt ∧ (0 : Int32).toInt ≤ 40) from ⟨by omega, by omega⟩) (by exact hP) (by exact hD) hS (by exact hl) (fun u_1 hu_1 ih_1 H_1 locs_1 ls1 hP1 hD1 hS1 hl1 => ?_)
  obtain ⟨v_2, v_3⟩ := u_1
  replace hu_1 : (0 ≤ v_2.toInt ∧ v_2.toInt ≤ 40) := hu_1
  have q_v_2 := hu_1
  replace hP : va_P (dC, dI) vwCl [(gh, .inr (5, [.int g_acts, g_kind, g_na, g_nb, g_nc, g_nd, g_ne, g_dropped, g_live, g_low, g_high, .ref ga_sites, g_nulls, g_there, g_lanes, .ref ga_least, g_most, g_placeLow, g_placeHigh, g_reached, g_mayThrow, .int g_status, .int g_hasRun, .int g_threw, .int g_whereThrown, g_value, g_means, g_laneOf, g_sizeOf, g_cells, g_copied, .long g_state, .long g_joinedLow, .long g_joinedHigh, g_keptLow, g_keptHigh])), (ga_sites, .inl (cJ, 12, .inr (.inl gc_sites))), (ga_least, .inl (cJ, 80, .inr (.inl gc_least)))] H_1 := hP1
  replace hD : va_D A [(gh, .inr (5, [.int g_acts, g_kind, g_na, g_nb, g_nc, g_nd, g_ne, g_dropped, g_live, g_low, g_high, .ref ga_sites, g_nulls, g_there, g_lanes, .ref ga_least, g_most, g_placeLow, g_placeHigh, g_reached, g_mayThrow, .int g_status, .int g_hasRun, .int g_threw, .int g_whereThrown, g_value, g_means, g_laneOf, g_sizeOf, g_cells, g_copied, .long g_state, .long g_joinedLow, .long g_joinedHigh, g_keptLow, g_keptHigh])), (ga_sites, .inl (cJ, 12, .inr (.inl gc_sites))), (ga_least, .inl (cJ, 80, .inr (.inl gc_least)))] := hD1
  replace hS := hS1
  clear hP1 hD1 hS1
  replace hl : lv_has ls1 5 [(4, .int v_2), (2, .long v_3), (0, .ref gh), (1, .int ra)] := hl1
  clear hl1
  refine lv_iload hx hb dX5_leastLength_7 (lv_at hl 0 rfl) ?_
  refine lv_bipush (v := 40) hx hb dX5_leastLength_9 (by decide) ?_
  refine lv_icmp_ge (tgt := 54) hx hb dX5_leastLength_11 (by decide) (fun c_4 => ?_) (fun c_4 => ?_)
  · -- yes
    have k_4 : (40 : Int32).toInt ≤ v_2.toInt := ci_ge c_4
    refine lv_lload_n hx hb dX5_leastLength_54 rfl (lv_at hl 1 rfl) ?_
    have hP9 := hP.sub (ws' := [(gh, .inr (5, [.int g_acts, g_kind, g_na, g_nb, g_nc, g_nd, g_ne, g_dropped, g_live, g_low, g_high, .ref ga_sites, g_nulls, g_there, g_lanes, .ref ga_least, g_most, g_placeLow, g_placeHigh, g_reached, g_mayThrow, .int g_status, .int g_hasRun, .int g_threw, .int g_whereThrown, g_value, g_means, g_laneOf, g_sizeOf, g_cells, g_copied, .long g_state, .long g_joinedLow, .long g_joinedHigh, g_keptLow, g_keptHigh])), (ga_sites, .inl (cJ, 12, .inr (.inl gc_sites))), (ga_least, .inl (cJ, 80, .inr (.inl gc_least)))]) [0, 1, 2] rfl
    have hD9 := hD.sub (ws' := [(gh, .inr (5, [.int g_acts, g_kind, g_na, g_nb, g_nc, g_nd, g_ne, g_dropped, g_live, g_low, g_high, .ref ga_sites, g_nulls, g_there, g_lanes, .ref ga_least, g_most, g_placeLow, g_placeHigh, g_reached, g_mayThrow, .int g_status, .int g_hasRun, .int g_threw, .int g_whereThrown, g_value, g_means, g_laneOf, g_sizeOf, g_cells, g_copied, .long g_state, .long g_joinedLow, .long g_joinedHigh, g_keptLow, g_keptHigh])), (ga_sites, .inl (cJ, 12, .inr (.inl gc_sites))), (ga_least, .inl (cJ, 80, .inr (.inl gc_least)))]) [0, 1, 2] (by decide) rfl
    exact W.lret (v := v_3) hx hb hr (fun t ht hW => ⟨⟨v_3, (), rfl, trivial, by rw [ht]; exact hP9, va_K.moved hW.alike hK, hD9⟩, hS.F ht⟩) hS.2.2 dX5_leastLength_55
  · -- no
    have k_4 : v_2.toInt < (40 : Int32).toInt := ci_nge c_4
    refine lv_aload_n hx hb dX5_leastLength_14 rfl (lv_at hl 2 rfl) ?_
    refine lv_iload_n hx hb dX5_leastLength_15 rfl (lv_at hl 3 rfl) ?_
    refine lv_iload hx hb dX5_leastLength_16 (lv_at hl 0 rfl) ?_
    have hPc := hP.sub (ws' := [(gh, .inr (5, [.int g_acts, g_kind, g_na, g_nb, g_nc, g_nd, g_ne, g_dropped, g_live, g_low, g_high, .ref ga_sites, g_nulls, g_there, g_lanes, .ref ga_least, g_most, g_placeLow, g_placeHigh, g_reached, g_mayThrow, .int g_status, .int g_hasRun, .int g_threw, .int g_whereThrown, g_value, g_means, g_laneOf, g_sizeOf, g_cells, g_copied, .long g_state, .long g_joinedLow, .long g_joinedHigh, g_keptLow, g_keptHigh])), (ga_sites, .inl (cJ, 12, .inr (.inl gc_sites)))]) [0, 1] rfl
    have hDc := hD.sub (ws' := [(gh, .inr (5, [.int g_acts, g_kind, g_na, g_nb, g_nc, g_nd, g_ne, g_dropped, g_live, g_low, g_high, .ref ga_sites, g_nulls, g_there, g_lanes, .ref ga_least, g_most, g_placeLow, g_placeHigh, g_reached, g_mayThrow, .int g_status, .int g_hasRun, .int g_threw, .int g_whereThrown, g_value, g_means, g_laneOf, g_sizeOf, g_cells, g_copied, .long g_state, .long g_joinedLow, .long g_joinedHigh, g_keptLow, g_keptHigh])), (ga_sites, .inl (cJ, 12, .inr (.inl gc_sites)))]) [0, 1] (by decide) rfl
    have hFc := va_free (wc := [(gh, .inr (5, [.int g_acts, g_kind, g_na, g_nb, g_nc, g_nd, g_ne, g_dropped, g_live, g_low, g_high, .ref ga_sites, g_nulls, g_there, g_lanes, .ref ga_least, g_most, g_placeLow, g_placeHigh, g_reached, g_mayThrow, .int g_status, .int g_hasRun, .int g_threw, .int g_whereThrown, g_value, g_means, g_laneOf, g_sizeOf, g_cells, g_copied, .long g_state, .long g_joinedLow, .long g_joinedHigh, g_keptLow, g_keptHigh])), (ga_sites, .inl (cJ, 12, .inr (.inl gc_sites)))]) hD hS hA [0, 1] rfl
    refine va_calli (va_runV (As := [.int ra, .int v_2]) (rest := []) ⟨hx, hb, hml, hown, hts⟩ (s_X5_has l dC dI cI cJ cZ gh g_acts g_kind g_na g_nb g_nc g_nd g_ne g_dropped g_live g_low g_high ga_sites g_nulls g_there g_lanes (.ref ga_least) g_most g_placeLow g_placeHigh g_reached g_mayThrow g_status g_hasRun g_threw g_whereThrown g_value g_means g_laneOf g_sizeOf g_cells g_copied g_state g_joinedLow g_joinedHigh g_keptLow g_keptHigh gc_sites ra v_2 H_1.size q_g_hasRun (by first | assumption | omega)) (cwV 2 hts h_X5_leastLength_X5_has_169 rfl rfl rfl (by decide +kernel) ⟨Nat.le_of_ble_eq_true rfl, Nat.le_of_ble_eq_true rfl⟩) ⟨cPre_blind, va_recv hK hPc (ci := 5) (q0 := 0) rfl rfl, cPre_of hK hN hPc hDc⟩ rfl rfl hl.1 rfl (lv_room (Nat.le_of_ble_eq_true rfl)) dX5_leastLength_18 ⟨Nat.le_of_ble_eq_true rfl, Nat.le_of_ble_eq_true rfl⟩) hS (fun q _ h => hFc q h) hFc (fun r_5 u_5 t_5 H_5 locs_5 ht hvm hw_5 hB hz1 hk1 hS1 => ?_)
    obtain ⟨hP1, hK1, hD1⟩ := hB
    rw [ht] at hP1
    obtain ⟨hP2, hD2⟩ := va_join (wr := [(ga_least, .inl (cJ, 80, .inr (.inl gc_least)))]) (w1 := [(gh, .inr (5, [.int g_acts, g_kind, g_na, g_nb, g_nc, g_nd, g_ne, g_dropped, g_live, g_low, g_high, .ref ga_sites, g_nulls, g_there, g_lanes, .ref ga_least, g_most, g_placeLow, g_placeHigh, g_reached, g_mayThrow, .int g_status, .int g_hasRun, .int g_threw, .int g_whereThrown, g_value, g_means, g_laneOf, g_sizeOf, g_cells, g_copied, .long g_state, .long g_joinedLow, .long g_joinedHigh, g_keptLow, g_keptHigh])), (ga_sites, .inl (cJ, 12, .inr (.inl gc_sites)))]) hP hD [0, 1] [2] rfl rfl (by decide) (by decide) hk1 hFc hP1 hD1
    clear hPc hDc hFc hP1 hD1 hK1 hk1 hz1 hvm ht
    replace hP : va_P (dC, dI) vwCl [(ga_least, .inl (cJ, 80, .inr (.inl gc_least))), (gh, .inr (5, [.int g_acts, g_kind, g_na, g_nb, g_nc, g_nd, g_ne, g_dropped, g_live, g_low, g_high, .ref ga_sites, g_nulls, g_there, g_lanes, .ref ga_least, g_most, g_placeLow, g_placeHigh, g_reached, g_mayThrow, .int g_status, .int g_hasRun, .int g_threw, .int g_whereThrown, g_value, g_means, g_laneOf, g_sizeOf, g_cells, g_copied, .long g_state, .long g_joinedLow, .long g_joinedHigh, g_keptLow, g_keptHigh])), (ga_sites, .inl (cJ, 12, .inr (.inl gc_sites)))] H_5 := hP2
    replace hD : va_D A [(ga_least, .inl (cJ, 80, .inr (.inl gc_least))), (gh, .inr (5, [.int g_acts, g_kind, g_na, g_nb, g_nc, g_nd, g_ne, g_dropped, g_live, g_low, g_high, .ref ga_sites, g_nulls, g_there, g_lanes, .ref ga_least, g_most, g_placeLow, g_placeHigh, g_reached, g_mayThrow, .int g_status, .int g_hasRun, .int g_threw, .int g_whereThrown, g_value, g_means, g_laneOf, g_sizeOf, g_cells, g_copied, .long g_state, .long g_joinedLow, .long g_joinedHigh, g_keptLow, g_keptHigh])), (ga_sites, .inl (cJ, 12, .inr (.inl gc_sites)))] := hD2
    replace hS := hS1
    clear hP2 hD2 hS1
    replace hw_5 : (kZ r_5) := hw_5
    have q_r_5 := hw_5
    refine my_join (S := Int64) (fun u => True) (fun u => [(ga_least, .inl (cJ, 80, .inr (.inl gc_least))), (gh, .inr (5, [.int g_acts, g_kind, g_na, g_nb, g_nc, g_nd, g_ne, g_dropped, g_live, g_low, g_high, .ref ga_sites, g_nulls, g_there, g_lanes, .ref ga_least, g_most, g_placeLow, g_placeHigh, g_reached, g_mayThrow, .int g_status, .int g_hasRun, .int g_threw, .int g_whereThrown, g_value, g_means, g_laneOf, g_sizeOf, g_cells, g_copied, .long g_state, .long g_joinedLow, .long g_joinedHigh, g_keptLow, g_keptHigh])), (ga_sites, .inl (cJ, 12, .inr (.inl gc_sites)))]) (fun u => [(4, .int v_2), (2, .long v_3), (0, .ref gh), (1, .int ra)]) (fun u => [.long (u)]) (nL := 5) (H0 := s.heap) (A := A) (D := (dC, dI)) (cl := vwCl) 47 (fun u_7 hu_7 H_7 locs_7 ls1 hP1 hD1 hS1 hl1 => ?_) (fun jn_7 => ?_)
    · -- behind 47
      obtain ⟨v_8, rfl⟩ : ∃ z, z = u_7 := ⟨_, rfl⟩
      replace hP : va_P (dC, dI) vwCl [(ga_least, .inl (cJ, 80, .inr (.inl gc_least))), (gh, .inr (5, [.int g_acts, g_kind, g_na, g_nb, g_nc, g_nd, g_ne, g_dropped, g_live, g_low, g_high, .ref ga_sites, g_nulls, g_there, g_lanes, .ref ga_least, g_most, g_placeLow, g_placeHigh, g_reached, g_mayThrow, .int g_status, .int g_hasRun, .int g_threw, .int g_whereThrown, g_value, g_means, g_laneOf, g_sizeOf, g_cells, g_copied, .long g_state, .long g_joinedLow, .long g_joinedHigh, g_keptLow, g_keptHigh])), (ga_sites, .inl (cJ, 12, .inr (.inl gc_sites)))] H_7 := hP1
      replace hD : va_D A [(ga_least, .inl (cJ, 80, .inr (.inl gc_least))), (gh, .inr (5, [.int g_acts, g_kind, g_na, g_nb, g_nc, g_nd, g_ne, g_dropped, g_live, g_low, g_high, .ref ga_sites, g_nulls, g_there, g_lanes, .ref ga_least, g_most, g_placeLow, g_placeHigh, g_reached, g_mayThrow, .int g_status, .int g_hasRun, .int g_threw, .int g_whereThrown, g_value, g_means, g_laneOf, g_sizeOf, g_cells, g_copied, .long g_state, .long g_joinedLow, .long g_joinedHigh, g_keptLow, g_keptHigh])), (ga_sites, .inl (cJ, 12, .inr (.inl gc_sites)))] := hD1
      replace hS := hS1
      clear hP1 hD1 hS1
      replace hl : lv_has ls1 5 [(4, .int v_2), (2, .long v_3), (0, .ref gh), (1, .int ra)] := hl1
      clear hl1
      refine lv_lstore_n (lv' := [(2, .long v_8), (4, .int v_2), (0, .ref gh), (1, .int ra)]) hx hb dX5_leastLength_47 rfl hl (by decide) rfl (fun ls1 hl1 => ?_)
      replace hl := hl1; clear hl1
      refine sf_iinc hx hb dX5_leastLength_48 hl (k := 1) (x := v_2) (w := 1) rfl (by decide) (by decide) ⟨by omega, by omega⟩ (fun v_9 q_v_9 ls1 hl1 => ?_)
      replace hl : lv_has ls1 5 [(4, .int v_9), (2, .long v_8), (0, .ref gh), (1, .int ra)] := hl1
      clear hl1
      refine lv_goto (tgt := 7) hx hb dX5_leastLength_51 (by decide) ?_
      exact ih_1 (v_9, v_8) (show (0 ≤ v_9.toInt ∧ v_9.toInt ≤ 40) from ⟨by omega, by omega⟩) (by show (40 - v_9.toInt).toNat < (40 - v_2.toInt).toNat; omega) _ _ _ (hP.sub [1, 2, 0] rfl) (hD.sub [1, 2, 0] (by decide) rfl) hS (lv_sub hl [0, 1, 2, 3] rfl)
    · -- ahead of 47
      refine lv_if_eq (tgt := 46) hx hb dX5_leastLength_21 (by decide) (fun c_10 => ?_) (fun c_10 => ?_)
      · -- yes
        have k_10 : r_5.toInt = (0 : Int32).toInt := ci_eq c_10
        refine lv_lload_n hx hb dX5_leastLength_46 rfl (lv_at hl 1 rfl) ?_
        exact jn_7 v_3 (show True from trivial) _ _ _ (hP.sub [0, 1, 2] rfl) (hD.sub [0, 1, 2] (by decide) rfl) hS (lv_sub hl [0, 1, 2, 3] rfl)
      · -- no
        have k_10 : ¬ r_5.toInt = (0 : Int32).toInt := ci_ne c_10
        refine lv_aload_n hx hb dX5_leastLength_24 rfl (lv_at hl 2 rfl) ?_
        refine va_get (D := (dC, dI)) (ci := 5) (v := .ref ga_least) (C := RX5) (T := TX5) (N := 36) hx hb hts inv_X5_leastLength_X5 hown hK hP 1 rfl rfl 15 (by decide) (hts (.fieldLink RX5 54 "ArraySegmentsModel" "least" "[J") (List.mem_of_getElem? (i := 6) rfl)) (fun _ h9 => h9) rfl dX5_leastLength_25 ?_
        refine lv_iload hx hb dX5_leastLength_28 (lv_at hl 0 rfl) ?_
        refine sf_lald lT hx hb hK hP 0 1 rfl rfl (fun _ => trivial) (vp_in_iff.mpr ⟨by omega, by omega⟩) dX5_leastLength_30 (fun v_11 q_v_11 e_v_11 => ?_)
        refine lv_lload_n hx hb dX5_leastLength_31 rfl (lv_at hl 1 rfl) ?_
        refine W.lcmp hx hb dX5_leastLength_32 ?_
        refine lv_if_ge (tgt := 46) hx hb dX5_leastLength_33 (by decide) (fun c_12 => ?_) (fun c_12 => ?_)
        · -- yes
          have k_12 : v_3.toInt ≤ v_11.toInt := lc_ge c_12
          refine lv_lload_n hx hb dX5_leastLength_46 rfl (lv_at hl 1 rfl) ?_
          exact jn_7 v_3 (show True from trivial) _ _ _ (hP.sub [0, 1, 2] rfl) (hD.sub [0, 1, 2] (by decide) rfl) hS (lv_sub hl [0, 1, 2, 3] rfl)
        · -- no
          have k_12 : v_11.toInt < v_3.toInt := lc_nge c_12
          refine lv_aload_n hx hb dX5_leastLength_36 rfl (lv_at hl 2 rfl) ?_
          refine va_get (D := (dC, dI)) (ci := 5) (v := .ref ga_least) (C := RX5) (T := TX5) (N := 36) hx hb hts inv_X5_leastLength_X5 hown hK hP 1 rfl rfl 15 (by decide) (hts (.fieldLink RX5 54 "ArraySegmentsModel" "least" "[J") (List.mem_of_getElem? (i := 6) rfl)) (fun _ h9 => h9) rfl dX5_leastLength_37 ?_
          refine lv_iload hx hb dX5_leastLength_40 (lv_at hl 0 rfl) ?_
          refine sf_lald lT hx hb hK hP 0 1 rfl rfl (fun _ => trivial) (vp_in_iff.mpr ⟨by omega, by omega⟩) dX5_leastLength_42 (fun v_13 q_v_13 e_v_13 => ?_)
          refine lv_goto (tgt := 47) hx hb dX5_leastLength_43 (by decide) ?_
          exact jn_7 v_13 (show True from trivial) _ _ _ (hP.sub [0, 1, 2] rfl) (hD.sub [0, 1, 2] (by decide) rfl) hS (lv_sub hl [0, 1, 2, 3] rfl)

def v_X5_mostLength : List Cond := .code yX5_mostLength cX5_mostLength 5 (some .long) :: ([.methodLink RX5 169 yX5_has, .instanceMethod yX5_has, .selects RX5 yX5_has yX5_has, .initialized RX5, .fieldLink RX5 57 "ArraySegmentsModel" "most" "[J"] ++ (wsX50 ++ (v_X5_has)))
theorem inv_X5_mostLength_X5 : ∀ w ∈ wsX50, w ∈ v_X5_mostLength := fun _ h => List.mem_cons_of_mem _ (List.mem_append_right _ (List.mem_append_left _ h))
theorem im_X5_mostLength_X5_has : ∀ w ∈ v_X5_has, w ∈ v_X5_mostLength := fun _ h => List.mem_cons_of_mem _ (List.mem_append_right _ (List.mem_append_right _ (h)))
set_option maxRecDepth 20000 in
theorem gd_X5_mostLength : gdL v_X5_mostLength := gdC (gdW (by decide +kernel)) (gdA (gdW (by decide +kernel)) (gdA gd_wsX50 gd_X5_has))
set_option maxRecDepth 20000 in
theorem h_X5_mostLength_X5_has_169 : GoodIn v_X5_mostLength (wsV RX5 169 RX5 yX5_has v_X5_has) := gdI [1, 2, 3, 4] rfl (by decide +kernel) (im_X5_mostLength_X5_has) gd_X5_has
abbrev sw_X5_mostLength (cI cJ cZ : ClassId) (gh : Nat) (g_acts : Int32) (g_kind : Value) (g_na : Value) (g_nb : Value) (g_nc : Value) (g_nd : Value) (g_ne : Value) (g_dropped : Value) (g_live : Value) (g_low : Value) (g_high : Value) (ga_sites : Nat) (g_nulls : Value) (g_there : Value) (g_lanes : Value) (g_least : Value) (ga_most : Nat) (g_placeLow : Value) (g_placeHigh : Value) (g_reached : Value) (g_mayThrow : Value) (g_status : Int32) (g_hasRun : Int32) (g_threw : Int32) (g_whereThrown : Int32) (g_value : Value) (g_means : Value) (g_laneOf : Value) (g_sizeOf : Value) (g_cells : Value) (g_copied : Value) (g_state : Int64) (g_joinedLow : Int64) (g_joinedHigh : Int64) (g_keptLow : Value) (g_keptHigh : Value) (gc_sites : Nat → Int64) (gc_most : Nat → Int64) (ra : Int32) : va_W := [(gh, .inr (5, [.int g_acts, g_kind, g_na, g_nb, g_nc, g_nd, g_ne, g_dropped, g_live, g_low, g_high, .ref ga_sites, g_nulls, g_there, g_lanes, g_least, .ref ga_most, g_placeLow, g_placeHigh, g_reached, g_mayThrow, .int g_status, .int g_hasRun, .int g_threw, .int g_whereThrown, g_value, g_means, g_laneOf, g_sizeOf, g_cells, g_copied, .long g_state, .long g_joinedLow, .long g_joinedHigh, g_keptLow, g_keptHigh])), (ga_sites, .inl (cJ, 12, .inr (.inl gc_sites))), (ga_most, .inl (cJ, 80, .inr (.inl gc_most)))]
set_option maxHeartbeats 8000000 in
set_option maxRecDepth 100000 in
theorem s_X5_mostLength (l : Launch) (dC : Nat → ClassId) (dI : Nat → Nat → Nat) (cI cJ cZ : ClassId) (gh : Nat) (g_acts : Int32) (g_kind : Value) (g_na : Value) (g_nb : Value) (g_nc : Value) (g_nd : Value) (g_ne : Value) (g_dropped : Value) (g_live : Value) (g_low : Value) (g_high : Value) (ga_sites : Nat) (g_nulls : Value) (g_there : Value) (g_lanes : Value) (g_least : Value) (ga_most : Nat) (g_placeLow : Value) (g_placeHigh : Value) (g_reached : Value) (g_mayThrow : Value) (g_status : Int32) (g_hasRun : Int32) (g_threw : Int32) (g_whereThrown : Int32) (g_value : Value) (g_means : Value) (g_laneOf : Value) (g_sizeOf : Value) (g_cells : Value) (g_copied : Value) (g_state : Int64) (g_joinedLow : Int64) (g_joinedHigh : Int64) (g_keptLow : Value) (g_keptHigh : Value) (gc_sites : Nat → Int64) (gc_most : Nat → Int64) (ra : Int32) (sz : Nat) (q_g_hasRun : kZ g_hasRun) (h_gc_most : ∀ j : Nat, l12 (gc_most j)) (hy_ra : V6 ra) : Met l yX5_mostLength v_X5_mostLength ({ frames := 1, cells := 0, slots := 0, locals := 22 }) (va_Pc [.ref gh, .int ra] (cPre dC dI cI cJ cZ sz (sw_X5_mostLength cI cJ cZ gh g_acts g_kind g_na g_nb g_nc g_nd g_ne g_dropped g_live g_low g_high ga_sites g_nulls g_there g_lanes g_least ga_most g_placeLow g_placeHigh g_reached g_mayThrow g_status g_hasRun g_threw g_whereThrown g_value g_means g_laneOf g_sizeOf g_cells g_copied g_state g_joinedLow g_joinedHigh g_keptLow g_keptHigh gc_sites gc_most ra))) (va_Ql (fun (r : Int64) (u : Unit) => (0 ≤ r.toInt ∧ r.toInt ≤ 12)) (fun (u : Unit) => cPost dC dI cI cJ cZ (va_A (sw_X5_mostLength cI cJ cZ gh g_acts g_kind g_na g_nb g_nc g_nd g_ne g_dropped g_live g_low g_high ga_sites g_nulls g_there g_lanes g_least ga_most g_placeLow g_placeHigh g_reached g_mayThrow g_status g_hasRun g_threw g_whereThrown g_value g_means g_laneOf g_sizeOf g_cells g_copied g_state g_joinedLow g_joinedHigh g_keptLow g_keptHigh gc_sites gc_most ra) sz) [(gh, .inr (5, [.int g_acts, g_kind, g_na, g_nb, g_nc, g_nd, g_ne, g_dropped, g_live, g_low, g_high, .ref ga_sites, g_nulls, g_there, g_lanes, g_least, .ref ga_most, g_placeLow, g_placeHigh, g_reached, g_mayThrow, .int g_status, .int g_hasRun, .int g_threw, .int g_whereThrown, g_value, g_means, g_laneOf, g_sizeOf, g_cells, g_copied, .long g_state, .long g_joinedLow, .long g_joinedHigh, g_keptLow, g_keptHigh])), (ga_sites, .inl (cJ, 12, .inr (.inl gc_sites))), (ga_most, .inl (cJ, 80, .inr (.inl gc_most)))]) (va_A (sw_X5_mostLength cI cJ cZ gh g_acts g_kind g_na g_nb g_nc g_nd g_ne g_dropped g_live g_low g_high ga_sites g_nulls g_there g_lanes g_least ga_most g_placeLow g_placeHigh g_reached g_mayThrow g_status g_hasRun g_threw g_whereThrown g_value g_means g_laneOf g_sizeOf g_cells g_copied g_state g_joinedLow g_joinedHigh g_keptLow g_keptHigh gc_sites gc_most ra) sz)) 0 0 (va_A (sw_X5_mostLength cI cJ cZ gh g_acts g_kind g_na g_nb g_nc g_nd g_ne g_dropped g_live g_low g_high ga_sites g_nulls g_there g_lanes g_least ga_most g_placeLow g_placeHigh g_reached g_mayThrow g_status g_hasRun g_threw g_whereThrown g_value g_means g_laneOf g_sizeOf g_cells g_copied g_state g_joinedLow g_joinedHigh g_keptLow g_keptHigh gc_sites gc_most ra) sz) := by
  refine Met.ofW (cc := cX5_mostLength) (maxL := 5) (ret := (some .long)) (by decide) rfl ?_
  intro p e s m args below meth c s₁ B hml hv
  obtain ⟨rfl, hsz, hP, hK, hD0, hN⟩ := hv
  have hx := B.exec
  have hb := B.bytes
  have hr := B.returns
  have hts := atoms_spec (ws := v_X5_mostLength) B.pre
  have hown : s.vm.findClass RX5 = some m.cls := findClass_of_methodNamed B.named
  have hlocks := B.notSynchronized
  subst hsz
  have hD := hD0.self (sz := s.heap.size)
  generalize hAe : va_A (sw_X5_mostLength cI cJ cZ gh g_acts g_kind g_na g_nb g_nc g_nd g_ne g_dropped g_live g_low g_high ga_sites g_nulls g_there g_lanes g_least ga_most g_placeLow g_placeHigh g_reached g_mayThrow g_status g_hasRun g_threw g_whereThrown g_value g_means g_laneOf g_sizeOf g_cells g_copied g_state g_joinedLow g_joinedHigh g_keptLow g_keptHigh gc_sites gc_most ra) s.heap.size = A at hD ⊢
  have hA : ∀ q : Nat, s.heap.size ≤ q → A q := fun q h => by rw [← hAe]; exact Or.inr h
  clear hAe hD0
  have hS : va_S A s.heap s.heap [] := va_S.rf
  replace hP : va_P (dC, dI) vwCl [(gh, .inr (5, [.int g_acts, g_kind, g_na, g_nb, g_nc, g_nd, g_ne, g_dropped, g_live, g_low, g_high, .ref ga_sites, g_nulls, g_there, g_lanes, g_least, .ref ga_most, g_placeLow, g_placeHigh, g_reached, g_mayThrow, .int g_status, .int g_hasRun, .int g_threw, .int g_whereThrown, g_value, g_means, g_laneOf, g_sizeOf, g_cells, g_copied, .long g_state, .long g_joinedLow, .long g_joinedHigh, g_keptLow, g_keptHigh])), (ga_sites, .inl (cJ, 12, .inr (.inl gc_sites))), (ga_most, .inl (cJ, 80, .inr (.inl gc_most)))] s.heap := hP
  replace hD : va_D A [(gh, .inr (5, [.int g_acts, g_kind, g_na, g_nb, g_nc, g_nd, g_ne, g_dropped, g_live, g_low, g_high, .ref ga_sites, g_nulls, g_there, g_lanes, g_least, .ref ga_most, g_placeLow, g_placeHigh, g_reached, g_mayThrow, .int g_status, .int g_hasRun, .int g_threw, .int g_whereThrown, g_value, g_means, g_laneOf, g_sizeOf, g_cells, g_copied, .long g_state, .long g_joinedLow, .long g_joinedHigh, g_keptLow, g_keptHigh])), (ga_sites, .inl (cJ, 12, .inr (.inl gc_sites))), (ga_most, .inl (cJ, 80, .inr (.inl gc_most)))] := hD
  have hl := lv_entry ([.ref gh, .int ra]) (n := 5) (Nat.le_of_ble_eq_true rfl)
  rw [lg_entry_eq]
  generalize (lg_sl ([.ref gh, .int ra]) ++ List.replicate (5 - (lg_sl ([.ref gh, .int ra])).length) Slot.unset).toArray = ls at hl ⊢
  replace hl : lv_has ls 5 [(0, .ref gh), (1, .int ra)] := hl
  have z_0 : (0 : Int32).toInt = 0 := by decide
  have z_1 : (1 : Int32).toInt = 1 := by decide
  have z_40 : (40 : Int32).toInt = 40 := by decide
  have zl_0 : (0 : Int64).toInt = 0 := by decide
  refine lv_lconst (v := 0) hx hb dX5_mostLength_0 (by decide) ?_
  refine lv_lstore_n (lv' := [(2, .long 0), (0, .ref gh), (1, .int ra)]) hx hb dX5_mostLength_1 rfl hl (by decide) rfl (fun ls1 hl1 => ?_)
  replace hl := hl1; clear hl1
  refine lv_iconst (v := 0) hx hb dX5_mostLength_2 (by decide) ?_
  refine lv_istore (lv' := [(4, .int 0), (2, .long 0), (0, .ref gh), (1, .int ra)]) hx hb dX5_mostLength_3 hl (by decide) rfl (fun ls1 hl1 => ?_)
  replace hl := hl1; clear hl1
  refine my_wloop (S := Int32 × Int64) (fun u => (0 ≤ (u.1).toInt ∧ (u.1).toInt ≤ 40) ∧ (0 ≤ (u.2).toInt ∧ (u.2).toInt ≤ 12)) (fun u => (40 - (u.1).toInt).toNat) (fun u => [(gh, .inr (5, [.int g_acts, g_kind, g_na, g_nb, g_nc, g_nd, g_ne, g_dropped, g_live, g_low, g_high, .ref ga_sites, g_nulls, g_there, g_lanes, g_least, .ref ga_most, g_placeLow, g_placeHigh, g_reached, g_mayThrow, .int g_status, .int g_hasRun, .int g_threw, .int g_whereThrown, g_value, g_means, g_laneOf, g_sizeOf, g_cells, g_copied, .long g_state, .long g_joinedLow, .long g_joinedHigh, g_keptLow, g_keptHigh])), (ga_sites, .inl (cJ, 12, .inr (.inl gc_sites))), (ga_most, .inl (cJ, 80, .inr (.inl gc_most)))]) (fun u => [(4, .int (u.1)), (2, .long (u.2)), (0, .ref gh), (1, .int ra)]) (H0 := s.heap) (A := A) (D := (dC, dI)) (cl := vwCl) ((0 : Int32), (0 : Int64)) (show (0 ≤ (0 : Int32).toInt ∧ (0 : Int32).toInt ≤ 40) ∧ (0 ≤ (0 : Int64).toInt ∧ (0 : Int64).toInt ≤ 12) from ⟨⟨by omega, by omega⟩, ⟨by omega, by omega⟩⟩) (by exact hP) (by exact hD) hS (by exact hl) (fun u_1 hu_1 ih_1 H_1 locs_1 ls1 hP1 hD1 hS1 hl1 => ?_)
  obtain ⟨v_2, v_3⟩ := u_1
  replace hu_1 : (0 ≤ v_2.toInt ∧ v_2.toInt ≤ 40) ∧ (0 ≤ v_3.toInt ∧ v_3.toInt ≤ 12) := hu_1
  obtain ⟨q_v_2, q_v_3⟩ := hu_1
  replace hP : va_P (dC, dI) vwCl [(gh, .inr (5, [.int g_acts, g_kind, g_na, g_nb, g_nc, g_nd, g_ne, g_dropped, g_live, g_low, g_high, .ref ga_sites, g_nulls, g_there, g_lanes, g_least, .ref ga_most, g_placeLow, g_placeHigh, g_reached, g_mayThrow, .int g_status, .int g_hasRun, .int g_threw, .int g_whereThrown, g_value, g_means, g_laneOf, g_sizeOf, g_cells, g_copied, .long g_state, .long g_joinedLow, .long g_joinedHigh, g_keptLow, g_keptHigh])), (ga_sites, .inl (cJ, 12, .inr (.inl gc_sites))), (ga_most, .inl (cJ, 80, .inr (.inl gc_most)))] H_1 := hP1
  replace hD : va_D A [(gh, .inr (5, [.int g_acts, g_kind, g_na, g_nb, g_nc, g_nd, g_ne, g_dropped, g_live, g_low, g_high, .ref ga_sites, g_nulls, g_there, g_lanes, g_least, .ref ga_most, g_placeLow, g_placeHigh, g_reached, g_mayThrow, .int g_status, .int g_hasRun, .int g_threw, .int g_whereThrown, g_value, g_means, g_laneOf, g_sizeOf, g_cells, g_copied, .long g_state, .long g_joinedLow, .long g_joinedHigh, g_keptLow, g_keptHigh])), (ga_sites, .inl (cJ, 12, .inr (.inl gc_sites))), (ga_most, .inl (cJ, 80, .inr (.inl gc_most)))] := hD1
  replace hS := hS1
  clear hP1 hD1 hS1
  replace hl : lv_has ls1 5 [(4, .int v_2), (2, .long v_3), (0, .ref gh), (1, .int ra)] := hl1
  clear hl1
  refine lv_iload hx hb dX5_mostLength_5 (lv_at hl 0 rfl) ?_
  refine lv_bipush (v := 40) hx hb dX5_mostLength_7 (by decide) ?_
  refine lv_icmp_ge (tgt := 52) hx hb dX5_mostLength_9 (by decide) (fun c_4 => ?_) (fun c_4 => ?_)
  · -- yes
    have k_4 : (40 : Int32).toInt ≤ v_2.toInt := ci_ge c_4
    refine lv_lload_n hx hb dX5_mostLength_52 rfl (lv_at hl 1 rfl) ?_
    have hP9 := hP.sub (ws' := [(gh, .inr (5, [.int g_acts, g_kind, g_na, g_nb, g_nc, g_nd, g_ne, g_dropped, g_live, g_low, g_high, .ref ga_sites, g_nulls, g_there, g_lanes, g_least, .ref ga_most, g_placeLow, g_placeHigh, g_reached, g_mayThrow, .int g_status, .int g_hasRun, .int g_threw, .int g_whereThrown, g_value, g_means, g_laneOf, g_sizeOf, g_cells, g_copied, .long g_state, .long g_joinedLow, .long g_joinedHigh, g_keptLow, g_keptHigh])), (ga_sites, .inl (cJ, 12, .inr (.inl gc_sites))), (ga_most, .inl (cJ, 80, .inr (.inl gc_most)))]) [0, 1, 2] rfl
    have hD9 := hD.sub (ws' := [(gh, .inr (5, [.int g_acts, g_kind, g_na, g_nb, g_nc, g_nd, g_ne, g_dropped, g_live, g_low, g_high, .ref ga_sites, g_nulls, g_there, g_lanes, g_least, .ref ga_most, g_placeLow, g_placeHigh, g_reached, g_mayThrow, .int g_status, .int g_hasRun, .int g_threw, .int g_whereThrown, g_value, g_means, g_laneOf, g_sizeOf, g_cells, g_copied, .long g_state, .long g_joinedLow, .long g_joinedHigh, g_keptLow, g_keptHigh])), (ga_sites, .inl (cJ, 12, .inr (.inl gc_sites))), (ga_most, .inl (cJ, 80, .inr (.inl gc_most)))]) [0, 1, 2] (by decide) rfl
    exact W.lret (v := v_3) hx hb hr (fun t ht hW => ⟨⟨v_3, (), rfl, (show 0 ≤ v_3.toInt ∧ v_3.toInt ≤ 12 from (by first | assumption | omega)), by rw [ht]; exact hP9, va_K.moved hW.alike hK, hD9⟩, hS.F ht⟩) hS.2.2 dX5_mostLength_53
  · -- no
    have k_4 : v_2.toInt < (40 : Int32).toInt := ci_nge c_4
    refine lv_aload_n hx hb dX5_mostLength_12 rfl (lv_at hl 2 rfl) ?_
    refine lv_iload_n hx hb dX5_mostLength_13 rfl (lv_at hl 3 rfl) ?_
    refine lv_iload hx hb dX5_mostLength_14 (lv_at hl 0 rfl) ?_
    have hPc := hP.sub (ws' := [(gh, .inr (5, [.int g_acts, g_kind, g_na, g_nb, g_nc, g_nd, g_ne, g_dropped, g_live, g_low, g_high, .ref ga_sites, g_nulls, g_there, g_lanes, g_least, .ref ga_most, g_placeLow, g_placeHigh, g_reached, g_mayThrow, .int g_status, .int g_hasRun, .int g_threw, .int g_whereThrown, g_value, g_means, g_laneOf, g_sizeOf, g_cells, g_copied, .long g_state, .long g_joinedLow, .long g_joinedHigh, g_keptLow, g_keptHigh])), (ga_sites, .inl (cJ, 12, .inr (.inl gc_sites)))]) [0, 1] rfl
    have hDc := hD.sub (ws' := [(gh, .inr (5, [.int g_acts, g_kind, g_na, g_nb, g_nc, g_nd, g_ne, g_dropped, g_live, g_low, g_high, .ref ga_sites, g_nulls, g_there, g_lanes, g_least, .ref ga_most, g_placeLow, g_placeHigh, g_reached, g_mayThrow, .int g_status, .int g_hasRun, .int g_threw, .int g_whereThrown, g_value, g_means, g_laneOf, g_sizeOf, g_cells, g_copied, .long g_state, .long g_joinedLow, .long g_joinedHigh, g_keptLow, g_keptHigh])), (ga_sites, .inl (cJ, 12, .inr (.inl gc_sites)))]) [0, 1] (by decide) rfl
    have hFc := va_free (wc := [(gh, .inr (5, [.int g_acts, g_kind, g_na, g_nb, g_nc, g_nd, g_ne, g_dropped, g_live, g_low, g_high, .ref ga_sites, g_nulls, g_there, g_lanes, g_least, .ref ga_most, g_placeLow, g_placeHigh, g_reached, g_mayThrow, .int g_status, .int g_hasRun, .int g_threw, .int g_whereThrown, g_value, g_means, g_laneOf, g_sizeOf, g_cells, g_copied, .long g_state, .long g_joinedLow, .long g_joinedHigh, g_keptLow, g_keptHigh])), (ga_sites, .inl (cJ, 12, .inr (.inl gc_sites)))]) hD hS hA [0, 1] rfl
    refine va_calli (va_runV (As := [.int ra, .int v_2]) (rest := []) ⟨hx, hb, hml, hown, hts⟩ (s_X5_has l dC dI cI cJ cZ gh g_acts g_kind g_na g_nb g_nc g_nd g_ne g_dropped g_live g_low g_high ga_sites g_nulls g_there g_lanes g_least (.ref ga_most) g_placeLow g_placeHigh g_reached g_mayThrow g_status g_hasRun g_threw g_whereThrown g_value g_means g_laneOf g_sizeOf g_cells g_copied g_state g_joinedLow g_joinedHigh g_keptLow g_keptHigh gc_sites ra v_2 H_1.size q_g_hasRun (by first | assumption | omega)) (cwV 2 hts h_X5_mostLength_X5_has_169 rfl rfl rfl (by decide +kernel) ⟨Nat.le_of_ble_eq_true rfl, Nat.le_of_ble_eq_true rfl⟩) ⟨cPre_blind, va_recv hK hPc (ci := 5) (q0 := 0) rfl rfl, cPre_of hK hN hPc hDc⟩ rfl rfl hl.1 rfl (lv_room (Nat.le_of_ble_eq_true rfl)) dX5_mostLength_16 ⟨Nat.le_of_ble_eq_true rfl, Nat.le_of_ble_eq_true rfl⟩) hS (fun q _ h => hFc q h) hFc (fun r_5 u_5 t_5 H_5 locs_5 ht hvm hw_5 hB hz1 hk1 hS1 => ?_)
    obtain ⟨hP1, hK1, hD1⟩ := hB
    rw [ht] at hP1
    obtain ⟨hP2, hD2⟩ := va_join (wr := [(ga_most, .inl (cJ, 80, .inr (.inl gc_most)))]) (w1 := [(gh, .inr (5, [.int g_acts, g_kind, g_na, g_nb, g_nc, g_nd, g_ne, g_dropped, g_live, g_low, g_high, .ref ga_sites, g_nulls, g_there, g_lanes, g_least, .ref ga_most, g_placeLow, g_placeHigh, g_reached, g_mayThrow, .int g_status, .int g_hasRun, .int g_threw, .int g_whereThrown, g_value, g_means, g_laneOf, g_sizeOf, g_cells, g_copied, .long g_state, .long g_joinedLow, .long g_joinedHigh, g_keptLow, g_keptHigh])), (ga_sites, .inl (cJ, 12, .inr (.inl gc_sites)))]) hP hD [0, 1] [2] rfl rfl (by decide) (by decide) hk1 hFc hP1 hD1
    clear hPc hDc hFc hP1 hD1 hK1 hk1 hz1 hvm ht
    replace hP : va_P (dC, dI) vwCl [(ga_most, .inl (cJ, 80, .inr (.inl gc_most))), (gh, .inr (5, [.int g_acts, g_kind, g_na, g_nb, g_nc, g_nd, g_ne, g_dropped, g_live, g_low, g_high, .ref ga_sites, g_nulls, g_there, g_lanes, g_least, .ref ga_most, g_placeLow, g_placeHigh, g_reached, g_mayThrow, .int g_status, .int g_hasRun, .int g_threw, .int g_whereThrown, g_value, g_means, g_laneOf, g_sizeOf, g_cells, g_copied, .long g_state, .long g_joinedLow, .long g_joinedHigh, g_keptLow, g_keptHigh])), (ga_sites, .inl (cJ, 12, .inr (.inl gc_sites)))] H_5 := hP2
    replace hD : va_D A [(ga_most, .inl (cJ, 80, .inr (.inl gc_most))), (gh, .inr (5, [.int g_acts, g_kind, g_na, g_nb, g_nc, g_nd, g_ne, g_dropped, g_live, g_low, g_high, .ref ga_sites, g_nulls, g_there, g_lanes, g_least, .ref ga_most, g_placeLow, g_placeHigh, g_reached, g_mayThrow, .int g_status, .int g_hasRun, .int g_threw, .int g_whereThrown, g_value, g_means, g_laneOf, g_sizeOf, g_cells, g_copied, .long g_state, .long g_joinedLow, .long g_joinedHigh, g_keptLow, g_keptHigh])), (ga_sites, .inl (cJ, 12, .inr (.inl gc_sites)))] := hD2
    replace hS := hS1
    clear hP2 hD2 hS1
    replace hw_5 : (kZ r_5) := hw_5
    have q_r_5 := hw_5
    refine my_join (S := Int64) (fun u => (0 ≤ (u).toInt ∧ (u).toInt ≤ 12)) (fun u => [(ga_most, .inl (cJ, 80, .inr (.inl gc_most))), (gh, .inr (5, [.int g_acts, g_kind, g_na, g_nb, g_nc, g_nd, g_ne, g_dropped, g_live, g_low, g_high, .ref ga_sites, g_nulls, g_there, g_lanes, g_least, .ref ga_most, g_placeLow, g_placeHigh, g_reached, g_mayThrow, .int g_status, .int g_hasRun, .int g_threw, .int g_whereThrown, g_value, g_means, g_laneOf, g_sizeOf, g_cells, g_copied, .long g_state, .long g_joinedLow, .long g_joinedHigh, g_keptLow, g_keptHigh])), (ga_sites, .inl (cJ, 12, .inr (.inl gc_sites)))]) (fun u => [(4, .int v_2), (2, .long v_3), (0, .ref gh), (1, .int ra)]) (fun u => [.long (u)]) (nL := 5) (H0 := s.heap) (A := A) (D := (dC, dI)) (cl := vwCl) 45 (fun u_7 hu_7 H_7 locs_7 ls1 hP1 hD1 hS1 hl1 => ?_) (fun jn_7 => ?_)
    · -- behind 45
      obtain ⟨v_8, rfl⟩ : ∃ z, z = u_7 := ⟨_, rfl⟩
      replace hu_7 : (0 ≤ v_8.toInt ∧ v_8.toInt ≤ 12) := hu_7
      have q_v_8 := hu_7
      replace hP : va_P (dC, dI) vwCl [(ga_most, .inl (cJ, 80, .inr (.inl gc_most))), (gh, .inr (5, [.int g_acts, g_kind, g_na, g_nb, g_nc, g_nd, g_ne, g_dropped, g_live, g_low, g_high, .ref ga_sites, g_nulls, g_there, g_lanes, g_least, .ref ga_most, g_placeLow, g_placeHigh, g_reached, g_mayThrow, .int g_status, .int g_hasRun, .int g_threw, .int g_whereThrown, g_value, g_means, g_laneOf, g_sizeOf, g_cells, g_copied, .long g_state, .long g_joinedLow, .long g_joinedHigh, g_keptLow, g_keptHigh])), (ga_sites, .inl (cJ, 12, .inr (.inl gc_sites)))] H_7 := hP1
      replace hD : va_D A [(ga_most, .inl (cJ, 80, .inr (.inl gc_most))), (gh, .inr (5, [.int g_acts, g_kind, g_na, g_nb, g_nc, g_nd, g_ne, g_dropped, g_live, g_low, g_high, .ref ga_sites, g_nulls, g_there, g_lanes, g_least, .ref ga_most, g_placeLow, g_placeHigh, g_reached, g_mayThrow, .int g_status, .int g_hasRun, .int g_threw, .int g_whereThrown, g_value, g_means, g_laneOf, g_sizeOf, g_cells, g_copied, .long g_state, .long g_joinedLow, .long g_joinedHigh, g_keptLow, g_keptHigh])), (ga_sites, .inl (cJ, 12, .inr (.inl gc_sites)))] := hD1
      replace hS := hS1
      clear hP1 hD1 hS1
      replace hl : lv_has ls1 5 [(4, .int v_2), (2, .long v_3), (0, .ref gh), (1, .int ra)] := hl1
      clear hl1
      refine lv_lstore_n (lv' := [(2, .long v_8), (4, .int v_2), (0, .ref gh), (1, .int ra)]) hx hb dX5_mostLength_45 rfl hl (by decide) rfl (fun ls1 hl1 => ?_)
      replace hl := hl1; clear hl1
      refine sf_iinc hx hb dX5_mostLength_46 hl (k := 1) (x := v_2) (w := 1) rfl (by decide) (by decide) ⟨by omega, by omega⟩ (fun v_9 q_v_9 ls1 hl1 => ?_)
      replace hl : lv_has ls1 5 [(4, .int v_9), (2, .long v_8), (0, .ref gh), (1, .int ra)] := hl1
      clear hl1
      refine lv_goto (tgt := 5) hx hb dX5_mostLength_49 (by decide) ?_
      exact ih_1 (v_9, v_8) (show (0 ≤ v_9.toInt ∧ v_9.toInt ≤ 40) ∧ (0 ≤ v_8.toInt ∧ v_8.toInt ≤ 12) from ⟨⟨by omega, by omega⟩, ⟨by omega, by omega⟩⟩) (by show (40 - v_9.toInt).toNat < (40 - v_2.toInt).toNat; omega) _ _ _ (hP.sub [1, 2, 0] rfl) (hD.sub [1, 2, 0] (by decide) rfl) hS (lv_sub hl [0, 1, 2, 3] rfl)
    · -- ahead of 45
      refine lv_if_eq (tgt := 44) hx hb dX5_mostLength_19 (by decide) (fun c_10 => ?_) (fun c_10 => ?_)
      · -- yes
        have k_10 : r_5.toInt = (0 : Int32).toInt := ci_eq c_10
        refine lv_lload_n hx hb dX5_mostLength_44 rfl (lv_at hl 1 rfl) ?_
        exact jn_7 v_3 (show (0 ≤ v_3.toInt ∧ v_3.toInt ≤ 12) from ⟨by omega, by omega⟩) _ _ _ (hP.sub [0, 1, 2] rfl) (hD.sub [0, 1, 2] (by decide) rfl) hS (lv_sub hl [0, 1, 2, 3] rfl)
      · -- no
        have k_10 : ¬ r_5.toInt = (0 : Int32).toInt := ci_ne c_10
        refine lv_aload_n hx hb dX5_mostLength_22 rfl (lv_at hl 2 rfl) ?_
        refine va_get (D := (dC, dI)) (ci := 5) (v := .ref ga_most) (C := RX5) (T := TX5) (N := 36) hx hb hts inv_X5_mostLength_X5 hown hK hP 1 rfl rfl 16 (by decide) (hts (.fieldLink RX5 57 "ArraySegmentsModel" "most" "[J") (List.mem_of_getElem? (i := 5) rfl)) (fun _ h9 => h9) rfl dX5_mostLength_23 ?_
        refine lv_iload hx hb dX5_mostLength_26 (lv_at hl 0 rfl) ?_
        refine sf_lald l12 hx hb hK hP 0 1 rfl rfl h_gc_most (vp_in_iff.mpr ⟨by omega, by omega⟩) dX5_mostLength_28 (fun v_11 q_v_11 e_v_11 => ?_)
        have et_v_11 : v_11.toInt = (gc_most (v_2).toNatClampNeg).toInt := by rw [e_v_11]
        refine lv_lload_n hx hb dX5_mostLength_29 rfl (lv_at hl 1 rfl) ?_
        refine W.lcmp hx hb dX5_mostLength_30 ?_
        refine lv_if_le (tgt := 44) hx hb dX5_mostLength_31 (by decide) (fun c_12 => ?_) (fun c_12 => ?_)
        · -- yes
          have k_12 : v_11.toInt ≤ v_3.toInt := lc_le c_12
          refine lv_lload_n hx hb dX5_mostLength_44 rfl (lv_at hl 1 rfl) ?_
          exact jn_7 v_3 (show (0 ≤ v_3.toInt ∧ v_3.toInt ≤ 12) from ⟨by omega, by omega⟩) _ _ _ (hP.sub [0, 1, 2] rfl) (hD.sub [0, 1, 2] (by decide) rfl) hS (lv_sub hl [0, 1, 2, 3] rfl)
        · -- no
          have k_12 : v_3.toInt < v_11.toInt := lc_nle c_12
          refine lv_aload_n hx hb dX5_mostLength_34 rfl (lv_at hl 2 rfl) ?_
          refine va_get (D := (dC, dI)) (ci := 5) (v := .ref ga_most) (C := RX5) (T := TX5) (N := 36) hx hb hts inv_X5_mostLength_X5 hown hK hP 1 rfl rfl 16 (by decide) (hts (.fieldLink RX5 57 "ArraySegmentsModel" "most" "[J") (List.mem_of_getElem? (i := 5) rfl)) (fun _ h9 => h9) rfl dX5_mostLength_35 ?_
          refine lv_iload hx hb dX5_mostLength_38 (lv_at hl 0 rfl) ?_
          refine sf_lald l12 hx hb hK hP 0 1 rfl rfl h_gc_most (vp_in_iff.mpr ⟨by omega, by omega⟩) dX5_mostLength_40 (fun v_13 q_v_13 e_v_13 => ?_)
          have et_v_13 : v_13.toInt = (gc_most (v_2).toNatClampNeg).toInt := by rw [e_v_13]
          refine lv_goto (tgt := 45) hx hb dX5_mostLength_41 (by decide) ?_
          exact jn_7 v_13 (show (0 ≤ v_13.toInt ∧ v_13.toInt ≤ 12) from ⟨by omega, by omega⟩) _ _ _ (hP.sub [0, 1, 2] rfl) (hD.sub [0, 1, 2] (by decide) rfl) hS (lv_sub hl [0, 1, 2, 3] rfl)

def v_X5_lanesOf : List Cond := .code yX5_lanesOf cX5_lanesOf 4 (some .int) :: ([.methodLink RX5 169 yX5_has, .instanceMethod yX5_has, .selects RX5 yX5_has yX5_has, .initialized RX5, .fieldLink RX5 51 "ArraySegmentsModel" "lanes" "[I"] ++ (wsX50 ++ (v_X5_has)))
theorem inv_X5_lanesOf_X5 : ∀ w ∈ wsX50, w ∈ v_X5_lanesOf := fun _ h => List.mem_cons_of_mem _ (List.mem_append_right _ (List.mem_append_left _ h))
theorem im_X5_lanesOf_X5_has : ∀ w ∈ v_X5_has, w ∈ v_X5_lanesOf := fun _ h => List.mem_cons_of_mem _ (List.mem_append_right _ (List.mem_append_right _ (h)))
set_option maxRecDepth 20000 in
theorem gd_X5_lanesOf : gdL v_X5_lanesOf := gdC (gdW (by decide +kernel)) (gdA (gdW (by decide +kernel)) (gdA gd_wsX50 gd_X5_has))
set_option maxRecDepth 20000 in
theorem h_X5_lanesOf_X5_has_169 : GoodIn v_X5_lanesOf (wsV RX5 169 RX5 yX5_has v_X5_has) := gdI [1, 2, 3, 4] rfl (by decide +kernel) (im_X5_lanesOf_X5_has) gd_X5_has
abbrev sw_X5_lanesOf (cI cJ cZ : ClassId) (gh : Nat) (g_acts : Int32) (g_kind : Value) (g_na : Value) (g_nb : Value) (g_nc : Value) (g_nd : Value) (g_ne : Value) (g_dropped : Value) (g_live : Value) (g_low : Value) (g_high : Value) (ga_sites : Nat) (g_nulls : Value) (g_there : Value) (ga_lanes : Nat) (g_least : Value) (g_most : Value) (g_placeLow : Value) (g_placeHigh : Value) (g_reached : Value) (g_mayThrow : Value) (g_status : Int32) (g_hasRun : Int32) (g_threw : Int32) (g_whereThrown : Int32) (g_value : Value) (g_means : Value) (g_laneOf : Value) (g_sizeOf : Value) (g_cells : Value) (g_copied : Value) (g_state : Int64) (g_joinedLow : Int64) (g_joinedHigh : Int64) (g_keptLow : Value) (g_keptHigh : Value) (gc_sites : Nat → Int64) (gc_lanes : Nat → Int32) (ra : Int32) : va_W := [(gh, .inr (5, [.int g_acts, g_kind, g_na, g_nb, g_nc, g_nd, g_ne, g_dropped, g_live, g_low, g_high, .ref ga_sites, g_nulls, g_there, .ref ga_lanes, g_least, g_most, g_placeLow, g_placeHigh, g_reached, g_mayThrow, .int g_status, .int g_hasRun, .int g_threw, .int g_whereThrown, g_value, g_means, g_laneOf, g_sizeOf, g_cells, g_copied, .long g_state, .long g_joinedLow, .long g_joinedHigh, g_keptLow, g_keptHigh])), (ga_sites, .inl (cJ, 12, .inr (.inl gc_sites))), (ga_lanes, .inl (cI, 80, .inl gc_lanes))]
set_option maxHeartbeats 8000000 in
set_option maxRecDepth 100000 in
theorem s_X5_lanesOf (l : Launch) (dC : Nat → ClassId) (dI : Nat → Nat → Nat) (cI cJ cZ : ClassId) (gh : Nat) (g_acts : Int32) (g_kind : Value) (g_na : Value) (g_nb : Value) (g_nc : Value) (g_nd : Value) (g_ne : Value) (g_dropped : Value) (g_live : Value) (g_low : Value) (g_high : Value) (ga_sites : Nat) (g_nulls : Value) (g_there : Value) (ga_lanes : Nat) (g_least : Value) (g_most : Value) (g_placeLow : Value) (g_placeHigh : Value) (g_reached : Value) (g_mayThrow : Value) (g_status : Int32) (g_hasRun : Int32) (g_threw : Int32) (g_whereThrown : Int32) (g_value : Value) (g_means : Value) (g_laneOf : Value) (g_sizeOf : Value) (g_cells : Value) (g_copied : Value) (g_state : Int64) (g_joinedLow : Int64) (g_joinedHigh : Int64) (g_keptLow : Value) (g_keptHigh : Value) (gc_sites : Nat → Int64) (gc_lanes : Nat → Int32) (ra : Int32) (sz : Nat) (q_g_hasRun : kZ g_hasRun) (hy_ra : V6 ra) : Met l yX5_lanesOf v_X5_lanesOf ({ frames := 1, cells := 0, slots := 0, locals := 22 }) (va_Pc [.ref gh, .int ra] (cPre dC dI cI cJ cZ sz (sw_X5_lanesOf cI cJ cZ gh g_acts g_kind g_na g_nb g_nc g_nd g_ne g_dropped g_live g_low g_high ga_sites g_nulls g_there ga_lanes g_least g_most g_placeLow g_placeHigh g_reached g_mayThrow g_status g_hasRun g_threw g_whereThrown g_value g_means g_laneOf g_sizeOf g_cells g_copied g_state g_joinedLow g_joinedHigh g_keptLow g_keptHigh gc_sites gc_lanes ra))) (va_Qi (fun (r : Int32) (u : Unit) => True) (fun (u : Unit) => cPost dC dI cI cJ cZ (va_A (sw_X5_lanesOf cI cJ cZ gh g_acts g_kind g_na g_nb g_nc g_nd g_ne g_dropped g_live g_low g_high ga_sites g_nulls g_there ga_lanes g_least g_most g_placeLow g_placeHigh g_reached g_mayThrow g_status g_hasRun g_threw g_whereThrown g_value g_means g_laneOf g_sizeOf g_cells g_copied g_state g_joinedLow g_joinedHigh g_keptLow g_keptHigh gc_sites gc_lanes ra) sz) [(gh, .inr (5, [.int g_acts, g_kind, g_na, g_nb, g_nc, g_nd, g_ne, g_dropped, g_live, g_low, g_high, .ref ga_sites, g_nulls, g_there, .ref ga_lanes, g_least, g_most, g_placeLow, g_placeHigh, g_reached, g_mayThrow, .int g_status, .int g_hasRun, .int g_threw, .int g_whereThrown, g_value, g_means, g_laneOf, g_sizeOf, g_cells, g_copied, .long g_state, .long g_joinedLow, .long g_joinedHigh, g_keptLow, g_keptHigh])), (ga_sites, .inl (cJ, 12, .inr (.inl gc_sites))), (ga_lanes, .inl (cI, 80, .inl gc_lanes))]) (va_A (sw_X5_lanesOf cI cJ cZ gh g_acts g_kind g_na g_nb g_nc g_nd g_ne g_dropped g_live g_low g_high ga_sites g_nulls g_there ga_lanes g_least g_most g_placeLow g_placeHigh g_reached g_mayThrow g_status g_hasRun g_threw g_whereThrown g_value g_means g_laneOf g_sizeOf g_cells g_copied g_state g_joinedLow g_joinedHigh g_keptLow g_keptHigh gc_sites gc_lanes ra) sz)) 0 0 (va_A (sw_X5_lanesOf cI cJ cZ gh g_acts g_kind g_na g_nb g_nc g_nd g_ne g_dropped g_live g_low g_high ga_sites g_nulls g_there ga_lanes g_least g_most g_placeLow g_placeHigh g_reached g_mayThrow g_status g_hasRun g_threw g_whereThrown g_value g_means g_laneOf g_sizeOf g_cells g_copied g_state g_joinedLow g_joinedHigh g_keptLow g_keptHigh gc_sites gc_lanes ra) sz) := by
  refine Met.ofW (cc := cX5_lanesOf) (maxL := 4) (ret := (some .int)) (by decide) rfl ?_
  intro p e s m args below meth c s₁ B hml hv
  obtain ⟨rfl, hsz, hP, hK, hD0, hN⟩ := hv
  have hx := B.exec
  have hb := B.bytes
  have hr := B.returns
  have hts := atoms_spec (ws := v_X5_lanesOf) B.pre
  have hown : s.vm.findClass RX5 = some m.cls := findClass_of_methodNamed B.named
  have hlocks := B.notSynchronized
  subst hsz
  have hD := hD0.self (sz := s.heap.size)
  generalize hAe : va_A (sw_X5_lanesOf cI cJ cZ gh g_acts g_kind g_na g_nb g_nc g_nd g_ne g_dropped g_live g_low g_high ga_sites g_nulls g_there ga_lanes g_least g_most g_placeLow g_placeHigh g_reached g_mayThrow g_status g_hasRun g_threw g_whereThrown g_value g_means g_laneOf g_sizeOf g_cells g_copied g_state g_joinedLow g_joinedHigh g_keptLow g_keptHigh gc_sites gc_lanes ra) s.heap.size = A at hD ⊢
  have hA : ∀ q : Nat, s.heap.size ≤ q → A q := fun q h => by rw [← hAe]; exact Or.inr h
  clear hAe hD0
  have hS : va_S A s.heap s.heap [] := va_S.rf
  replace hP : va_P (dC, dI) vwCl [(gh, .inr (5, [.int g_acts, g_kind, g_na, g_nb, g_nc, g_nd, g_ne, g_dropped, g_live, g_low, g_high, .ref ga_sites, g_nulls, g_there, .ref ga_lanes, g_least, g_most, g_placeLow, g_placeHigh, g_reached, g_mayThrow, .int g_status, .int g_hasRun, .int g_threw, .int g_whereThrown, g_value, g_means, g_laneOf, g_sizeOf, g_cells, g_copied, .long g_state, .long g_joinedLow, .long g_joinedHigh, g_keptLow, g_keptHigh])), (ga_sites, .inl (cJ, 12, .inr (.inl gc_sites))), (ga_lanes, .inl (cI, 80, .inl gc_lanes))] s.heap := hP
  replace hD : va_D A [(gh, .inr (5, [.int g_acts, g_kind, g_na, g_nb, g_nc, g_nd, g_ne, g_dropped, g_live, g_low, g_high, .ref ga_sites, g_nulls, g_there, .ref ga_lanes, g_least, g_most, g_placeLow, g_placeHigh, g_reached, g_mayThrow, .int g_status, .int g_hasRun, .int g_threw, .int g_whereThrown, g_value, g_means, g_laneOf, g_sizeOf, g_cells, g_copied, .long g_state, .long g_joinedLow, .long g_joinedHigh, g_keptLow, g_keptHigh])), (ga_sites, .inl (cJ, 12, .inr (.inl gc_sites))), (ga_lanes, .inl (cI, 80, .inl gc_lanes))] := hD
  have hl := lv_entry ([.ref gh, .int ra]) (n := 4) (Nat.le_of_ble_eq_true rfl)
  rw [lg_entry_eq]
  generalize (lg_sl ([.ref gh, .int ra]) ++ List.replicate (4 - (lg_sl ([.ref gh, .int ra])).length) Slot.unset).toArray = ls at hl ⊢
  replace hl : lv_has ls 4 [(0, .ref gh), (1, .int ra)] := hl
  have z_0 : (0 : Int32).toInt = 0 := by decide
  have z_1 : (1 : Int32).toInt = 1 := by decide
  have z_40 : (40 : Int32).toInt = 40 := by decide
  refine lv_iconst (v := 0) hx hb dX5_lanesOf_0 (by decide) ?_
  refine lv_istore_n (lv' := [(2, .int 0), (0, .ref gh), (1, .int ra)]) hx hb dX5_lanesOf_1 rfl hl (by decide) rfl (fun ls1 hl1 => ?_)
  replace hl := hl1; clear hl1
  refine lv_iconst (v := 0) hx hb dX5_lanesOf_2 (by decide) ?_
  refine lv_istore_n (lv' := [(3, .int 0), (2, .int 0), (0, .ref gh), (1, .int ra)]) hx hb dX5_lanesOf_3 rfl hl (by decide) rfl (fun ls1 hl1 => ?_)
  replace hl := hl1; clear hl1
  refine my_wloop (S := Int32 × Int32) (fun u => (0 ≤ (u.1).toInt ∧ (u.1).toInt ≤ 40)) (fun u => (40 - (u.1).toInt).toNat) (fun u => [(gh, .inr (5, [.int g_acts, g_kind, g_na, g_nb, g_nc, g_nd, g_ne, g_dropped, g_live, g_low, g_high, .ref ga_sites, g_nulls, g_there, .ref ga_lanes, g_least, g_most, g_placeLow, g_placeHigh, g_reached, g_mayThrow, .int g_status, .int g_hasRun, .int g_threw, .int g_whereThrown, g_value, g_means, g_laneOf, g_sizeOf, g_cells, g_copied, .long g_state, .long g_joinedLow, .long g_joinedHigh, g_keptLow, g_keptHigh])), (ga_sites, .inl (cJ, 12, .inr (.inl gc_sites))), (ga_lanes, .inl (cI, 80, .inl gc_lanes))]) (fun u => [(3, .int (u.1)), (2, .int (u.2)), (0, .ref gh), (1, .int ra)]) (H0 := s.heap) (A := A) (D := (dC, dI)) (cl := vwCl) ((0 : Int32), (0 : Int32)) (show (0 ≤ (0 : Int32).toInt ∧ (0 : Int32).toInt ≤ 40) from ⟨by omega, by omega⟩) (by exact hP) (by exact hD) hS (by exact hl) (fun u_1 hu_1 ih_1 H_1 locs_1 ls1 hP1 hD1 hS1 hl1 => ?_)
  obtain ⟨v_2, v_3⟩ := u_1
  replace hu_1 : (0 ≤ v_2.toInt ∧ v_2.toInt ≤ 40) := hu_1
  have q_v_2 := hu_1
  replace hP : va_P (dC, dI) vwCl [(gh, .inr (5, [.int g_acts, g_kind, g_na, g_nb, g_nc, g_nd, g_ne, g_dropped, g_live, g_low, g_high, .ref ga_sites, g_nulls, g_there, .ref ga_lanes, g_least, g_most, g_placeLow, g_placeHigh, g_reached, g_mayThrow, .int g_status, .int g_hasRun, .int g_threw, .int g_whereThrown, g_value, g_means, g_laneOf, g_sizeOf, g_cells, g_copied, .long g_state, .long g_joinedLow, .long g_joinedHigh, g_keptLow, g_keptHigh])), (ga_sites, .inl (cJ, 12, .inr (.inl gc_sites))), (ga_lanes, .inl (cI, 80, .inl gc_lanes))] H_1 := hP1
  replace hD : va_D A [(gh, .inr (5, [.int g_acts, g_kind, g_na, g_nb, g_nc, g_nd, g_ne, g_dropped, g_live, g_low, g_high, .ref ga_sites, g_nulls, g_there, .ref ga_lanes, g_least, g_most, g_placeLow, g_placeHigh, g_reached, g_mayThrow, .int g_status, .int g_hasRun, .int g_threw, .int g_whereThrown, g_value, g_means, g_laneOf, g_sizeOf, g_cells, g_copied, .long g_state, .long g_joinedLow, .long g_joinedHigh, g_keptLow, g_keptHigh])), (ga_sites, .inl (cJ, 12, .inr (.inl gc_sites))), (ga_lanes, .inl (cI, 80, .inl gc_lanes))] := hD1
  replace hS := hS1
  clear hP1 hD1 hS1
  replace hl : lv_has ls1 4 [(3, .int v_2), (2, .int v_3), (0, .ref gh), (1, .int ra)] := hl1
  clear hl1
  refine lv_iload_n hx hb dX5_lanesOf_4 rfl (lv_at hl 0 rfl) ?_
  refine lv_bipush (v := 40) hx hb dX5_lanesOf_5 (by decide) ?_
  refine lv_icmp_ge (tgt := 38) hx hb dX5_lanesOf_7 (by decide) (fun c_4 => ?_) (fun c_4 => ?_)
  · -- yes
    have k_4 : (40 : Int32).toInt ≤ v_2.toInt := ci_ge c_4
    refine lv_iload_n hx hb dX5_lanesOf_38 rfl (lv_at hl 1 rfl) ?_
    have hP9 := hP.sub (ws' := [(gh, .inr (5, [.int g_acts, g_kind, g_na, g_nb, g_nc, g_nd, g_ne, g_dropped, g_live, g_low, g_high, .ref ga_sites, g_nulls, g_there, .ref ga_lanes, g_least, g_most, g_placeLow, g_placeHigh, g_reached, g_mayThrow, .int g_status, .int g_hasRun, .int g_threw, .int g_whereThrown, g_value, g_means, g_laneOf, g_sizeOf, g_cells, g_copied, .long g_state, .long g_joinedLow, .long g_joinedHigh, g_keptLow, g_keptHigh])), (ga_sites, .inl (cJ, 12, .inr (.inl gc_sites))), (ga_lanes, .inl (cI, 80, .inl gc_lanes))]) [0, 1, 2] rfl
    have hD9 := hD.sub (ws' := [(gh, .inr (5, [.int g_acts, g_kind, g_na, g_nb, g_nc, g_nd, g_ne, g_dropped, g_live, g_low, g_high, .ref ga_sites, g_nulls, g_there, .ref ga_lanes, g_least, g_most, g_placeLow, g_placeHigh, g_reached, g_mayThrow, .int g_status, .int g_hasRun, .int g_threw, .int g_whereThrown, g_value, g_means, g_laneOf, g_sizeOf, g_cells, g_copied, .long g_state, .long g_joinedLow, .long g_joinedHigh, g_keptLow, g_keptHigh])), (ga_sites, .inl (cJ, 12, .inr (.inl gc_sites))), (ga_lanes, .inl (cI, 80, .inl gc_lanes))]) [0, 1, 2] (by decide) rfl
    exact W.iret (v := v_3) hx hb hr (fun t ht hW => ⟨⟨v_3, (), rfl, trivial, by rw [ht]; exact hP9, va_K.moved hW.alike hK, hD9⟩, hS.F ht⟩) hS.2.2 dX5_lanesOf_39
  · -- no
    have k_4 : v_2.toInt < (40 : Int32).toInt := ci_nge c_4
    refine lv_iload_n hx hb dX5_lanesOf_10 rfl (lv_at hl 1 rfl) ?_
    refine lv_aload_n hx hb dX5_lanesOf_11 rfl (lv_at hl 2 rfl) ?_
    refine lv_iload_n hx hb dX5_lanesOf_12 rfl (lv_at hl 3 rfl) ?_
    refine lv_iload_n hx hb dX5_lanesOf_13 rfl (lv_at hl 0 rfl) ?_
    have hPc := hP.sub (ws' := [(gh, .inr (5, [.int g_acts, g_kind, g_na, g_nb, g_nc, g_nd, g_ne, g_dropped, g_live, g_low, g_high, .ref ga_sites, g_nulls, g_there, .ref ga_lanes, g_least, g_most, g_placeLow, g_placeHigh, g_reached, g_mayThrow, .int g_status, .int g_hasRun, .int g_threw, .int g_whereThrown, g_value, g_means, g_laneOf, g_sizeOf, g_cells, g_copied, .long g_state, .long g_joinedLow, .long g_joinedHigh, g_keptLow, g_keptHigh])), (ga_sites, .inl (cJ, 12, .inr (.inl gc_sites)))]) [0, 1] rfl
    have hDc := hD.sub (ws' := [(gh, .inr (5, [.int g_acts, g_kind, g_na, g_nb, g_nc, g_nd, g_ne, g_dropped, g_live, g_low, g_high, .ref ga_sites, g_nulls, g_there, .ref ga_lanes, g_least, g_most, g_placeLow, g_placeHigh, g_reached, g_mayThrow, .int g_status, .int g_hasRun, .int g_threw, .int g_whereThrown, g_value, g_means, g_laneOf, g_sizeOf, g_cells, g_copied, .long g_state, .long g_joinedLow, .long g_joinedHigh, g_keptLow, g_keptHigh])), (ga_sites, .inl (cJ, 12, .inr (.inl gc_sites)))]) [0, 1] (by decide) rfl
    have hFc := va_free (wc := [(gh, .inr (5, [.int g_acts, g_kind, g_na, g_nb, g_nc, g_nd, g_ne, g_dropped, g_live, g_low, g_high, .ref ga_sites, g_nulls, g_there, .ref ga_lanes, g_least, g_most, g_placeLow, g_placeHigh, g_reached, g_mayThrow, .int g_status, .int g_hasRun, .int g_threw, .int g_whereThrown, g_value, g_means, g_laneOf, g_sizeOf, g_cells, g_copied, .long g_state, .long g_joinedLow, .long g_joinedHigh, g_keptLow, g_keptHigh])), (ga_sites, .inl (cJ, 12, .inr (.inl gc_sites)))]) hD hS hA [0, 1] rfl
    refine va_calli (va_runV (As := [.int ra, .int v_2]) (rest := [.int v_3]) ⟨hx, hb, hml, hown, hts⟩ (s_X5_has l dC dI cI cJ cZ gh g_acts g_kind g_na g_nb g_nc g_nd g_ne g_dropped g_live g_low g_high ga_sites g_nulls g_there (.ref ga_lanes) g_least g_most g_placeLow g_placeHigh g_reached g_mayThrow g_status g_hasRun g_threw g_whereThrown g_value g_means g_laneOf g_sizeOf g_cells g_copied g_state g_joinedLow g_joinedHigh g_keptLow g_keptHigh gc_sites ra v_2 H_1.size q_g_hasRun (by first | assumption | omega)) (cwV 2 hts h_X5_lanesOf_X5_has_169 rfl rfl rfl (by decide +kernel) ⟨Nat.le_of_ble_eq_true rfl, Nat.le_of_ble_eq_true rfl⟩) ⟨cPre_blind, va_recv hK hPc (ci := 5) (q0 := 0) rfl rfl, cPre_of hK hN hPc hDc⟩ rfl rfl hl.1 rfl (lv_room (Nat.le_of_ble_eq_true rfl)) dX5_lanesOf_14 ⟨Nat.le_of_ble_eq_true rfl, Nat.le_of_ble_eq_true rfl⟩) hS (fun q _ h => hFc q h) hFc (fun r_5 u_5 t_5 H_5 locs_5 ht hvm hw_5 hB hz1 hk1 hS1 => ?_)
    obtain ⟨hP1, hK1, hD1⟩ := hB
    rw [ht] at hP1
    obtain ⟨hP2, hD2⟩ := va_join (wr := [(ga_lanes, .inl (cI, 80, .inl gc_lanes))]) (w1 := [(gh, .inr (5, [.int g_acts, g_kind, g_na, g_nb, g_nc, g_nd, g_ne, g_dropped, g_live, g_low, g_high, .ref ga_sites, g_nulls, g_there, .ref ga_lanes, g_least, g_most, g_placeLow, g_placeHigh, g_reached, g_mayThrow, .int g_status, .int g_hasRun, .int g_threw, .int g_whereThrown, g_value, g_means, g_laneOf, g_sizeOf, g_cells, g_copied, .long g_state, .long g_joinedLow, .long g_joinedHigh, g_keptLow, g_keptHigh])), (ga_sites, .inl (cJ, 12, .inr (.inl gc_sites)))]) hP hD [0, 1] [2] rfl rfl (by decide) (by decide) hk1 hFc hP1 hD1
    clear hPc hDc hFc hP1 hD1 hK1 hk1 hz1 hvm ht
    replace hP : va_P (dC, dI) vwCl [(ga_lanes, .inl (cI, 80, .inl gc_lanes)), (gh, .inr (5, [.int g_acts, g_kind, g_na, g_nb, g_nc, g_nd, g_ne, g_dropped, g_live, g_low, g_high, .ref ga_sites, g_nulls, g_there, .ref ga_lanes, g_least, g_most, g_placeLow, g_placeHigh, g_reached, g_mayThrow, .int g_status, .int g_hasRun, .int g_threw, .int g_whereThrown, g_value, g_means, g_laneOf, g_sizeOf, g_cells, g_copied, .long g_state, .long g_joinedLow, .long g_joinedHigh, g_keptLow, g_keptHigh])), (ga_sites, .inl (cJ, 12, .inr (.inl gc_sites)))] H_5 := hP2
    replace hD : va_D A [(ga_lanes, .inl (cI, 80, .inl gc_lanes)), (gh, .inr (5, [.int g_acts, g_kind, g_na, g_nb, g_nc, g_nd, g_ne, g_dropped, g_live, g_low, g_high, .ref ga_sites, g_nulls, g_there, .ref ga_lanes, g_least, g_most, g_placeLow, g_placeHigh, g_reached, g_mayThrow, .int g_status, .int g_hasRun, .int g_threw, .int g_whereThrown, g_value, g_means, g_laneOf, g_sizeOf, g_cells, g_copied, .long g_state, .long g_joinedLow, .long g_joinedHigh, g_keptLow, g_keptHigh])), (ga_sites, .inl (cJ, 12, .inr (.inl gc_sites)))] := hD2
    replace hS := hS1
    clear hP2 hD2 hS1
    replace hw_5 : (kZ r_5) := hw_5
    have q_r_5 := hw_5
    refine my_join (S := Int32) (fun u => True) (fun u => [(ga_lanes, .inl (cI, 80, .inl gc_lanes)), (gh, .inr (5, [.int g_acts, g_kind, g_na, g_nb, g_nc, g_nd, g_ne, g_dropped, g_live, g_low, g_high, .ref ga_sites, g_nulls, g_there, .ref ga_lanes, g_least, g_most, g_placeLow, g_placeHigh, g_reached, g_mayThrow, .int g_status, .int g_hasRun, .int g_threw, .int g_whereThrown, g_value, g_means, g_laneOf, g_sizeOf, g_cells, g_copied, .long g_state, .long g_joinedLow, .long g_joinedHigh, g_keptLow, g_keptHigh])), (ga_sites, .inl (cJ, 12, .inr (.inl gc_sites)))]) (fun u => [(3, .int v_2), (2, .int v_3), (0, .ref gh), (1, .int ra)]) (fun u => [.int (u), .int v_3]) (nL := 4) (H0 := s.heap) (A := A) (D := (dC, dI)) (cl := vwCl) 30 (fun u_7 hu_7 H_7 locs_7 ls1 hP1 hD1 hS1 hl1 => ?_) (fun jn_7 => ?_)
    · -- behind 30
      obtain ⟨v_8, rfl⟩ : ∃ z, z = u_7 := ⟨_, rfl⟩
      replace hP : va_P (dC, dI) vwCl [(ga_lanes, .inl (cI, 80, .inl gc_lanes)), (gh, .inr (5, [.int g_acts, g_kind, g_na, g_nb, g_nc, g_nd, g_ne, g_dropped, g_live, g_low, g_high, .ref ga_sites, g_nulls, g_there, .ref ga_lanes, g_least, g_most, g_placeLow, g_placeHigh, g_reached, g_mayThrow, .int g_status, .int g_hasRun, .int g_threw, .int g_whereThrown, g_value, g_means, g_laneOf, g_sizeOf, g_cells, g_copied, .long g_state, .long g_joinedLow, .long g_joinedHigh, g_keptLow, g_keptHigh])), (ga_sites, .inl (cJ, 12, .inr (.inl gc_sites)))] H_7 := hP1
      replace hD : va_D A [(ga_lanes, .inl (cI, 80, .inl gc_lanes)), (gh, .inr (5, [.int g_acts, g_kind, g_na, g_nb, g_nc, g_nd, g_ne, g_dropped, g_live, g_low, g_high, .ref ga_sites, g_nulls, g_there, .ref ga_lanes, g_least, g_most, g_placeLow, g_placeHigh, g_reached, g_mayThrow, .int g_status, .int g_hasRun, .int g_threw, .int g_whereThrown, g_value, g_means, g_laneOf, g_sizeOf, g_cells, g_copied, .long g_state, .long g_joinedLow, .long g_joinedHigh, g_keptLow, g_keptHigh])), (ga_sites, .inl (cJ, 12, .inr (.inl gc_sites)))] := hD1
      replace hS := hS1
      clear hP1 hD1 hS1
      replace hl : lv_has ls1 4 [(3, .int v_2), (2, .int v_3), (0, .ref gh), (1, .int ra)] := hl1
      clear hl1
      refine lv_ior hx hb dX5_lanesOf_30 ?_
      refine lv_topi (fun v_9 e_v_9 => ?_)
      refine lv_istore_n (lv' := [(2, .int v_9), (3, .int v_2), (0, .ref gh), (1, .int ra)]) hx hb dX5_lanesOf_31 rfl hl (by decide) rfl (fun ls1 hl1 => ?_)
      replace hl := hl1; clear hl1
      refine sf_iinc hx hb dX5_lanesOf_32 hl (k := 1) (x := v_2) (w := 1) rfl (by decide) (by decide) ⟨by omega, by omega⟩ (fun v_10 q_v_10 ls1 hl1 => ?_)
      replace hl : lv_has ls1 4 [(3, .int v_10), (2, .int v_9), (0, .ref gh), (1, .int ra)] := hl1
      clear hl1
      refine lv_goto (tgt := 4) hx hb dX5_lanesOf_35 (by decide) ?_
      exact ih_1 (v_10, v_9) (show (0 ≤ v_10.toInt ∧ v_10.toInt ≤ 40) from ⟨by omega, by omega⟩) (by show (40 - v_10.toInt).toNat < (40 - v_2.toInt).toNat; omega) _ _ _ (hP.sub [1, 2, 0] rfl) (hD.sub [1, 2, 0] (by decide) rfl) hS (lv_sub hl [0, 1, 2, 3] rfl)
    · -- ahead of 30
      refine lv_if_eq (tgt := 29) hx hb dX5_lanesOf_17 (by decide) (fun c_11 => ?_) (fun c_11 => ?_)
      · -- yes
        have k_11 : r_5.toInt = (0 : Int32).toInt := ci_eq c_11
        refine lv_iconst (v := 0) hx hb dX5_lanesOf_29 (by decide) ?_
        exact jn_7 (0 : Int32) (show True from trivial) _ _ _ (hP.sub [0, 1, 2] rfl) (hD.sub [0, 1, 2] (by decide) rfl) hS (lv_sub hl [0, 1, 2, 3] rfl)
      · -- no
        have k_11 : ¬ r_5.toInt = (0 : Int32).toInt := ci_ne c_11
        refine lv_aload_n hx hb dX5_lanesOf_20 rfl (lv_at hl 2 rfl) ?_
        refine va_get (D := (dC, dI)) (ci := 5) (v := .ref ga_lanes) (C := RX5) (T := TX5) (N := 36) hx hb hts inv_X5_lanesOf_X5 hown hK hP 1 rfl rfl 14 (by decide) (hts (.fieldLink RX5 51 "ArraySegmentsModel" "lanes" "[I") (List.mem_of_getElem? (i := 5) rfl)) (fun _ h9 => h9) rfl dX5_lanesOf_21 ?_
        refine lv_iload_n hx hb dX5_lanesOf_24 rfl (lv_at hl 0 rfl) ?_
        refine sf_iald kT hx hb hK hP 0 0 rfl rfl (fun _ => trivial) (vp_in_iff.mpr ⟨by omega, by omega⟩) dX5_lanesOf_25 (fun v_12 q_v_12 e_v_12 => ?_)
        refine lv_goto (tgt := 30) hx hb dX5_lanesOf_26 (by decide) ?_
        exact jn_7 v_12 (show True from trivial) _ _ _ (hP.sub [0, 1, 2] rfl) (hD.sub [0, 1, 2] (by decide) rfl) hS (lv_sub hl [0, 1, 2, 3] rfl)

def v_X5_only : List Cond := .code yX5_only cX5_only 5 (some .int) :: ([.methodLink RX5 169 yX5_has, .instanceMethod yX5_has, .selects RX5 yX5_has yX5_has, .initialized RX5] ++ (v_X5_has))
theorem im_X5_only_X5_has : ∀ w ∈ v_X5_has, w ∈ v_X5_only := fun _ h => List.mem_cons_of_mem _ (List.mem_append_right _ (h))
set_option maxRecDepth 20000 in
theorem gd_X5_only : gdL v_X5_only := gdC (gdW (by decide +kernel)) (gdA (gdW (by decide +kernel)) gd_X5_has)
set_option maxRecDepth 20000 in
theorem h_X5_only_X5_has_169 : GoodIn v_X5_only (wsV RX5 169 RX5 yX5_has v_X5_has) := gdI [1, 2, 3, 4] rfl (by decide +kernel) (im_X5_only_X5_has) gd_X5_has
abbrev sw_X5_only (cI cJ cZ : ClassId) (gh : Nat) (g_acts : Int32) (g_kind : Value) (g_na : Value) (g_nb : Value) (g_nc : Value) (g_nd : Value) (g_ne : Value) (g_dropped : Value) (g_live : Value) (g_low : Value) (g_high : Value) (ga_sites : Nat) (g_nulls : Value) (g_there : Value) (g_lanes : Value) (g_least : Value) (g_most : Value) (g_placeLow : Value) (g_placeHigh : Value) (g_reached : Value) (g_mayThrow : Value) (g_status : Int32) (g_hasRun : Int32) (g_threw : Int32) (g_whereThrown : Int32) (g_value : Value) (g_means : Value) (g_laneOf : Value) (g_sizeOf : Value) (g_cells : Value) (g_copied : Value) (g_state : Int64) (g_joinedLow : Int64) (g_joinedHigh : Int64) (g_keptLow : Value) (g_keptHigh : Value) (gc_sites : Nat → Int64) (ra : Int32) : va_W := [(gh, .inr (5, [.int g_acts, g_kind, g_na, g_nb, g_nc, g_nd, g_ne, g_dropped, g_live, g_low, g_high, .ref ga_sites, g_nulls, g_there, g_lanes, g_least, g_most, g_placeLow, g_placeHigh, g_reached, g_mayThrow, .int g_status, .int g_hasRun, .int g_threw, .int g_whereThrown, g_value, g_means, g_laneOf, g_sizeOf, g_cells, g_copied, .long g_state, .long g_joinedLow, .long g_joinedHigh, g_keptLow, g_keptHigh])), (ga_sites, .inl (cJ, 12, .inr (.inl gc_sites)))]
set_option maxHeartbeats 8000000 in
set_option maxRecDepth 100000 in
theorem s_X5_only (l : Launch) (dC : Nat → ClassId) (dI : Nat → Nat → Nat) (cI cJ cZ : ClassId) (gh : Nat) (g_acts : Int32) (g_kind : Value) (g_na : Value) (g_nb : Value) (g_nc : Value) (g_nd : Value) (g_ne : Value) (g_dropped : Value) (g_live : Value) (g_low : Value) (g_high : Value) (ga_sites : Nat) (g_nulls : Value) (g_there : Value) (g_lanes : Value) (g_least : Value) (g_most : Value) (g_placeLow : Value) (g_placeHigh : Value) (g_reached : Value) (g_mayThrow : Value) (g_status : Int32) (g_hasRun : Int32) (g_threw : Int32) (g_whereThrown : Int32) (g_value : Value) (g_means : Value) (g_laneOf : Value) (g_sizeOf : Value) (g_cells : Value) (g_copied : Value) (g_state : Int64) (g_joinedLow : Int64) (g_joinedHigh : Int64) (g_keptLow : Value) (g_keptHigh : Value) (gc_sites : Nat → Int64) (ra : Int32) (sz : Nat) (q_g_hasRun : kZ g_hasRun) (hy_ra : V6 ra) : Met l yX5_only v_X5_only ({ frames := 1, cells := 0, slots := 0, locals := 22 }) (va_Pc [.ref gh, .int ra] (cPre dC dI cI cJ cZ sz (sw_X5_only cI cJ cZ gh g_acts g_kind g_na g_nb g_nc g_nd g_ne g_dropped g_live g_low g_high ga_sites g_nulls g_there g_lanes g_least g_most g_placeLow g_placeHigh g_reached g_mayThrow g_status g_hasRun g_threw g_whereThrown g_value g_means g_laneOf g_sizeOf g_cells g_copied g_state g_joinedLow g_joinedHigh g_keptLow g_keptHigh gc_sites ra))) (va_Qi (fun (r : Int32) (u : Unit) => (-1 ≤ r.toInt ∧ r.toInt ≤ 39)) (fun (u : Unit) => cPost dC dI cI cJ cZ (va_A (sw_X5_only cI cJ cZ gh g_acts g_kind g_na g_nb g_nc g_nd g_ne g_dropped g_live g_low g_high ga_sites g_nulls g_there g_lanes g_least g_most g_placeLow g_placeHigh g_reached g_mayThrow g_status g_hasRun g_threw g_whereThrown g_value g_means g_laneOf g_sizeOf g_cells g_copied g_state g_joinedLow g_joinedHigh g_keptLow g_keptHigh gc_sites ra) sz) [(gh, .inr (5, [.int g_acts, g_kind, g_na, g_nb, g_nc, g_nd, g_ne, g_dropped, g_live, g_low, g_high, .ref ga_sites, g_nulls, g_there, g_lanes, g_least, g_most, g_placeLow, g_placeHigh, g_reached, g_mayThrow, .int g_status, .int g_hasRun, .int g_threw, .int g_whereThrown, g_value, g_means, g_laneOf, g_sizeOf, g_cells, g_copied, .long g_state, .long g_joinedLow, .long g_joinedHigh, g_keptLow, g_keptHigh])), (ga_sites, .inl (cJ, 12, .inr (.inl gc_sites)))]) (va_A (sw_X5_only cI cJ cZ gh g_acts g_kind g_na g_nb g_nc g_nd g_ne g_dropped g_live g_low g_high ga_sites g_nulls g_there g_lanes g_least g_most g_placeLow g_placeHigh g_reached g_mayThrow g_status g_hasRun g_threw g_whereThrown g_value g_means g_laneOf g_sizeOf g_cells g_copied g_state g_joinedLow g_joinedHigh g_keptLow g_keptHigh gc_sites ra) sz)) 0 0 (va_A (sw_X5_only cI cJ cZ gh g_acts g_kind g_na g_nb g_nc g_nd g_ne g_dropped g_live g_low g_high ga_sites g_nulls g_there g_lanes g_least g_most g_placeLow g_placeHigh g_reached g_mayThrow g_status g_hasRun g_threw g_whereThrown g_value g_means g_laneOf g_sizeOf g_cells g_copied g_state g_joinedLow g_joinedHigh g_keptLow g_keptHigh gc_sites ra) sz) := by
  refine Met.ofW (cc := cX5_only) (maxL := 5) (ret := (some .int)) (by decide) rfl ?_
  intro p e s m args below meth c s₁ B hml hv
  obtain ⟨rfl, hsz, hP, hK, hD0, hN⟩ := hv
  have hx := B.exec
  have hb := B.bytes
  have hr := B.returns
  have hts := atoms_spec (ws := v_X5_only) B.pre
  have hown : s.vm.findClass RX5 = some m.cls := findClass_of_methodNamed B.named
  have hlocks := B.notSynchronized
  subst hsz
  have hD := hD0.self (sz := s.heap.size)
  generalize hAe : va_A (sw_X5_only cI cJ cZ gh g_acts g_kind g_na g_nb g_nc g_nd g_ne g_dropped g_live g_low g_high ga_sites g_nulls g_there g_lanes g_least g_most g_placeLow g_placeHigh g_reached g_mayThrow g_status g_hasRun g_threw g_whereThrown g_value g_means g_laneOf g_sizeOf g_cells g_copied g_state g_joinedLow g_joinedHigh g_keptLow g_keptHigh gc_sites ra) s.heap.size = A at hD ⊢
  have hA : ∀ q : Nat, s.heap.size ≤ q → A q := fun q h => by rw [← hAe]; exact Or.inr h
  clear hAe hD0
  have hS : va_S A s.heap s.heap [] := va_S.rf
  replace hP : va_P (dC, dI) vwCl [(gh, .inr (5, [.int g_acts, g_kind, g_na, g_nb, g_nc, g_nd, g_ne, g_dropped, g_live, g_low, g_high, .ref ga_sites, g_nulls, g_there, g_lanes, g_least, g_most, g_placeLow, g_placeHigh, g_reached, g_mayThrow, .int g_status, .int g_hasRun, .int g_threw, .int g_whereThrown, g_value, g_means, g_laneOf, g_sizeOf, g_cells, g_copied, .long g_state, .long g_joinedLow, .long g_joinedHigh, g_keptLow, g_keptHigh])), (ga_sites, .inl (cJ, 12, .inr (.inl gc_sites)))] s.heap := hP
  replace hD : va_D A [(gh, .inr (5, [.int g_acts, g_kind, g_na, g_nb, g_nc, g_nd, g_ne, g_dropped, g_live, g_low, g_high, .ref ga_sites, g_nulls, g_there, g_lanes, g_least, g_most, g_placeLow, g_placeHigh, g_reached, g_mayThrow, .int g_status, .int g_hasRun, .int g_threw, .int g_whereThrown, g_value, g_means, g_laneOf, g_sizeOf, g_cells, g_copied, .long g_state, .long g_joinedLow, .long g_joinedHigh, g_keptLow, g_keptHigh])), (ga_sites, .inl (cJ, 12, .inr (.inl gc_sites)))] := hD
  have hl := lv_entry ([.ref gh, .int ra]) (n := 5) (Nat.le_of_ble_eq_true rfl)
  rw [lg_entry_eq]
  generalize (lg_sl ([.ref gh, .int ra]) ++ List.replicate (5 - (lg_sl ([.ref gh, .int ra])).length) Slot.unset).toArray = ls at hl ⊢
  replace hl : lv_has ls 5 [(0, .ref gh), (1, .int ra)] := hl
  have z_m1 : (-1 : Int32).toInt = -1 := by decide
  have z_0 : (0 : Int32).toInt = 0 := by decide
  have z_1 : (1 : Int32).toInt = 1 := by decide
  have z_40 : (40 : Int32).toInt = 40 := by decide
  refine lv_iconst (v := (-1)) hx hb dX5_only_0 (by decide) ?_
  refine lv_istore_n (lv' := [(2, .int (-1)), (0, .ref gh), (1, .int ra)]) hx hb dX5_only_1 rfl hl (by decide) rfl (fun ls1 hl1 => ?_)
  replace hl := hl1; clear hl1
  refine lv_iconst (v := 0) hx hb dX5_only_2 (by decide) ?_
  refine lv_istore_n (lv' := [(3, .int 0), (2, .int (-1)), (0, .ref gh), (1, .int ra)]) hx hb dX5_only_3 rfl hl (by decide) rfl (fun ls1 hl1 => ?_)
  replace hl := hl1; clear hl1
  refine lv_iconst (v := 0) hx hb dX5_only_4 (by decide) ?_
  refine lv_istore (lv' := [(4, .int 0), (3, .int 0), (2, .int (-1)), (0, .ref gh), (1, .int ra)]) hx hb dX5_only_5 hl (by decide) rfl (fun ls1 hl1 => ?_)
  replace hl := hl1; clear hl1
  refine my_wloop (S := Int32 × Int32 × Int32) (fun u => (0 ≤ (u.1).toInt ∧ (u.1).toInt ≤ 40) ∧ (-1 ≤ (u.2.2).toInt ∧ (u.2.2).toInt ≤ 39)) (fun u => (40 - (u.1).toInt).toNat) (fun u => [(gh, .inr (5, [.int g_acts, g_kind, g_na, g_nb, g_nc, g_nd, g_ne, g_dropped, g_live, g_low, g_high, .ref ga_sites, g_nulls, g_there, g_lanes, g_least, g_most, g_placeLow, g_placeHigh, g_reached, g_mayThrow, .int g_status, .int g_hasRun, .int g_threw, .int g_whereThrown, g_value, g_means, g_laneOf, g_sizeOf, g_cells, g_copied, .long g_state, .long g_joinedLow, .long g_joinedHigh, g_keptLow, g_keptHigh])), (ga_sites, .inl (cJ, 12, .inr (.inl gc_sites)))]) (fun u => [(4, .int (u.1)), (3, .int (u.2.1)), (2, .int (u.2.2)), (0, .ref gh), (1, .int ra)]) (H0 := s.heap) (A := A) (D := (dC, dI)) (cl := vwCl) ((0 : Int32), (0 : Int32), ((-1) : Int32)) (show (0 ≤ (0 : Int32).toInt ∧ (0 : Int32).toInt ≤ 40) ∧ (-1 ≤ ((-1) : Int32).toInt ∧ ((-1) : Int32).toInt ≤ 39) from ⟨⟨by omega, by omega⟩, ⟨by omega, by omega⟩⟩) (by exact hP) (by exact hD) hS (by exact hl) (fun u_1 hu_1 ih_1 H_1 locs_1 ls1 hP1 hD1 hS1 hl1 => ?_)
  obtain ⟨v_2, v_3, v_4⟩ := u_1
  replace hu_1 : (0 ≤ v_2.toInt ∧ v_2.toInt ≤ 40) ∧ (-1 ≤ v_4.toInt ∧ v_4.toInt ≤ 39) := hu_1
  obtain ⟨q_v_2, q_v_4⟩ := hu_1
  replace hP : va_P (dC, dI) vwCl [(gh, .inr (5, [.int g_acts, g_kind, g_na, g_nb, g_nc, g_nd, g_ne, g_dropped, g_live, g_low, g_high, .ref ga_sites, g_nulls, g_there, g_lanes, g_least, g_most, g_placeLow, g_placeHigh, g_reached, g_mayThrow, .int g_status, .int g_hasRun, .int g_threw, .int g_whereThrown, g_value, g_means, g_laneOf, g_sizeOf, g_cells, g_copied, .long g_state, .long g_joinedLow, .long g_joinedHigh, g_keptLow, g_keptHigh])), (ga_sites, .inl (cJ, 12, .inr (.inl gc_sites)))] H_1 := hP1
  replace hD : va_D A [(gh, .inr (5, [.int g_acts, g_kind, g_na, g_nb, g_nc, g_nd, g_ne, g_dropped, g_live, g_low, g_high, .ref ga_sites, g_nulls, g_there, g_lanes, g_least, g_most, g_placeLow, g_placeHigh, g_reached, g_mayThrow, .int g_status, .int g_hasRun, .int g_threw, .int g_whereThrown, g_value, g_means, g_laneOf, g_sizeOf, g_cells, g_copied, .long g_state, .long g_joinedLow, .long g_joinedHigh, g_keptLow, g_keptHigh])), (ga_sites, .inl (cJ, 12, .inr (.inl gc_sites)))] := hD1
  replace hS := hS1
  clear hP1 hD1 hS1
  replace hl : lv_has ls1 5 [(4, .int v_2), (3, .int v_3), (2, .int v_4), (0, .ref gh), (1, .int ra)] := hl1
  clear hl1
  refine lv_iload hx hb dX5_only_7 (lv_at hl 0 rfl) ?_
  refine lv_bipush (v := 40) hx hb dX5_only_9 (by decide) ?_
  refine lv_icmp_ge (tgt := 36) hx hb dX5_only_11 (by decide) (fun c_5 => ?_) (fun c_5 => ?_)
  · -- yes
    have k_5 : (40 : Int32).toInt ≤ v_2.toInt := ci_ge c_5
    refine lv_iload_n hx hb dX5_only_36 rfl (lv_at hl 1 rfl) ?_
    refine lv_iconst (v := 1) hx hb dX5_only_37 (by decide) ?_
    refine my_join (S := Int32) (fun u => (-1 ≤ (u).toInt ∧ (u).toInt ≤ 39)) (fun u => [(gh, .inr (5, [.int g_acts, g_kind, g_na, g_nb, g_nc, g_nd, g_ne, g_dropped, g_live, g_low, g_high, .ref ga_sites, g_nulls, g_there, g_lanes, g_least, g_most, g_placeLow, g_placeHigh, g_reached, g_mayThrow, .int g_status, .int g_hasRun, .int g_threw, .int g_whereThrown, g_value, g_means, g_laneOf, g_sizeOf, g_cells, g_copied, .long g_state, .long g_joinedLow, .long g_joinedHigh, g_keptLow, g_keptHigh])), (ga_sites, .inl (cJ, 12, .inr (.inl gc_sites)))]) (fun u => [(4, .int v_2), (3, .int v_3), (2, .int v_4), (0, .ref gh), (1, .int ra)]) (fun u => [.int (u)]) (nL := 5) (H0 := s.heap) (A := A) (D := (dC, dI)) (cl := vwCl) 46 (fun u_7 hu_7 H_7 locs_7 ls1 hP1 hD1 hS1 hl1 => ?_) (fun jn_7 => ?_)
    · -- behind 46
      obtain ⟨v_8, rfl⟩ : ∃ z, z = u_7 := ⟨_, rfl⟩
      replace hu_7 : (-1 ≤ v_8.toInt ∧ v_8.toInt ≤ 39) := hu_7
      have q_v_8 := hu_7
      replace hP : va_P (dC, dI) vwCl [(gh, .inr (5, [.int g_acts, g_kind, g_na, g_nb, g_nc, g_nd, g_ne, g_dropped, g_live, g_low, g_high, .ref ga_sites, g_nulls, g_there, g_lanes, g_least, g_most, g_placeLow, g_placeHigh, g_reached, g_mayThrow, .int g_status, .int g_hasRun, .int g_threw, .int g_whereThrown, g_value, g_means, g_laneOf, g_sizeOf, g_cells, g_copied, .long g_state, .long g_joinedLow, .long g_joinedHigh, g_keptLow, g_keptHigh])), (ga_sites, .inl (cJ, 12, .inr (.inl gc_sites)))] H_7 := hP1
      replace hD : va_D A [(gh, .inr (5, [.int g_acts, g_kind, g_na, g_nb, g_nc, g_nd, g_ne, g_dropped, g_live, g_low, g_high, .ref ga_sites, g_nulls, g_there, g_lanes, g_least, g_most, g_placeLow, g_placeHigh, g_reached, g_mayThrow, .int g_status, .int g_hasRun, .int g_threw, .int g_whereThrown, g_value, g_means, g_laneOf, g_sizeOf, g_cells, g_copied, .long g_state, .long g_joinedLow, .long g_joinedHigh, g_keptLow, g_keptHigh])), (ga_sites, .inl (cJ, 12, .inr (.inl gc_sites)))] := hD1
      replace hS := hS1
      clear hP1 hD1 hS1
      replace hl : lv_has ls1 5 [(4, .int v_2), (3, .int v_3), (2, .int v_4), (0, .ref gh), (1, .int ra)] := hl1
      clear hl1
      have hP9 := hP.sub (ws' := [(gh, .inr (5, [.int g_acts, g_kind, g_na, g_nb, g_nc, g_nd, g_ne, g_dropped, g_live, g_low, g_high, .ref ga_sites, g_nulls, g_there, g_lanes, g_least, g_most, g_placeLow, g_placeHigh, g_reached, g_mayThrow, .int g_status, .int g_hasRun, .int g_threw, .int g_whereThrown, g_value, g_means, g_laneOf, g_sizeOf, g_cells, g_copied, .long g_state, .long g_joinedLow, .long g_joinedHigh, g_keptLow, g_keptHigh])), (ga_sites, .inl (cJ, 12, .inr (.inl gc_sites)))]) [0, 1] rfl
      have hD9 := hD.sub (ws' := [(gh, .inr (5, [.int g_acts, g_kind, g_na, g_nb, g_nc, g_nd, g_ne, g_dropped, g_live, g_low, g_high, .ref ga_sites, g_nulls, g_there, g_lanes, g_least, g_most, g_placeLow, g_placeHigh, g_reached, g_mayThrow, .int g_status, .int g_hasRun, .int g_threw, .int g_whereThrown, g_value, g_means, g_laneOf, g_sizeOf, g_cells, g_copied, .long g_state, .long g_joinedLow, .long g_joinedHigh, g_keptLow, g_keptHigh])), (ga_sites, .inl (cJ, 12, .inr (.inl gc_sites)))]) [0, 1] (by decide) rfl
      exact W.iret (v := v_8) hx hb hr (fun t ht hW => ⟨⟨v_8, (), rfl, (show -1 ≤ v_8.toInt ∧ v_8.toInt ≤ 39 from (by first | assumption | omega)), by rw [ht]; exact hP9, va_K.moved hW.alike hK, hD9⟩, hS.F ht⟩) hS.2.2 dX5_only_46
    · -- ahead of 46
      refine lv_icmp_ne (tgt := 45) hx hb dX5_only_38 (by decide) (fun c_9 => ?_) (fun c_9 => ?_)
      · -- yes
        have k_9 : ¬ v_3.toInt = (1 : Int32).toInt := ci_ne c_9
        refine lv_iconst (v := (-1)) hx hb dX5_only_45 (by decide) ?_
        exact jn_7 ((-1) : Int32) (show (-1 ≤ ((-1) : Int32).toInt ∧ ((-1) : Int32).toInt ≤ 39) from ⟨by omega, by omega⟩) _ _ _ (hP.sub [0, 1] rfl) (hD.sub [0, 1] (by decide) rfl) hS (lv_sub hl [0, 1, 2, 3, 4] rfl)
      · -- no
        have k_9 : v_3.toInt = (1 : Int32).toInt := ci_eq c_9
        refine lv_iload_n hx hb dX5_only_41 rfl (lv_at hl 2 rfl) ?_
        refine lv_goto (tgt := 46) hx hb dX5_only_42 (by decide) ?_
        exact jn_7 v_4 (show (-1 ≤ v_4.toInt ∧ v_4.toInt ≤ 39) from ⟨by omega, by omega⟩) _ _ _ (hP.sub [0, 1] rfl) (hD.sub [0, 1] (by decide) rfl) hS (lv_sub hl [0, 1, 2, 3, 4] rfl)
  · -- no
    have k_5 : v_2.toInt < (40 : Int32).toInt := ci_nge c_5
    refine lv_aload_n hx hb dX5_only_14 rfl (lv_at hl 3 rfl) ?_
    refine lv_iload_n hx hb dX5_only_15 rfl (lv_at hl 4 rfl) ?_
    refine lv_iload hx hb dX5_only_16 (lv_at hl 0 rfl) ?_
    have hPc := hP.sub (ws' := [(gh, .inr (5, [.int g_acts, g_kind, g_na, g_nb, g_nc, g_nd, g_ne, g_dropped, g_live, g_low, g_high, .ref ga_sites, g_nulls, g_there, g_lanes, g_least, g_most, g_placeLow, g_placeHigh, g_reached, g_mayThrow, .int g_status, .int g_hasRun, .int g_threw, .int g_whereThrown, g_value, g_means, g_laneOf, g_sizeOf, g_cells, g_copied, .long g_state, .long g_joinedLow, .long g_joinedHigh, g_keptLow, g_keptHigh])), (ga_sites, .inl (cJ, 12, .inr (.inl gc_sites)))]) [0, 1] rfl
    have hDc := hD.sub (ws' := [(gh, .inr (5, [.int g_acts, g_kind, g_na, g_nb, g_nc, g_nd, g_ne, g_dropped, g_live, g_low, g_high, .ref ga_sites, g_nulls, g_there, g_lanes, g_least, g_most, g_placeLow, g_placeHigh, g_reached, g_mayThrow, .int g_status, .int g_hasRun, .int g_threw, .int g_whereThrown, g_value, g_means, g_laneOf, g_sizeOf, g_cells, g_copied, .long g_state, .long g_joinedLow, .long g_joinedHigh, g_keptLow, g_keptHigh])), (ga_sites, .inl (cJ, 12, .inr (.inl gc_sites)))]) [0, 1] (by decide) rfl
    have hFc := va_free (wc := [(gh, .inr (5, [.int g_acts, g_kind, g_na, g_nb, g_nc, g_nd, g_ne, g_dropped, g_live, g_low, g_high, .ref ga_sites, g_nulls, g_there, g_lanes, g_least, g_most, g_placeLow, g_placeHigh, g_reached, g_mayThrow, .int g_status, .int g_hasRun, .int g_threw, .int g_whereThrown, g_value, g_means, g_laneOf, g_sizeOf, g_cells, g_copied, .long g_state, .long g_joinedLow, .long g_joinedHigh, g_keptLow, g_keptHigh])), (ga_sites, .inl (cJ, 12, .inr (.inl gc_sites)))]) hD hS hA [0, 1] rfl
    refine va_calli (va_runV (As := [.int ra, .int v_2]) (rest := []) ⟨hx, hb, hml, hown, hts⟩ (s_X5_has l dC dI cI cJ cZ gh g_acts g_kind g_na g_nb g_nc g_nd g_ne g_dropped g_live g_low g_high ga_sites g_nulls g_there g_lanes g_least g_most g_placeLow g_placeHigh g_reached g_mayThrow g_status g_hasRun g_threw g_whereThrown g_value g_means g_laneOf g_sizeOf g_cells g_copied g_state g_joinedLow g_joinedHigh g_keptLow g_keptHigh gc_sites ra v_2 H_1.size q_g_hasRun (by first | assumption | omega)) (cwV 2 hts h_X5_only_X5_has_169 rfl rfl rfl (by decide +kernel) ⟨Nat.le_of_ble_eq_true rfl, Nat.le_of_ble_eq_true rfl⟩) ⟨cPre_blind, va_recv hK hPc (ci := 5) (q0 := 0) rfl rfl, cPre_of hK hN hPc hDc⟩ rfl rfl hl.1 rfl (lv_room (Nat.le_of_ble_eq_true rfl)) dX5_only_18 ⟨Nat.le_of_ble_eq_true rfl, Nat.le_of_ble_eq_true rfl⟩) hS (fun q _ h => hFc q h) hFc (fun r_10 u_10 t_10 H_10 locs_10 ht hvm hw_10 hB hz1 hk1 hS1 => ?_)
    obtain ⟨hP1, hK1, hD1⟩ := hB
    rw [ht] at hP1
    obtain ⟨hP2, hD2⟩ := va_join (wr := []) (w1 := [(gh, .inr (5, [.int g_acts, g_kind, g_na, g_nb, g_nc, g_nd, g_ne, g_dropped, g_live, g_low, g_high, .ref ga_sites, g_nulls, g_there, g_lanes, g_least, g_most, g_placeLow, g_placeHigh, g_reached, g_mayThrow, .int g_status, .int g_hasRun, .int g_threw, .int g_whereThrown, g_value, g_means, g_laneOf, g_sizeOf, g_cells, g_copied, .long g_state, .long g_joinedLow, .long g_joinedHigh, g_keptLow, g_keptHigh])), (ga_sites, .inl (cJ, 12, .inr (.inl gc_sites)))]) hP hD [0, 1] [] rfl rfl (by decide) (by decide) hk1 hFc hP1 hD1
    clear hPc hDc hFc hP1 hD1 hK1 hk1 hz1 hvm ht
    replace hP : va_P (dC, dI) vwCl [(gh, .inr (5, [.int g_acts, g_kind, g_na, g_nb, g_nc, g_nd, g_ne, g_dropped, g_live, g_low, g_high, .ref ga_sites, g_nulls, g_there, g_lanes, g_least, g_most, g_placeLow, g_placeHigh, g_reached, g_mayThrow, .int g_status, .int g_hasRun, .int g_threw, .int g_whereThrown, g_value, g_means, g_laneOf, g_sizeOf, g_cells, g_copied, .long g_state, .long g_joinedLow, .long g_joinedHigh, g_keptLow, g_keptHigh])), (ga_sites, .inl (cJ, 12, .inr (.inl gc_sites)))] H_10 := hP2
    replace hD : va_D A [(gh, .inr (5, [.int g_acts, g_kind, g_na, g_nb, g_nc, g_nd, g_ne, g_dropped, g_live, g_low, g_high, .ref ga_sites, g_nulls, g_there, g_lanes, g_least, g_most, g_placeLow, g_placeHigh, g_reached, g_mayThrow, .int g_status, .int g_hasRun, .int g_threw, .int g_whereThrown, g_value, g_means, g_laneOf, g_sizeOf, g_cells, g_copied, .long g_state, .long g_joinedLow, .long g_joinedHigh, g_keptLow, g_keptHigh])), (ga_sites, .inl (cJ, 12, .inr (.inl gc_sites)))] := hD2
    replace hS := hS1
    clear hP2 hD2 hS1
    replace hw_10 : (kZ r_10) := hw_10
    have q_r_10 := hw_10
    refine my_join (S := Int32 × Int32) (fun u => (-1 ≤ (u.2).toInt ∧ (u.2).toInt ≤ 39)) (fun u => [(gh, .inr (5, [.int g_acts, g_kind, g_na, g_nb, g_nc, g_nd, g_ne, g_dropped, g_live, g_low, g_high, .ref ga_sites, g_nulls, g_there, g_lanes, g_least, g_most, g_placeLow, g_placeHigh, g_reached, g_mayThrow, .int g_status, .int g_hasRun, .int g_threw, .int g_whereThrown, g_value, g_means, g_laneOf, g_sizeOf, g_cells, g_copied, .long g_state, .long g_joinedLow, .long g_joinedHigh, g_keptLow, g_keptHigh])), (ga_sites, .inl (cJ, 12, .inr (.inl gc_sites)))]) (fun u => [(4, .int v_2), (3, .int (u.1)), (2, .int (u.2)), (0, .ref gh), (1, .int ra)]) (fun u => []) (nL := 5) (H0 := s.heap) (A := A) (D := (dC, dI)) (cl := vwCl) 30 (fun u_12 hu_12 H_12 locs_12 ls1 hP1 hD1 hS1 hl1 => ?_) (fun jn_12 => ?_)
    · -- behind 30
      obtain ⟨v_13, v_14⟩ := u_12
      replace hu_12 : (-1 ≤ v_14.toInt ∧ v_14.toInt ≤ 39) := hu_12
      have q_v_14 := hu_12
      replace hP : va_P (dC, dI) vwCl [(gh, .inr (5, [.int g_acts, g_kind, g_na, g_nb, g_nc, g_nd, g_ne, g_dropped, g_live, g_low, g_high, .ref ga_sites, g_nulls, g_there, g_lanes, g_least, g_most, g_placeLow, g_placeHigh, g_reached, g_mayThrow, .int g_status, .int g_hasRun, .int g_threw, .int g_whereThrown, g_value, g_means, g_laneOf, g_sizeOf, g_cells, g_copied, .long g_state, .long g_joinedLow, .long g_joinedHigh, g_keptLow, g_keptHigh])), (ga_sites, .inl (cJ, 12, .inr (.inl gc_sites)))] H_12 := hP1
      replace hD : va_D A [(gh, .inr (5, [.int g_acts, g_kind, g_na, g_nb, g_nc, g_nd, g_ne, g_dropped, g_live, g_low, g_high, .ref ga_sites, g_nulls, g_there, g_lanes, g_least, g_most, g_placeLow, g_placeHigh, g_reached, g_mayThrow, .int g_status, .int g_hasRun, .int g_threw, .int g_whereThrown, g_value, g_means, g_laneOf, g_sizeOf, g_cells, g_copied, .long g_state, .long g_joinedLow, .long g_joinedHigh, g_keptLow, g_keptHigh])), (ga_sites, .inl (cJ, 12, .inr (.inl gc_sites)))] := hD1
      replace hS := hS1
      clear hP1 hD1 hS1
      replace hl : lv_has ls1 5 [(4, .int v_2), (3, .int v_13), (2, .int v_14), (0, .ref gh), (1, .int ra)] := hl1
      clear hl1
      refine sf_iinc hx hb dX5_only_30 hl (k := 0) (x := v_2) (w := 1) rfl (by decide) (by decide) ⟨by omega, by omega⟩ (fun v_15 q_v_15 ls1 hl1 => ?_)
      replace hl : lv_has ls1 5 [(4, .int v_15), (3, .int v_13), (2, .int v_14), (0, .ref gh), (1, .int ra)] := hl1
      clear hl1
      refine lv_goto (tgt := 7) hx hb dX5_only_33 (by decide) ?_
      exact ih_1 (v_15, v_13, v_14) (show (0 ≤ v_15.toInt ∧ v_15.toInt ≤ 40) ∧ (-1 ≤ v_14.toInt ∧ v_14.toInt ≤ 39) from ⟨⟨by omega, by omega⟩, ⟨by omega, by omega⟩⟩) (by show (40 - v_15.toInt).toNat < (40 - v_2.toInt).toNat; omega) _ _ _ (hP.sub [0, 1] rfl) (hD.sub [0, 1] (by decide) rfl) hS (lv_sub hl [0, 1, 2, 3, 4] rfl)
    · -- ahead of 30
      refine lv_if_eq (tgt := 30) hx hb dX5_only_21 (by decide) (fun c_16 => ?_) (fun c_16 => ?_)
      · -- yes
        have k_16 : r_10.toInt = (0 : Int32).toInt := ci_eq c_16
        exact jn_12 (v_3, v_4) (show (-1 ≤ v_4.toInt ∧ v_4.toInt ≤ 39) from ⟨by omega, by omega⟩) _ _ _ (hP.sub [0, 1] rfl) (hD.sub [0, 1] (by decide) rfl) hS (lv_sub hl [0, 1, 2, 3, 4] rfl)
      · -- no
        have k_16 : ¬ r_10.toInt = (0 : Int32).toInt := ci_ne c_16
        refine lv_iload hx hb dX5_only_24 (lv_at hl 0 rfl) ?_
        refine lv_istore_n (lv' := [(2, .int v_2), (4, .int v_2), (3, .int v_3), (0, .ref gh), (1, .int ra)]) hx hb dX5_only_26 rfl hl (by decide) rfl (fun ls1 hl1 => ?_)
        replace hl := hl1; clear hl1
        refine sf_iincA hx hb dX5_only_27 hl (k := 2) (x := v_3) rfl (by decide) (fun v_17 ls1 hl1 => ?_)
        replace hl : lv_has ls1 5 [(3, .int v_17), (2, .int v_2), (4, .int v_2), (0, .ref gh), (1, .int ra)] := hl1
        clear hl1
        exact jn_12 (v_17, v_2) (show (-1 ≤ v_2.toInt ∧ v_2.toInt ≤ 39) from ⟨by omega, by omega⟩) _ _ _ (hP.sub [0, 1] rfl) (hD.sub [0, 1] (by decide) rfl) hS (lv_sub hl [2, 0, 1, 3, 4] rfl)

def v_X5_use : List Cond := .code yX5_use cX5_use 2 none :: ([.fieldLink RX5 45 "ArraySegmentsModel" "nulls" "[Z", .fieldLink RX5 32 "ArraySegmentsModel" "live" "[Z", .fieldLink RX5 42 "ArraySegmentsModel" "sites" "[J"] ++ (wsX50))
theorem inv_X5_use_X5 : ∀ w ∈ wsX50, w ∈ v_X5_use := fun _ h => List.mem_cons_of_mem _ (List.mem_append_right _ (h))
set_option maxRecDepth 20000 in
theorem gd_X5_use : gdL v_X5_use := gdC (gdW (by decide +kernel)) (gdA (gdW (by decide +kernel)) gd_wsX50)
abbrev sw_X5_use (cI cJ cZ : ClassId) (gh : Nat) (g_acts : Int32) (g_kind : Value) (g_na : Value) (g_nb : Value) (g_nc : Value) (g_nd : Value) (g_ne : Value) (g_dropped : Value) (ga_live : Nat) (g_low : Value) (g_high : Value) (ga_sites : Nat) (ga_nulls : Nat) (g_there : Value) (g_lanes : Value) (g_least : Value) (g_most : Value) (g_placeLow : Value) (g_placeHigh : Value) (g_reached : Value) (g_mayThrow : Value) (g_status : Int32) (g_hasRun : Int32) (g_threw : Int32) (g_whereThrown : Int32) (g_value : Value) (g_means : Value) (g_laneOf : Value) (g_sizeOf : Value) (g_cells : Value) (g_copied : Value) (g_state : Int64) (g_joinedLow : Int64) (g_joinedHigh : Int64) (g_keptLow : Value) (g_keptHigh : Value) (gc_live : Nat → Int32) (gc_sites : Nat → Int64) (gc_nulls : Nat → Int32) (ra : Int32) : va_W := [(gh, .inr (5, [.int g_acts, g_kind, g_na, g_nb, g_nc, g_nd, g_ne, g_dropped, .ref ga_live, g_low, g_high, .ref ga_sites, .ref ga_nulls, g_there, g_lanes, g_least, g_most, g_placeLow, g_placeHigh, g_reached, g_mayThrow, .int g_status, .int g_hasRun, .int g_threw, .int g_whereThrown, g_value, g_means, g_laneOf, g_sizeOf, g_cells, g_copied, .long g_state, .long g_joinedLow, .long g_joinedHigh, g_keptLow, g_keptHigh])), (ga_live, .inl (cZ, 2, .inl gc_live)), (ga_sites, .inl (cJ, 12, .inr (.inl gc_sites))), (ga_nulls, .inl (cZ, 12, .inl gc_nulls))]
set_option maxHeartbeats 8000000 in
set_option maxRecDepth 100000 in
theorem s_X5_use (l : Launch) (dC : Nat → ClassId) (dI : Nat → Nat → Nat) (cI cJ cZ : ClassId) (gh : Nat) (g_acts : Int32) (g_kind : Value) (g_na : Value) (g_nb : Value) (g_nc : Value) (g_nd : Value) (g_ne : Value) (g_dropped : Value) (ga_live : Nat) (g_low : Value) (g_high : Value) (ga_sites : Nat) (ga_nulls : Nat) (g_there : Value) (g_lanes : Value) (g_least : Value) (g_most : Value) (g_placeLow : Value) (g_placeHigh : Value) (g_reached : Value) (g_mayThrow : Value) (g_status : Int32) (g_hasRun : Int32) (g_threw : Int32) (g_whereThrown : Int32) (g_value : Value) (g_means : Value) (g_laneOf : Value) (g_sizeOf : Value) (g_cells : Value) (g_copied : Value) (g_state : Int64) (g_joinedLow : Int64) (g_joinedHigh : Int64) (g_keptLow : Value) (g_keptHigh : Value) (gc_live : Nat → Int32) (gc_sites : Nat → Int64) (gc_nulls : Nat → Int32) (ra : Int32) (sz : Nat) (q_g_hasRun : kZ g_hasRun) (h_gc_live : ∀ j : Nat, kZ (gc_live j)) (h_gc_nulls : ∀ j : Nat, kZ (gc_nulls j)) (hy_ra : V6 ra) : Met l yX5_use v_X5_use ({ frames := 0, cells := 0, slots := 0, locals := 0 }) (va_Pc [.ref gh, .int ra] (cPre dC dI cI cJ cZ sz (sw_X5_use cI cJ cZ gh g_acts g_kind g_na g_nb g_nc g_nd g_ne g_dropped ga_live g_low g_high ga_sites ga_nulls g_there g_lanes g_least g_most g_placeLow g_placeHigh g_reached g_mayThrow g_status g_hasRun g_threw g_whereThrown g_value g_means g_laneOf g_sizeOf g_cells g_copied g_state g_joinedLow g_joinedHigh g_keptLow g_keptHigh gc_live gc_sites gc_nulls ra))) (va_Qv (fun (u : (Nat → Int32) × (Nat → Int32)) => (∀ j : Nat, kZ ((u.1) j)) ∧ (∀ j : Nat, kZ ((u.2) j))) (fun (u : (Nat → Int32) × (Nat → Int32)) => cPost dC dI cI cJ cZ (va_A (sw_X5_use cI cJ cZ gh g_acts g_kind g_na g_nb g_nc g_nd g_ne g_dropped ga_live g_low g_high ga_sites ga_nulls g_there g_lanes g_least g_most g_placeLow g_placeHigh g_reached g_mayThrow g_status g_hasRun g_threw g_whereThrown g_value g_means g_laneOf g_sizeOf g_cells g_copied g_state g_joinedLow g_joinedHigh g_keptLow g_keptHigh gc_live gc_sites gc_nulls ra) sz) [(gh, .inr (5, [.int g_acts, g_kind, g_na, g_nb, g_nc, g_nd, g_ne, g_dropped, .ref ga_live, g_low, g_high, .ref ga_sites, .ref ga_nulls, g_there, g_lanes, g_least, g_most, g_placeLow, g_placeHigh, g_reached, g_mayThrow, .int g_status, .int g_hasRun, .int g_threw, .int g_whereThrown, g_value, g_means, g_laneOf, g_sizeOf, g_cells, g_copied, .long g_state, .long g_joinedLow, .long g_joinedHigh, g_keptLow, g_keptHigh])), (ga_live, .inl (cZ, 2, .inl (u.1))), (ga_sites, .inl (cJ, 12, .inr (.inl gc_sites))), (ga_nulls, .inl (cZ, 12, .inl (u.2)))]) (va_A (sw_X5_use cI cJ cZ gh g_acts g_kind g_na g_nb g_nc g_nd g_ne g_dropped ga_live g_low g_high ga_sites ga_nulls g_there g_lanes g_least g_most g_placeLow g_placeHigh g_reached g_mayThrow g_status g_hasRun g_threw g_whereThrown g_value g_means g_laneOf g_sizeOf g_cells g_copied g_state g_joinedLow g_joinedHigh g_keptLow g_keptHigh gc_live gc_sites gc_nulls ra) sz)) 0 0 (va_A (sw_X5_use cI cJ cZ gh g_acts g_kind g_na g_nb g_nc g_nd g_ne g_dropped ga_live g_low g_high ga_sites ga_nulls g_there g_lanes g_least g_most g_placeLow g_placeHigh g_reached g_mayThrow g_status g_hasRun g_threw g_whereThrown g_value g_means g_laneOf g_sizeOf g_cells g_copied g_state g_joinedLow g_joinedHigh g_keptLow g_keptHigh gc_live gc_sites gc_nulls ra) sz) := by
  refine Met.ofW (cc := cX5_use) (maxL := 2) (ret := none) (by decide) rfl ?_
  intro p e s m args below meth c s₁ B hml hv
  obtain ⟨rfl, hsz, hP, hK, hD0, hN⟩ := hv
  have hx := B.exec
  have hb := B.bytes
  have hr := B.returns
  have hts := atoms_spec (ws := v_X5_use) B.pre
  have hown : s.vm.findClass RX5 = some m.cls := findClass_of_methodNamed B.named
  have hlocks := B.notSynchronized
  subst hsz
  have hD := hD0.self (sz := s.heap.size)
  generalize hAe : va_A (sw_X5_use cI cJ cZ gh g_acts g_kind g_na g_nb g_nc g_nd g_ne g_dropped ga_live g_low g_high ga_sites ga_nulls g_there g_lanes g_least g_most g_placeLow g_placeHigh g_reached g_mayThrow g_status g_hasRun g_threw g_whereThrown g_value g_means g_laneOf g_sizeOf g_cells g_copied g_state g_joinedLow g_joinedHigh g_keptLow g_keptHigh gc_live gc_sites gc_nulls ra) s.heap.size = A at hD ⊢
  have hA : ∀ q : Nat, s.heap.size ≤ q → A q := fun q h => by rw [← hAe]; exact Or.inr h
  clear hAe hD0
  have hS : va_S A s.heap s.heap [] := va_S.rf
  replace hP : va_P (dC, dI) vwCl [(gh, .inr (5, [.int g_acts, g_kind, g_na, g_nb, g_nc, g_nd, g_ne, g_dropped, .ref ga_live, g_low, g_high, .ref ga_sites, .ref ga_nulls, g_there, g_lanes, g_least, g_most, g_placeLow, g_placeHigh, g_reached, g_mayThrow, .int g_status, .int g_hasRun, .int g_threw, .int g_whereThrown, g_value, g_means, g_laneOf, g_sizeOf, g_cells, g_copied, .long g_state, .long g_joinedLow, .long g_joinedHigh, g_keptLow, g_keptHigh])), (ga_live, .inl (cZ, 2, .inl gc_live)), (ga_sites, .inl (cJ, 12, .inr (.inl gc_sites))), (ga_nulls, .inl (cZ, 12, .inl gc_nulls))] s.heap := hP
  replace hD : va_D A [(gh, .inr (5, [.int g_acts, g_kind, g_na, g_nb, g_nc, g_nd, g_ne, g_dropped, .ref ga_live, g_low, g_high, .ref ga_sites, .ref ga_nulls, g_there, g_lanes, g_least, g_most, g_placeLow, g_placeHigh, g_reached, g_mayThrow, .int g_status, .int g_hasRun, .int g_threw, .int g_whereThrown, g_value, g_means, g_laneOf, g_sizeOf, g_cells, g_copied, .long g_state, .long g_joinedLow, .long g_joinedHigh, g_keptLow, g_keptHigh])), (ga_live, .inl (cZ, 2, .inl gc_live)), (ga_sites, .inl (cJ, 12, .inr (.inl gc_sites))), (ga_nulls, .inl (cZ, 12, .inl gc_nulls))] := hD
  have hl := lv_entry ([.ref gh, .int ra]) (n := 2) (Nat.le_of_ble_eq_true rfl)
  rw [lg_entry_eq]
  generalize (lg_sl ([.ref gh, .int ra]) ++ List.replicate (2 - (lg_sl ([.ref gh, .int ra])).length) Slot.unset).toArray = ls at hl ⊢
  replace hl : lv_has ls 2 [(0, .ref gh), (1, .int ra)] := hl
  have z_0 : (0 : Int32).toInt = 0 := by decide
  have z_1 : (1 : Int32).toInt = 1 := by decide
  have zl_0 : (0 : Int64).toInt = 0 := by decide
  refine lv_aload_n hx hb dX5_use_0 rfl (lv_at hl 0 rfl) ?_
  refine va_get (D := (dC, dI)) (ci := 5) (v := .ref ga_nulls) (C := RX5) (T := TX5) (N := 36) hx hb hts inv_X5_use_X5 hown hK hP 0 rfl rfl 12 (by decide) (hts (.fieldLink RX5 45 "ArraySegmentsModel" "nulls" "[Z") (List.mem_of_getElem? (i := 1) rfl)) (fun _ h9 => h9) rfl dX5_use_1 ?_
  refine lv_iload_n hx hb dX5_use_4 rfl (lv_at hl 1 rfl) ?_
  refine lv_iconst (v := 0) hx hb dX5_use_5 (by decide) ?_
  refine sf_zast hx hb hK hP hD hS 3 2 rfl rfl h_gc_nulls (vp_in_iff.mpr ⟨by omega, by omega⟩) dX5_use_6 (fun f_1 h_f_1 e_f_1 H_2 locs_2 hP1 hD1 hS1 => ?_)
  replace hP : va_P (dC, dI) vwCl [(gh, .inr (5, [.int g_acts, g_kind, g_na, g_nb, g_nc, g_nd, g_ne, g_dropped, .ref ga_live, g_low, g_high, .ref ga_sites, .ref ga_nulls, g_there, g_lanes, g_least, g_most, g_placeLow, g_placeHigh, g_reached, g_mayThrow, .int g_status, .int g_hasRun, .int g_threw, .int g_whereThrown, g_value, g_means, g_laneOf, g_sizeOf, g_cells, g_copied, .long g_state, .long g_joinedLow, .long g_joinedHigh, g_keptLow, g_keptHigh])), (ga_live, .inl (cZ, 2, .inl gc_live)), (ga_sites, .inl (cJ, 12, .inr (.inl gc_sites))), (ga_nulls, .inl (cZ, 12, .inl f_1))] H_2 := hP1
  replace hD : va_D A [(gh, .inr (5, [.int g_acts, g_kind, g_na, g_nb, g_nc, g_nd, g_ne, g_dropped, .ref ga_live, g_low, g_high, .ref ga_sites, .ref ga_nulls, g_there, g_lanes, g_least, g_most, g_placeLow, g_placeHigh, g_reached, g_mayThrow, .int g_status, .int g_hasRun, .int g_threw, .int g_whereThrown, g_value, g_means, g_laneOf, g_sizeOf, g_cells, g_copied, .long g_state, .long g_joinedLow, .long g_joinedHigh, g_keptLow, g_keptHigh])), (ga_live, .inl (cZ, 2, .inl gc_live)), (ga_sites, .inl (cJ, 12, .inr (.inl gc_sites))), (ga_nulls, .inl (cZ, 12, .inl f_1))] := hD1
  replace hS := hS1
  clear hP1 hD1 hS1
  refine lv_aload_n hx hb dX5_use_7 rfl (lv_at hl 0 rfl) ?_
  refine va_get (D := (dC, dI)) (ci := 5) (v := .ref ga_live) (C := RX5) (T := TX5) (N := 36) hx hb hts inv_X5_use_X5 hown hK hP 0 rfl rfl 8 (by decide) (hts (.fieldLink RX5 32 "ArraySegmentsModel" "live" "[Z") (List.mem_of_getElem? (i := 2) rfl)) (fun _ h9 => h9) rfl dX5_use_8 ?_
  refine lv_iconst (v := 0) hx hb dX5_use_11 (by decide) ?_
  refine lv_dup2_11 hx hb dX5_use_12 rfl rfl ?_
  refine sf_zald kZ hx hb hK hP 1 2 rfl rfl h_gc_live (vp_in_iff.mpr ⟨by omega, by omega⟩) dX5_use_13 (fun v_3 q_v_3 e_v_3 => ?_)
  refine lv_aload_n hx hb dX5_use_14 rfl (lv_at hl 0 rfl) ?_
  refine va_get (D := (dC, dI)) (ci := 5) (v := .ref ga_sites) (C := RX5) (T := TX5) (N := 36) hx hb hts inv_X5_use_X5 hown hK hP 0 rfl rfl 11 (by decide) (hts (.fieldLink RX5 42 "ArraySegmentsModel" "sites" "[J") (List.mem_of_getElem? (i := 3) rfl)) (fun _ h9 => h9) rfl dX5_use_15 ?_
  refine lv_iload_n hx hb dX5_use_18 rfl (lv_at hl 1 rfl) ?_
  refine sf_lald lT hx hb hK hP 2 1 rfl rfl (fun _ => trivial) (vp_in_iff.mpr ⟨by omega, by omega⟩) dX5_use_19 (fun v_4 q_v_4 e_v_4 => ?_)
  refine lv_lconst (v := 0) hx hb dX5_use_20 (by decide) ?_
  refine W.lcmp hx hb dX5_use_21 ?_
  refine my_join (S := Int32) (fun u => (kZ (u))) (fun u => [(gh, .inr (5, [.int g_acts, g_kind, g_na, g_nb, g_nc, g_nd, g_ne, g_dropped, .ref ga_live, g_low, g_high, .ref ga_sites, .ref ga_nulls, g_there, g_lanes, g_least, g_most, g_placeLow, g_placeHigh, g_reached, g_mayThrow, .int g_status, .int g_hasRun, .int g_threw, .int g_whereThrown, g_value, g_means, g_laneOf, g_sizeOf, g_cells, g_copied, .long g_state, .long g_joinedLow, .long g_joinedHigh, g_keptLow, g_keptHigh])), (ga_live, .inl (cZ, 2, .inl gc_live)), (ga_sites, .inl (cJ, 12, .inr (.inl gc_sites))), (ga_nulls, .inl (cZ, 12, .inl f_1))]) (fun u => [(0, .ref gh), (1, .int ra)]) (fun u => [.int (u), .int v_3, .int 0, .ref ga_live]) (nL := 2) (H0 := s.heap) (A := A) (D := (dC, dI)) (cl := vwCl) 30 (fun u_6 hu_6 H_6 locs_6 ls1 hP1 hD1 hS1 hl1 => ?_) (fun jn_6 => ?_)
  · -- behind 30
    obtain ⟨v_7, rfl⟩ : ∃ z, z = u_6 := ⟨_, rfl⟩
    replace hu_6 : (kZ v_7) := hu_6
    have q_v_7 := hu_6
    replace hP : va_P (dC, dI) vwCl [(gh, .inr (5, [.int g_acts, g_kind, g_na, g_nb, g_nc, g_nd, g_ne, g_dropped, .ref ga_live, g_low, g_high, .ref ga_sites, .ref ga_nulls, g_there, g_lanes, g_least, g_most, g_placeLow, g_placeHigh, g_reached, g_mayThrow, .int g_status, .int g_hasRun, .int g_threw, .int g_whereThrown, g_value, g_means, g_laneOf, g_sizeOf, g_cells, g_copied, .long g_state, .long g_joinedLow, .long g_joinedHigh, g_keptLow, g_keptHigh])), (ga_live, .inl (cZ, 2, .inl gc_live)), (ga_sites, .inl (cJ, 12, .inr (.inl gc_sites))), (ga_nulls, .inl (cZ, 12, .inl f_1))] H_6 := hP1
    replace hD : va_D A [(gh, .inr (5, [.int g_acts, g_kind, g_na, g_nb, g_nc, g_nd, g_ne, g_dropped, .ref ga_live, g_low, g_high, .ref ga_sites, .ref ga_nulls, g_there, g_lanes, g_least, g_most, g_placeLow, g_placeHigh, g_reached, g_mayThrow, .int g_status, .int g_hasRun, .int g_threw, .int g_whereThrown, g_value, g_means, g_laneOf, g_sizeOf, g_cells, g_copied, .long g_state, .long g_joinedLow, .long g_joinedHigh, g_keptLow, g_keptHigh])), (ga_live, .inl (cZ, 2, .inl gc_live)), (ga_sites, .inl (cJ, 12, .inr (.inl gc_sites))), (ga_nulls, .inl (cZ, 12, .inl f_1))] := hD1
    replace hS := hS1
    clear hP1 hD1 hS1
    replace hl : lv_has ls1 2 [(0, .ref gh), (1, .int ra)] := hl1
    clear hl1
    refine lv_iand hx hb dX5_use_30 ?_
    refine lv_topi (fun v_8 e_v_8 => ?_)
    have q_v_8 : kZ v_8 := by rw [e_v_8]; exact and01 q_v_3 q_v_7
    have qi_v_8 := kz_to q_v_8
    refine sf_zast hx hb hK hP hD hS 1 2 rfl rfl h_gc_live (vp_in_iff.mpr ⟨by omega, by omega⟩) dX5_use_31 (fun f_9 h_f_9 e_f_9 H_10 locs_10 hP1 hD1 hS1 => ?_)
    replace hP : va_P (dC, dI) vwCl [(gh, .inr (5, [.int g_acts, g_kind, g_na, g_nb, g_nc, g_nd, g_ne, g_dropped, .ref ga_live, g_low, g_high, .ref ga_sites, .ref ga_nulls, g_there, g_lanes, g_least, g_most, g_placeLow, g_placeHigh, g_reached, g_mayThrow, .int g_status, .int g_hasRun, .int g_threw, .int g_whereThrown, g_value, g_means, g_laneOf, g_sizeOf, g_cells, g_copied, .long g_state, .long g_joinedLow, .long g_joinedHigh, g_keptLow, g_keptHigh])), (ga_live, .inl (cZ, 2, .inl f_9)), (ga_sites, .inl (cJ, 12, .inr (.inl gc_sites))), (ga_nulls, .inl (cZ, 12, .inl f_1))] H_10 := hP1
    replace hD : va_D A [(gh, .inr (5, [.int g_acts, g_kind, g_na, g_nb, g_nc, g_nd, g_ne, g_dropped, .ref ga_live, g_low, g_high, .ref ga_sites, .ref ga_nulls, g_there, g_lanes, g_least, g_most, g_placeLow, g_placeHigh, g_reached, g_mayThrow, .int g_status, .int g_hasRun, .int g_threw, .int g_whereThrown, g_value, g_means, g_laneOf, g_sizeOf, g_cells, g_copied, .long g_state, .long g_joinedLow, .long g_joinedHigh, g_keptLow, g_keptHigh])), (ga_live, .inl (cZ, 2, .inl f_9)), (ga_sites, .inl (cJ, 12, .inr (.inl gc_sites))), (ga_nulls, .inl (cZ, 12, .inl f_1))] := hD1
    replace hS := hS1
    clear hP1 hD1 hS1
    have hP9 := hP.sub (ws' := [(gh, .inr (5, [.int g_acts, g_kind, g_na, g_nb, g_nc, g_nd, g_ne, g_dropped, .ref ga_live, g_low, g_high, .ref ga_sites, .ref ga_nulls, g_there, g_lanes, g_least, g_most, g_placeLow, g_placeHigh, g_reached, g_mayThrow, .int g_status, .int g_hasRun, .int g_threw, .int g_whereThrown, g_value, g_means, g_laneOf, g_sizeOf, g_cells, g_copied, .long g_state, .long g_joinedLow, .long g_joinedHigh, g_keptLow, g_keptHigh])), (ga_live, .inl (cZ, 2, .inl f_9)), (ga_sites, .inl (cJ, 12, .inr (.inl gc_sites))), (ga_nulls, .inl (cZ, 12, .inl f_1))]) [0, 1, 2, 3] rfl
    have hD9 := hD.sub (ws' := [(gh, .inr (5, [.int g_acts, g_kind, g_na, g_nb, g_nc, g_nd, g_ne, g_dropped, .ref ga_live, g_low, g_high, .ref ga_sites, .ref ga_nulls, g_there, g_lanes, g_least, g_most, g_placeLow, g_placeHigh, g_reached, g_mayThrow, .int g_status, .int g_hasRun, .int g_threw, .int g_whereThrown, g_value, g_means, g_laneOf, g_sizeOf, g_cells, g_copied, .long g_state, .long g_joinedLow, .long g_joinedHigh, g_keptLow, g_keptHigh])), (ga_live, .inl (cZ, 2, .inl f_9)), (ga_sites, .inl (cJ, 12, .inr (.inl gc_sites))), (ga_nulls, .inl (cZ, 12, .inl f_1))]) [0, 1, 2, 3] (by decide) rfl
    exact W.vret hx hb hr (fun t ht hW => ⟨⟨(f_9, f_1), rfl, ⟨(show ∀ j : Nat, kZ (f_9 j) from h_f_9), (show ∀ j : Nat, kZ (f_1 j) from h_f_1)⟩, by rw [ht]; exact hP9, va_K.moved hW.alike hK, hD9⟩, hS.F ht⟩) hS.2.2 dX5_use_32
  · -- ahead of 30
    refine lv_if_eq (tgt := 29) hx hb dX5_use_22 (by decide) (fun c_11 => ?_) (fun c_11 => ?_)
    · -- yes
      have k_11 : v_4.toInt = (0 : Int64).toInt := lc_eq c_11
      refine lv_iconst (v := 0) hx hb dX5_use_29 (by decide) ?_
      exact jn_6 (0 : Int32) (show (kZ (0 : Int32)) from (by decide)) _ _ _ (hP.sub [0, 1, 2, 3] rfl) (hD.sub [0, 1, 2, 3] (by decide) rfl) hS (lv_sub hl [0, 1] rfl)
    · -- no
      have k_11 : ¬ v_4.toInt = (0 : Int64).toInt := lc_ne c_11
      refine lv_iconst (v := 1) hx hb dX5_use_25 (by decide) ?_
      refine lv_goto (tgt := 30) hx hb dX5_use_26 (by decide) ?_
      exact jn_6 (1 : Int32) (show (kZ (1 : Int32)) from (by decide)) _ _ _ (hP.sub [0, 1, 2, 3] rfl) (hD.sub [0, 1, 2, 3] (by decide) rfl) hS (lv_sub hl [0, 1] rfl)

def v_X5_gather : List Cond := .code yX5_gather cX5_gather 13 none :: ([.fieldLink RX5 239 "ArraySegmentsModel" "joinedLow" "J", .fieldLink RX5 243 "ArraySegmentsModel" "joinedHigh" "J", .methodLink RX5 169 yX5_has, .instanceMethod yX5_has, .selects RX5 yX5_has yX5_has, .initialized RX5, .fieldLink RX5 57 "ArraySegmentsModel" "most" "[J", .fieldLink RX5 60 "ArraySegmentsModel" "placeLow" "[J", .fieldLink RX5 63 "ArraySegmentsModel" "placeHigh" "[J"] ++ (wsX50 ++ (v_X5_has)))
theorem inv_X5_gather_X5 : ∀ w ∈ wsX50, w ∈ v_X5_gather := fun _ h => List.mem_cons_of_mem _ (List.mem_append_right _ (List.mem_append_left _ h))
theorem im_X5_gather_X5_has : ∀ w ∈ v_X5_has, w ∈ v_X5_gather := fun _ h => List.mem_cons_of_mem _ (List.mem_append_right _ (List.mem_append_right _ (h)))
set_option maxRecDepth 20000 in
theorem gd_X5_gather : gdL v_X5_gather := gdC (gdW (by decide +kernel)) (gdA (gdW (by decide +kernel)) (gdA gd_wsX50 gd_X5_has))
set_option maxRecDepth 20000 in
theorem h_X5_gather_X5_has_169 : GoodIn v_X5_gather (wsV RX5 169 RX5 yX5_has v_X5_has) := gdI [3, 4, 5, 6] rfl (by decide +kernel) (im_X5_gather_X5_has) gd_X5_has
abbrev sw_X5_gather (cI cJ cZ : ClassId) (gh : Nat) (g_acts : Int32) (g_kind : Value) (g_na : Value) (g_nb : Value) (g_nc : Value) (g_nd : Value) (g_ne : Value) (g_dropped : Value) (g_live : Value) (g_low : Value) (g_high : Value) (ga_sites : Nat) (g_nulls : Value) (g_there : Value) (g_lanes : Value) (g_least : Value) (ga_most : Nat) (ga_placeLow : Nat) (ga_placeHigh : Nat) (g_reached : Value) (g_mayThrow : Value) (g_status : Int32) (g_hasRun : Int32) (g_threw : Int32) (g_whereThrown : Int32) (g_value : Value) (g_means : Value) (g_laneOf : Value) (g_sizeOf : Value) (g_cells : Value) (g_copied : Value) (g_state : Int64) (g_joinedLow : Int64) (g_joinedHigh : Int64) (g_keptLow : Value) (g_keptHigh : Value) (gc_sites : Nat → Int64) (gc_most : Nat → Int64) (gc_placeLow : Nat → Int64) (gc_placeHigh : Nat → Int64) (ra : Int32) (fa : Int64) (ta : Int64) : va_W := [(gh, .inr (5, [.int g_acts, g_kind, g_na, g_nb, g_nc, g_nd, g_ne, g_dropped, g_live, g_low, g_high, .ref ga_sites, g_nulls, g_there, g_lanes, g_least, .ref ga_most, .ref ga_placeLow, .ref ga_placeHigh, g_reached, g_mayThrow, .int g_status, .int g_hasRun, .int g_threw, .int g_whereThrown, g_value, g_means, g_laneOf, g_sizeOf, g_cells, g_copied, .long g_state, .long g_joinedLow, .long g_joinedHigh, g_keptLow, g_keptHigh])), (ga_sites, .inl (cJ, 12, .inr (.inl gc_sites))), (ga_most, .inl (cJ, 80, .inr (.inl gc_most))), (ga_placeLow, .inl (cJ, 960, .inr (.inl gc_placeLow))), (ga_placeHigh, .inl (cJ, 960, .inr (.inl gc_placeHigh)))]
set_option maxHeartbeats 8000000 in
set_option maxRecDepth 100000 in
theorem s_X5_gather (l : Launch) (dC : Nat → ClassId) (dI : Nat → Nat → Nat) (cI cJ cZ : ClassId) (gh : Nat) (g_acts : Int32) (g_kind : Value) (g_na : Value) (g_nb : Value) (g_nc : Value) (g_nd : Value) (g_ne : Value) (g_dropped : Value) (g_live : Value) (g_low : Value) (g_high : Value) (ga_sites : Nat) (g_nulls : Value) (g_there : Value) (g_lanes : Value) (g_least : Value) (ga_most : Nat) (ga_placeLow : Nat) (ga_placeHigh : Nat) (g_reached : Value) (g_mayThrow : Value) (g_status : Int32) (g_hasRun : Int32) (g_threw : Int32) (g_whereThrown : Int32) (g_value : Value) (g_means : Value) (g_laneOf : Value) (g_sizeOf : Value) (g_cells : Value) (g_copied : Value) (g_state : Int64) (g_joinedLow : Int64) (g_joinedHigh : Int64) (g_keptLow : Value) (g_keptHigh : Value) (gc_sites : Nat → Int64) (gc_most : Nat → Int64) (gc_placeLow : Nat → Int64) (gc_placeHigh : Nat → Int64) (ra : Int32) (fa : Int64) (ta : Int64) (sz : Nat) (q_g_hasRun : kZ g_hasRun) (h_gc_most : ∀ j : Nat, l12 (gc_most j)) (hy_ra : V6 ra) (hy_fa : 0 ≤ fa.toInt ∧ fa.toInt ≤ 100) : Met l yX5_gather v_X5_gather ({ frames := 1, cells := 0, slots := 0, locals := 22 }) (va_Pc [.ref gh, .int ra, .long fa, .long ta] (cPre dC dI cI cJ cZ sz (sw_X5_gather cI cJ cZ gh g_acts g_kind g_na g_nb g_nc g_nd g_ne g_dropped g_live g_low g_high ga_sites g_nulls g_there g_lanes g_least ga_most ga_placeLow ga_placeHigh g_reached g_mayThrow g_status g_hasRun g_threw g_whereThrown g_value g_means g_laneOf g_sizeOf g_cells g_copied g_state g_joinedLow g_joinedHigh g_keptLow g_keptHigh gc_sites gc_most gc_placeLow gc_placeHigh ra fa ta))) (va_Qv (fun (u : Int64 × Int64) => True) (fun (u : Int64 × Int64) => cPost dC dI cI cJ cZ (va_A (sw_X5_gather cI cJ cZ gh g_acts g_kind g_na g_nb g_nc g_nd g_ne g_dropped g_live g_low g_high ga_sites g_nulls g_there g_lanes g_least ga_most ga_placeLow ga_placeHigh g_reached g_mayThrow g_status g_hasRun g_threw g_whereThrown g_value g_means g_laneOf g_sizeOf g_cells g_copied g_state g_joinedLow g_joinedHigh g_keptLow g_keptHigh gc_sites gc_most gc_placeLow gc_placeHigh ra fa ta) sz) [(gh, .inr (5, [.int g_acts, g_kind, g_na, g_nb, g_nc, g_nd, g_ne, g_dropped, g_live, g_low, g_high, .ref ga_sites, g_nulls, g_there, g_lanes, g_least, .ref ga_most, .ref ga_placeLow, .ref ga_placeHigh, g_reached, g_mayThrow, .int g_status, .int g_hasRun, .int g_threw, .int g_whereThrown, g_value, g_means, g_laneOf, g_sizeOf, g_cells, g_copied, .long g_state, .long (u.1), .long (u.2), g_keptLow, g_keptHigh])), (ga_sites, .inl (cJ, 12, .inr (.inl gc_sites))), (ga_most, .inl (cJ, 80, .inr (.inl gc_most))), (ga_placeLow, .inl (cJ, 960, .inr (.inl gc_placeLow))), (ga_placeHigh, .inl (cJ, 960, .inr (.inl gc_placeHigh)))]) (va_A (sw_X5_gather cI cJ cZ gh g_acts g_kind g_na g_nb g_nc g_nd g_ne g_dropped g_live g_low g_high ga_sites g_nulls g_there g_lanes g_least ga_most ga_placeLow ga_placeHigh g_reached g_mayThrow g_status g_hasRun g_threw g_whereThrown g_value g_means g_laneOf g_sizeOf g_cells g_copied g_state g_joinedLow g_joinedHigh g_keptLow g_keptHigh gc_sites gc_most gc_placeLow gc_placeHigh ra fa ta) sz)) 0 0 (va_A (sw_X5_gather cI cJ cZ gh g_acts g_kind g_na g_nb g_nc g_nd g_ne g_dropped g_live g_low g_high ga_sites g_nulls g_there g_lanes g_least ga_most ga_placeLow ga_placeHigh g_reached g_mayThrow g_status g_hasRun g_threw g_whereThrown g_value g_means g_laneOf g_sizeOf g_cells g_copied g_state g_joinedLow g_joinedHigh g_keptLow g_keptHigh gc_sites gc_most gc_placeLow gc_placeHigh ra fa ta) sz) := by
  refine Met.ofW (cc := cX5_gather) (maxL := 13) (ret := none) (by decide) rfl ?_
  intro p e s m args below meth c s₁ B hml hv
  obtain ⟨rfl, hsz, hP, hK, hD0, hN⟩ := hv
  have hx := B.exec
  have hb := B.bytes
  have hr := B.returns
  have hts := atoms_spec (ws := v_X5_gather) B.pre
  have hown : s.vm.findClass RX5 = some m.cls := findClass_of_methodNamed B.named
  have hlocks := B.notSynchronized
  subst hsz
  have hD := hD0.self (sz := s.heap.size)
  generalize hAe : va_A (sw_X5_gather cI cJ cZ gh g_acts g_kind g_na g_nb g_nc g_nd g_ne g_dropped g_live g_low g_high ga_sites g_nulls g_there g_lanes g_least ga_most ga_placeLow ga_placeHigh g_reached g_mayThrow g_status g_hasRun g_threw g_whereThrown g_value g_means g_laneOf g_sizeOf g_cells g_copied g_state g_joinedLow g_joinedHigh g_keptLow g_keptHigh gc_sites gc_most gc_placeLow gc_placeHigh ra fa ta) s.heap.size = A at hD ⊢
  have hA : ∀ q : Nat, s.heap.size ≤ q → A q := fun q h => by rw [← hAe]; exact Or.inr h
  clear hAe hD0
  have hS : va_S A s.heap s.heap [] := va_S.rf
  replace hP : va_P (dC, dI) vwCl [(gh, .inr (5, [.int g_acts, g_kind, g_na, g_nb, g_nc, g_nd, g_ne, g_dropped, g_live, g_low, g_high, .ref ga_sites, g_nulls, g_there, g_lanes, g_least, .ref ga_most, .ref ga_placeLow, .ref ga_placeHigh, g_reached, g_mayThrow, .int g_status, .int g_hasRun, .int g_threw, .int g_whereThrown, g_value, g_means, g_laneOf, g_sizeOf, g_cells, g_copied, .long g_state, .long g_joinedLow, .long g_joinedHigh, g_keptLow, g_keptHigh])), (ga_sites, .inl (cJ, 12, .inr (.inl gc_sites))), (ga_most, .inl (cJ, 80, .inr (.inl gc_most))), (ga_placeLow, .inl (cJ, 960, .inr (.inl gc_placeLow))), (ga_placeHigh, .inl (cJ, 960, .inr (.inl gc_placeHigh)))] s.heap := hP
  replace hD : va_D A [(gh, .inr (5, [.int g_acts, g_kind, g_na, g_nb, g_nc, g_nd, g_ne, g_dropped, g_live, g_low, g_high, .ref ga_sites, g_nulls, g_there, g_lanes, g_least, .ref ga_most, .ref ga_placeLow, .ref ga_placeHigh, g_reached, g_mayThrow, .int g_status, .int g_hasRun, .int g_threw, .int g_whereThrown, g_value, g_means, g_laneOf, g_sizeOf, g_cells, g_copied, .long g_state, .long g_joinedLow, .long g_joinedHigh, g_keptLow, g_keptHigh])), (ga_sites, .inl (cJ, 12, .inr (.inl gc_sites))), (ga_most, .inl (cJ, 80, .inr (.inl gc_most))), (ga_placeLow, .inl (cJ, 960, .inr (.inl gc_placeLow))), (ga_placeHigh, .inl (cJ, 960, .inr (.inl gc_placeHigh)))] := hD
  have hl := lv_entry ([.ref gh, .int ra, .long fa, .long ta]) (n := 13) (Nat.le_of_ble_eq_true rfl)
  rw [lg_entry_eq]
  generalize (lg_sl ([.ref gh, .int ra, .long fa, .long ta]) ++ List.replicate (13 - (lg_sl ([.ref gh, .int ra, .long fa, .long ta])).length) Slot.unset).toArray = ls at hl ⊢
  replace hl : lv_has ls 13 [(0, .ref gh), (1, .int ra), (2, .long fa), (4, .long ta)] := hl
  have z_0 : (0 : Int32).toInt = 0 := by decide
  have z_1 : (1 : Int32).toInt = 1 := by decide
  have z_40 : (40 : Int32).toInt = 40 := by decide
  refine lv_aload_n hx hb dX5_gather_0 rfl (lv_at hl 0 rfl) ?_
  refine lv_lconst (v := 1) hx hb dX5_gather_1 (by decide) ?_
  refine va_put (D := (dC, dI)) (ci := 5) (v := .long 1) (ty := .long) (C := RX5) (T := TX5) (N := 36) hx hb hts inv_X5_gather_X5 tyX5 tyX5_ok nmX5 hown hK hP hD hS 0 rfl rfl 32 (by decide) (hts (.fieldLink RX5 239 "ArraySegmentsModel" "joinedLow" "J") (List.mem_of_getElem? (i := 1) rfl)) (fun _ h9 => h9) rfl (by decide +kernel) rfl rfl (Nat.le_of_ble_eq_true rfl) dX5_gather_2 (fun H_1 locs_1 hP1 hD1 hS1 => ?_)
  replace hP : va_P (dC, dI) vwCl [(gh, .inr (5, [.int g_acts, g_kind, g_na, g_nb, g_nc, g_nd, g_ne, g_dropped, g_live, g_low, g_high, .ref ga_sites, g_nulls, g_there, g_lanes, g_least, .ref ga_most, .ref ga_placeLow, .ref ga_placeHigh, g_reached, g_mayThrow, .int g_status, .int g_hasRun, .int g_threw, .int g_whereThrown, g_value, g_means, g_laneOf, g_sizeOf, g_cells, g_copied, .long g_state, .long 1, .long g_joinedHigh, g_keptLow, g_keptHigh])), (ga_sites, .inl (cJ, 12, .inr (.inl gc_sites))), (ga_most, .inl (cJ, 80, .inr (.inl gc_most))), (ga_placeLow, .inl (cJ, 960, .inr (.inl gc_placeLow))), (ga_placeHigh, .inl (cJ, 960, .inr (.inl gc_placeHigh)))] H_1 := hP1
  replace hD : va_D A [(gh, .inr (5, [.int g_acts, g_kind, g_na, g_nb, g_nc, g_nd, g_ne, g_dropped, g_live, g_low, g_high, .ref ga_sites, g_nulls, g_there, g_lanes, g_least, .ref ga_most, .ref ga_placeLow, .ref ga_placeHigh, g_reached, g_mayThrow, .int g_status, .int g_hasRun, .int g_threw, .int g_whereThrown, g_value, g_means, g_laneOf, g_sizeOf, g_cells, g_copied, .long g_state, .long 1, .long g_joinedHigh, g_keptLow, g_keptHigh])), (ga_sites, .inl (cJ, 12, .inr (.inl gc_sites))), (ga_most, .inl (cJ, 80, .inr (.inl gc_most))), (ga_placeLow, .inl (cJ, 960, .inr (.inl gc_placeLow))), (ga_placeHigh, .inl (cJ, 960, .inr (.inl gc_placeHigh)))] := hD1
  replace hS := hS1
  clear hP1 hD1 hS1
  refine lv_aload_n hx hb dX5_gather_5 rfl (lv_at hl 0 rfl) ?_
  refine lv_lconst (v := 0) hx hb dX5_gather_6 (by decide) ?_
  refine va_put (D := (dC, dI)) (ci := 5) (v := .long 0) (ty := .long) (C := RX5) (T := TX5) (N := 36) hx hb hts inv_X5_gather_X5 tyX5 tyX5_ok nmX5 hown hK hP hD hS 0 rfl rfl 33 (by decide) (hts (.fieldLink RX5 243 "ArraySegmentsModel" "joinedHigh" "J") (List.mem_of_getElem? (i := 2) rfl)) (fun _ h9 => h9) rfl (by decide +kernel) rfl rfl (Nat.le_of_ble_eq_true rfl) dX5_gather_7 (fun H_2 locs_2 hP1 hD1 hS1 => ?_)
  replace hP : va_P (dC, dI) vwCl [(gh, .inr (5, [.int g_acts, g_kind, g_na, g_nb, g_nc, g_nd, g_ne, g_dropped, g_live, g_low, g_high, .ref ga_sites, g_nulls, g_there, g_lanes, g_least, .ref ga_most, .ref ga_placeLow, .ref ga_placeHigh, g_reached, g_mayThrow, .int g_status, .int g_hasRun, .int g_threw, .int g_whereThrown, g_value, g_means, g_laneOf, g_sizeOf, g_cells, g_copied, .long g_state, .long 1, .long 0, g_keptLow, g_keptHigh])), (ga_sites, .inl (cJ, 12, .inr (.inl gc_sites))), (ga_most, .inl (cJ, 80, .inr (.inl gc_most))), (ga_placeLow, .inl (cJ, 960, .inr (.inl gc_placeLow))), (ga_placeHigh, .inl (cJ, 960, .inr (.inl gc_placeHigh)))] H_2 := hP1
  replace hD : va_D A [(gh, .inr (5, [.int g_acts, g_kind, g_na, g_nb, g_nc, g_nd, g_ne, g_dropped, g_live, g_low, g_high, .ref ga_sites, g_nulls, g_there, g_lanes, g_least, .ref ga_most, .ref ga_placeLow, .ref ga_placeHigh, g_reached, g_mayThrow, .int g_status, .int g_hasRun, .int g_threw, .int g_whereThrown, g_value, g_means, g_laneOf, g_sizeOf, g_cells, g_copied, .long g_state, .long 1, .long 0, g_keptLow, g_keptHigh])), (ga_sites, .inl (cJ, 12, .inr (.inl gc_sites))), (ga_most, .inl (cJ, 80, .inr (.inl gc_most))), (ga_placeLow, .inl (cJ, 960, .inr (.inl gc_placeLow))), (ga_placeHigh, .inl (cJ, 960, .inr (.inl gc_placeHigh)))] := hD1
  replace hS := hS1
  clear hP1 hD1 hS1
  refine lv_iconst (v := 1) hx hb dX5_gather_10 (by decide) ?_
  refine lv_istore (lv' := [(6, .int 1), (0, .ref gh), (1, .int ra), (2, .long fa), (4, .long ta)]) hx hb dX5_gather_11 hl (by decide) rfl (fun ls1 hl1 => ?_)
  replace hl := hl1; clear hl1
  refine lv_iconst (v := 0) hx hb dX5_gather_13 (by decide) ?_
  refine lv_istore (lv' := [(7, .int 0), (6, .int 1), (0, .ref gh), (1, .int ra), (2, .long fa), (4, .long ta)]) hx hb dX5_gather_14 hl (by decide) rfl (fun ls1 hl1 => ?_)
  replace hl := hl1; clear hl1
  refine my_wloop (S := Int32 × Int32 × Int64 × Int64) (fun u => (0 ≤ (u.1).toInt ∧ (u.1).toInt ≤ 40) ∧ (0 ≤ (u.2.1).toInt ∧ (u.2.1).toInt ≤ 1)) (fun u => (40 - (u.1).toInt).toNat) (fun u => [(gh, .inr (5, [.int g_acts, g_kind, g_na, g_nb, g_nc, g_nd, g_ne, g_dropped, g_live, g_low, g_high, .ref ga_sites, g_nulls, g_there, g_lanes, g_least, .ref ga_most, .ref ga_placeLow, .ref ga_placeHigh, g_reached, g_mayThrow, .int g_status, .int g_hasRun, .int g_threw, .int g_whereThrown, g_value, g_means, g_laneOf, g_sizeOf, g_cells, g_copied, .long g_state, .long (u.2.2.1), .long (u.2.2.2), g_keptLow, g_keptHigh])), (ga_sites, .inl (cJ, 12, .inr (.inl gc_sites))), (ga_most, .inl (cJ, 80, .inr (.inl gc_most))), (ga_placeLow, .inl (cJ, 960, .inr (.inl gc_placeLow))), (ga_placeHigh, .inl (cJ, 960, .inr (.inl gc_placeHigh)))]) (fun u => [(7, .int (u.1)), (6, .int (u.2.1)), (0, .ref gh), (1, .int ra), (2, .long fa), (4, .long ta)]) (H0 := s.heap) (A := A) (D := (dC, dI)) (cl := vwCl) ((0 : Int32), (1 : Int32), (1 : Int64), (0 : Int64)) (show (0 ≤ (0 : Int32).toInt ∧ (0 : Int32).toInt ≤ 40) ∧ (0 ≤ (1 : Int32).toInt ∧ (1 : Int32).toInt ≤ 1) from ⟨⟨by omega, by omega⟩, ⟨by omega, by omega⟩⟩) (by exact hP) (by exact hD) hS (by exact hl) (fun u_3 hu_3 ih_3 H_3 locs_3 ls1 hP1 hD1 hS1 hl1 => ?_)
  obtain ⟨v_4, v_5, v_6, v_7⟩ := u_3
  replace hu_3 : (0 ≤ v_4.toInt ∧ v_4.toInt ≤ 40) ∧ (0 ≤ v_5.toInt ∧ v_5.toInt ≤ 1) := hu_3
  obtain ⟨q_v_4, q_v_5⟩ := hu_3
  replace hP : va_P (dC, dI) vwCl [(gh, .inr (5, [.int g_acts, g_kind, g_na, g_nb, g_nc, g_nd, g_ne, g_dropped, g_live, g_low, g_high, .ref ga_sites, g_nulls, g_there, g_lanes, g_least, .ref ga_most, .ref ga_placeLow, .ref ga_placeHigh, g_reached, g_mayThrow, .int g_status, .int g_hasRun, .int g_threw, .int g_whereThrown, g_value, g_means, g_laneOf, g_sizeOf, g_cells, g_copied, .long g_state, .long v_6, .long v_7, g_keptLow, g_keptHigh])), (ga_sites, .inl (cJ, 12, .inr (.inl gc_sites))), (ga_most, .inl (cJ, 80, .inr (.inl gc_most))), (ga_placeLow, .inl (cJ, 960, .inr (.inl gc_placeLow))), (ga_placeHigh, .inl (cJ, 960, .inr (.inl gc_placeHigh)))] H_3 := hP1
  replace hD : va_D A [(gh, .inr (5, [.int g_acts, g_kind, g_na, g_nb, g_nc, g_nd, g_ne, g_dropped, g_live, g_low, g_high, .ref ga_sites, g_nulls, g_there, g_lanes, g_least, .ref ga_most, .ref ga_placeLow, .ref ga_placeHigh, g_reached, g_mayThrow, .int g_status, .int g_hasRun, .int g_threw, .int g_whereThrown, g_value, g_means, g_laneOf, g_sizeOf, g_cells, g_copied, .long g_state, .long v_6, .long v_7, g_keptLow, g_keptHigh])), (ga_sites, .inl (cJ, 12, .inr (.inl gc_sites))), (ga_most, .inl (cJ, 80, .inr (.inl gc_most))), (ga_placeLow, .inl (cJ, 960, .inr (.inl gc_placeLow))), (ga_placeHigh, .inl (cJ, 960, .inr (.inl gc_placeHigh)))] := hD1
  replace hS := hS1
  clear hP1 hD1 hS1
  replace hl : lv_has ls1 13 [(7, .int v_4), (6, .int v_5), (0, .ref gh), (1, .int ra), (2, .long fa), (4, .long ta)] := hl1
  clear hl1
  refine lv_iload hx hb dX5_gather_16 (lv_at hl 0 rfl) ?_
  refine lv_bipush (v := 40) hx hb dX5_gather_18 (by decide) ?_
  refine lv_icmp_ge (tgt := 161) hx hb dX5_gather_20 (by decide) (fun c_8 => ?_) (fun c_8 => ?_)
  · -- yes
    have k_8 : (40 : Int32).toInt ≤ v_4.toInt := ci_ge c_8
    have hP9 := hP.sub (ws' := [(gh, .inr (5, [.int g_acts, g_kind, g_na, g_nb, g_nc, g_nd, g_ne, g_dropped, g_live, g_low, g_high, .ref ga_sites, g_nulls, g_there, g_lanes, g_least, .ref ga_most, .ref ga_placeLow, .ref ga_placeHigh, g_reached, g_mayThrow, .int g_status, .int g_hasRun, .int g_threw, .int g_whereThrown, g_value, g_means, g_laneOf, g_sizeOf, g_cells, g_copied, .long g_state, .long v_6, .long v_7, g_keptLow, g_keptHigh])), (ga_sites, .inl (cJ, 12, .inr (.inl gc_sites))), (ga_most, .inl (cJ, 80, .inr (.inl gc_most))), (ga_placeLow, .inl (cJ, 960, .inr (.inl gc_placeLow))), (ga_placeHigh, .inl (cJ, 960, .inr (.inl gc_placeHigh)))]) [0, 1, 2, 3, 4] rfl
    have hD9 := hD.sub (ws' := [(gh, .inr (5, [.int g_acts, g_kind, g_na, g_nb, g_nc, g_nd, g_ne, g_dropped, g_live, g_low, g_high, .ref ga_sites, g_nulls, g_there, g_lanes, g_least, .ref ga_most, .ref ga_placeLow, .ref ga_placeHigh, g_reached, g_mayThrow, .int g_status, .int g_hasRun, .int g_threw, .int g_whereThrown, g_value, g_means, g_laneOf, g_sizeOf, g_cells, g_copied, .long g_state, .long v_6, .long v_7, g_keptLow, g_keptHigh])), (ga_sites, .inl (cJ, 12, .inr (.inl gc_sites))), (ga_most, .inl (cJ, 80, .inr (.inl gc_most))), (ga_placeLow, .inl (cJ, 960, .inr (.inl gc_placeLow))), (ga_placeHigh, .inl (cJ, 960, .inr (.inl gc_placeHigh)))]) [0, 1, 2, 3, 4] (by decide) rfl
    exact W.vret hx hb hr (fun t ht hW => ⟨⟨(v_6, v_7), rfl, trivial, by rw [ht]; exact hP9, va_K.moved hW.alike hK, hD9⟩, hS.F ht⟩) hS.2.2 dX5_gather_161
  · -- no
    have k_8 : v_4.toInt < (40 : Int32).toInt := ci_nge c_8
    refine lv_lload_n hx hb dX5_gather_23 rfl (lv_at hl 4 rfl) ?_
    refine sf_l2i hx hb dX5_gather_24 ⟨by omega, by omega⟩ (fun v_9 q_v_9 => ?_)
    refine lv_istore (lv' := [(8, .int v_9), (7, .int v_4), (6, .int v_5), (0, .ref gh), (1, .int ra), (2, .long fa), (4, .long ta)]) hx hb dX5_gather_25 hl (by decide) rfl (fun ls1 hl1 => ?_)
    replace hl := hl1; clear hl1
    refine my_wloop (S := Int32 × Int32 × Int64 × Int64) (fun u => (0 ≤ (u.1).toInt ∧ (u.1).toInt ≤ 100) ∧ (0 ≤ (u.2.1).toInt ∧ (u.2.1).toInt ≤ 1)) (fun u => (12 - (u.1).toInt).toNat) (fun u => [(gh, .inr (5, [.int g_acts, g_kind, g_na, g_nb, g_nc, g_nd, g_ne, g_dropped, g_live, g_low, g_high, .ref ga_sites, g_nulls, g_there, g_lanes, g_least, .ref ga_most, .ref ga_placeLow, .ref ga_placeHigh, g_reached, g_mayThrow, .int g_status, .int g_hasRun, .int g_threw, .int g_whereThrown, g_value, g_means, g_laneOf, g_sizeOf, g_cells, g_copied, .long g_state, .long (u.2.2.1), .long (u.2.2.2), g_keptLow, g_keptHigh])), (ga_sites, .inl (cJ, 12, .inr (.inl gc_sites))), (ga_most, .inl (cJ, 80, .inr (.inl gc_most))), (ga_placeLow, .inl (cJ, 960, .inr (.inl gc_placeLow))), (ga_placeHigh, .inl (cJ, 960, .inr (.inl gc_placeHigh)))]) (fun u => [(8, .int (u.1)), (7, .int v_4), (6, .int (u.2.1)), (0, .ref gh), (1, .int ra), (2, .long fa), (4, .long ta)]) (H0 := s.heap) (A := A) (D := (dC, dI)) (cl := vwCl) (v_9, v_5, v_6, v_7) (show (0 ≤ v_9.toInt ∧ v_9.toInt ≤ 100) ∧ (0 ≤ v_5.toInt ∧ v_5.toInt ≤ 1) from ⟨⟨by omega, by omega⟩, ⟨by omega, by omega⟩⟩) (by exact hP) (by exact hD) hS (by exact hl) (fun u_10 hu_10 ih_10 H_10 locs_10 ls1 hP1 hD1 hS1 hl1 => ?_)
    obtain ⟨v_11, v_12, v_13, v_14⟩ := u_10
    replace hu_10 : (0 ≤ v_11.toInt ∧ v_11.toInt ≤ 100) ∧ (0 ≤ v_12.toInt ∧ v_12.toInt ≤ 1) := hu_10
    obtain ⟨q_v_11, q_v_12⟩ := hu_10
    replace hP : va_P (dC, dI) vwCl [(gh, .inr (5, [.int g_acts, g_kind, g_na, g_nb, g_nc, g_nd, g_ne, g_dropped, g_live, g_low, g_high, .ref ga_sites, g_nulls, g_there, g_lanes, g_least, .ref ga_most, .ref ga_placeLow, .ref ga_placeHigh, g_reached, g_mayThrow, .int g_status, .int g_hasRun, .int g_threw, .int g_whereThrown, g_value, g_means, g_laneOf, g_sizeOf, g_cells, g_copied, .long g_state, .long v_13, .long v_14, g_keptLow, g_keptHigh])), (ga_sites, .inl (cJ, 12, .inr (.inl gc_sites))), (ga_most, .inl (cJ, 80, .inr (.inl gc_most))), (ga_placeLow, .inl (cJ, 960, .inr (.inl gc_placeLow))), (ga_placeHigh, .inl (cJ, 960, .inr (.inl gc_placeHigh)))] H_10 := hP1
    replace hD : va_D A [(gh, .inr (5, [.int g_acts, g_kind, g_na, g_nb, g_nc, g_nd, g_ne, g_dropped, g_live, g_low, g_high, .ref ga_sites, g_nulls, g_there, g_lanes, g_least, .ref ga_most, .ref ga_placeLow, .ref ga_placeHigh, g_reached, g_mayThrow, .int g_status, .int g_hasRun, .int g_threw, .int g_whereThrown, g_value, g_means, g_laneOf, g_sizeOf, g_cells, g_copied, .long g_state, .long v_13, .long v_14, g_keptLow, g_keptHigh])), (ga_sites, .inl (cJ, 12, .inr (.inl gc_sites))), (ga_most, .inl (cJ, 80, .inr (.inl gc_most))), (ga_placeLow, .inl (cJ, 960, .inr (.inl gc_placeLow))), (ga_placeHigh, .inl (cJ, 960, .inr (.inl gc_placeHigh)))] := hD1
    replace hS := hS1
    clear hP1 hD1 hS1
    replace hl : lv_has ls1 13 [(8, .int v_11), (7, .int v_4), (6, .int v_12), (0, .ref gh), (1, .int ra), (2, .long fa), (4, .long ta)] := hl1
    clear hl1
    refine lv_aload_n hx hb dX5_gather_27 rfl (lv_at hl 3 rfl) ?_
    refine lv_iload_n hx hb dX5_gather_28 rfl (lv_at hl 4 rfl) ?_
    refine lv_iload hx hb dX5_gather_29 (lv_at hl 1 rfl) ?_
    have hPc := hP.sub (ws' := [(gh, .inr (5, [.int g_acts, g_kind, g_na, g_nb, g_nc, g_nd, g_ne, g_dropped, g_live, g_low, g_high, .ref ga_sites, g_nulls, g_there, g_lanes, g_least, .ref ga_most, .ref ga_placeLow, .ref ga_placeHigh, g_reached, g_mayThrow, .int g_status, .int g_hasRun, .int g_threw, .int g_whereThrown, g_value, g_means, g_laneOf, g_sizeOf, g_cells, g_copied, .long g_state, .long v_13, .long v_14, g_keptLow, g_keptHigh])), (ga_sites, .inl (cJ, 12, .inr (.inl gc_sites)))]) [0, 1] rfl
    have hDc := hD.sub (ws' := [(gh, .inr (5, [.int g_acts, g_kind, g_na, g_nb, g_nc, g_nd, g_ne, g_dropped, g_live, g_low, g_high, .ref ga_sites, g_nulls, g_there, g_lanes, g_least, .ref ga_most, .ref ga_placeLow, .ref ga_placeHigh, g_reached, g_mayThrow, .int g_status, .int g_hasRun, .int g_threw, .int g_whereThrown, g_value, g_means, g_laneOf, g_sizeOf, g_cells, g_copied, .long g_state, .long v_13, .long v_14, g_keptLow, g_keptHigh])), (ga_sites, .inl (cJ, 12, .inr (.inl gc_sites)))]) [0, 1] (by decide) rfl
    have hFc := va_free (wc := [(gh, .inr (5, [.int g_acts, g_kind, g_na, g_nb, g_nc, g_nd, g_ne, g_dropped, g_live, g_low, g_high, .ref ga_sites, g_nulls, g_there, g_lanes, g_least, .ref ga_most, .ref ga_placeLow, .ref ga_placeHigh, g_reached, g_mayThrow, .int g_status, .int g_hasRun, .int g_threw, .int g_whereThrown, g_value, g_means, g_laneOf, g_sizeOf, g_cells, g_copied, .long g_state, .long v_13, .long v_14, g_keptLow, g_keptHigh])), (ga_sites, .inl (cJ, 12, .inr (.inl gc_sites)))]) hD hS hA [0, 1] rfl
    refine va_calli (va_runV (As := [.int ra, .int v_4]) (rest := []) ⟨hx, hb, hml, hown, hts⟩ (s_X5_has l dC dI cI cJ cZ gh g_acts g_kind g_na g_nb g_nc g_nd g_ne g_dropped g_live g_low g_high ga_sites g_nulls g_there g_lanes g_least (.ref ga_most) (.ref ga_placeLow) (.ref ga_placeHigh) g_reached g_mayThrow g_status g_hasRun g_threw g_whereThrown g_value g_means g_laneOf g_sizeOf g_cells g_copied g_state v_13 v_14 g_keptLow g_keptHigh gc_sites ra v_4 H_10.size q_g_hasRun (by first | assumption | omega)) (cwV 2 hts h_X5_gather_X5_has_169 rfl rfl rfl (by decide +kernel) ⟨Nat.le_of_ble_eq_true rfl, Nat.le_of_ble_eq_true rfl⟩) ⟨cPre_blind, va_recv hK hPc (ci := 5) (q0 := 0) rfl rfl, cPre_of hK hN hPc hDc⟩ rfl rfl hl.1 rfl (lv_room (Nat.le_of_ble_eq_true rfl)) dX5_gather_31 ⟨Nat.le_of_ble_eq_true rfl, Nat.le_of_ble_eq_true rfl⟩) hS (fun q _ h => hFc q h) hFc (fun r_15 u_15 t_15 H_15 locs_15 ht hvm hw_15 hB hz1 hk1 hS1 => ?_)
    obtain ⟨hP1, hK1, hD1⟩ := hB
    rw [ht] at hP1
    obtain ⟨hP2, hD2⟩ := va_join (wr := [(ga_most, .inl (cJ, 80, .inr (.inl gc_most))), (ga_placeLow, .inl (cJ, 960, .inr (.inl gc_placeLow))), (ga_placeHigh, .inl (cJ, 960, .inr (.inl gc_placeHigh)))]) (w1 := [(gh, .inr (5, [.int g_acts, g_kind, g_na, g_nb, g_nc, g_nd, g_ne, g_dropped, g_live, g_low, g_high, .ref ga_sites, g_nulls, g_there, g_lanes, g_least, .ref ga_most, .ref ga_placeLow, .ref ga_placeHigh, g_reached, g_mayThrow, .int g_status, .int g_hasRun, .int g_threw, .int g_whereThrown, g_value, g_means, g_laneOf, g_sizeOf, g_cells, g_copied, .long g_state, .long v_13, .long v_14, g_keptLow, g_keptHigh])), (ga_sites, .inl (cJ, 12, .inr (.inl gc_sites)))]) hP hD [0, 1] [2, 3, 4] rfl rfl (by decide) (by decide) hk1 hFc hP1 hD1
    clear hPc hDc hFc hP1 hD1 hK1 hk1 hz1 hvm ht
    replace hP : va_P (dC, dI) vwCl [(ga_most, .inl (cJ, 80, .inr (.inl gc_most))), (ga_placeLow, .inl (cJ, 960, .inr (.inl gc_placeLow))), (ga_placeHigh, .inl (cJ, 960, .inr (.inl gc_placeHigh))), (gh, .inr (5, [.int g_acts, g_kind, g_na, g_nb, g_nc, g_nd, g_ne, g_dropped, g_live, g_low, g_high, .ref ga_sites, g_nulls, g_there, g_lanes, g_least, .ref ga_most, .ref ga_placeLow, .ref ga_placeHigh, g_reached, g_mayThrow, .int g_status, .int g_hasRun, .int g_threw, .int g_whereThrown, g_value, g_means, g_laneOf, g_sizeOf, g_cells, g_copied, .long g_state, .long v_13, .long v_14, g_keptLow, g_keptHigh])), (ga_sites, .inl (cJ, 12, .inr (.inl gc_sites)))] H_15 := hP2
    replace hD : va_D A [(ga_most, .inl (cJ, 80, .inr (.inl gc_most))), (ga_placeLow, .inl (cJ, 960, .inr (.inl gc_placeLow))), (ga_placeHigh, .inl (cJ, 960, .inr (.inl gc_placeHigh))), (gh, .inr (5, [.int g_acts, g_kind, g_na, g_nb, g_nc, g_nd, g_ne, g_dropped, g_live, g_low, g_high, .ref ga_sites, g_nulls, g_there, g_lanes, g_least, .ref ga_most, .ref ga_placeLow, .ref ga_placeHigh, g_reached, g_mayThrow, .int g_status, .int g_hasRun, .int g_threw, .int g_whereThrown, g_value, g_means, g_laneOf, g_sizeOf, g_cells, g_copied, .long g_state, .long v_13, .long v_14, g_keptLow, g_keptHigh])), (ga_sites, .inl (cJ, 12, .inr (.inl gc_sites)))] := hD2
    replace hS := hS1
    clear hP2 hD2 hS1
    replace hw_15 : (kZ r_15) := hw_15
    have q_r_15 := hw_15
    refine my_join (S := Unit) (fun u => True) (fun u => [(ga_most, .inl (cJ, 80, .inr (.inl gc_most))), (ga_placeLow, .inl (cJ, 960, .inr (.inl gc_placeLow))), (ga_placeHigh, .inl (cJ, 960, .inr (.inl gc_placeHigh))), (gh, .inr (5, [.int g_acts, g_kind, g_na, g_nb, g_nc, g_nd, g_ne, g_dropped, g_live, g_low, g_high, .ref ga_sites, g_nulls, g_there, g_lanes, g_least, .ref ga_most, .ref ga_placeLow, .ref ga_placeHigh, g_reached, g_mayThrow, .int g_status, .int g_hasRun, .int g_threw, .int g_whereThrown, g_value, g_means, g_laneOf, g_sizeOf, g_cells, g_copied, .long g_state, .long v_13, .long v_14, g_keptLow, g_keptHigh])), (ga_sites, .inl (cJ, 12, .inr (.inl gc_sites)))]) (fun u => [(8, .int v_11), (7, .int v_4), (6, .int v_12), (0, .ref gh), (1, .int ra), (2, .long fa), (4, .long ta)]) (fun u => []) (nL := 13) (H0 := s.heap) (A := A) (D := (dC, dI)) (cl := vwCl) 155 (fun u_17 hu_17 H_17 locs_17 ls1 hP1 hD1 hS1 hl1 => ?_) (fun jn_17 => ?_)
    · -- behind 155
      replace hP : va_P (dC, dI) vwCl [(ga_most, .inl (cJ, 80, .inr (.inl gc_most))), (ga_placeLow, .inl (cJ, 960, .inr (.inl gc_placeLow))), (ga_placeHigh, .inl (cJ, 960, .inr (.inl gc_placeHigh))), (gh, .inr (5, [.int g_acts, g_kind, g_na, g_nb, g_nc, g_nd, g_ne, g_dropped, g_live, g_low, g_high, .ref ga_sites, g_nulls, g_there, g_lanes, g_least, .ref ga_most, .ref ga_placeLow, .ref ga_placeHigh, g_reached, g_mayThrow, .int g_status, .int g_hasRun, .int g_threw, .int g_whereThrown, g_value, g_means, g_laneOf, g_sizeOf, g_cells, g_copied, .long g_state, .long v_13, .long v_14, g_keptLow, g_keptHigh])), (ga_sites, .inl (cJ, 12, .inr (.inl gc_sites)))] H_17 := hP1
      replace hD : va_D A [(ga_most, .inl (cJ, 80, .inr (.inl gc_most))), (ga_placeLow, .inl (cJ, 960, .inr (.inl gc_placeLow))), (ga_placeHigh, .inl (cJ, 960, .inr (.inl gc_placeHigh))), (gh, .inr (5, [.int g_acts, g_kind, g_na, g_nb, g_nc, g_nd, g_ne, g_dropped, g_live, g_low, g_high, .ref ga_sites, g_nulls, g_there, g_lanes, g_least, .ref ga_most, .ref ga_placeLow, .ref ga_placeHigh, g_reached, g_mayThrow, .int g_status, .int g_hasRun, .int g_threw, .int g_whereThrown, g_value, g_means, g_laneOf, g_sizeOf, g_cells, g_copied, .long g_state, .long v_13, .long v_14, g_keptLow, g_keptHigh])), (ga_sites, .inl (cJ, 12, .inr (.inl gc_sites)))] := hD1
      replace hS := hS1
      clear hP1 hD1 hS1
      replace hl : lv_has ls1 13 [(8, .int v_11), (7, .int v_4), (6, .int v_12), (0, .ref gh), (1, .int ra), (2, .long fa), (4, .long ta)] := hl1
      clear hl1
      refine sf_iinc hx hb dX5_gather_155 hl (k := 1) (x := v_4) (w := 1) rfl (by decide) (by decide) ⟨by omega, by omega⟩ (fun v_18 q_v_18 ls1 hl1 => ?_)
      replace hl : lv_has ls1 13 [(7, .int v_18), (8, .int v_11), (6, .int v_12), (0, .ref gh), (1, .int ra), (2, .long fa), (4, .long ta)] := hl1
      clear hl1
      refine lv_goto (tgt := 16) hx hb dX5_gather_158 (by decide) ?_
      exact ih_3 (v_18, v_12, v_13, v_14) (show (0 ≤ v_18.toInt ∧ v_18.toInt ≤ 40) ∧ (0 ≤ v_12.toInt ∧ v_12.toInt ≤ 1) from ⟨⟨by omega, by omega⟩, ⟨by omega, by omega⟩⟩) (by show (40 - v_18.toInt).toNat < (40 - v_4.toInt).toNat; omega) _ _ _ (hP.sub [3, 4, 0, 1, 2] rfl) (hD.sub [3, 4, 0, 1, 2] (by decide) rfl) hS (lv_sub hl [0, 2, 3, 4, 5, 6] rfl)
    · -- ahead of 155
      refine lv_if_eq (tgt := 155) hx hb dX5_gather_34 (by decide) (fun c_19 => ?_) (fun c_19 => ?_)
      · -- yes
        have k_19 : r_15.toInt = (0 : Int32).toInt := ci_eq c_19
        exact jn_17 () (show True from trivial) _ _ _ (hP.sub [0, 1, 2, 3, 4] rfl) (hD.sub [0, 1, 2, 3, 4] (by decide) rfl) hS (lv_sub hl [0, 1, 2, 3, 4, 5, 6] rfl)
      · -- no
        have k_19 : ¬ r_15.toInt = (0 : Int32).toInt := ci_ne c_19
        refine lv_iload hx hb dX5_gather_37 (lv_at hl 0 rfl) ?_
        refine sf_i2l hx hb dX5_gather_39 (fun v_20 q_v_20 => ?_)
        refine lv_lload hx hb dX5_gather_40 (lv_at hl 6 rfl) ?_
        refine W.lcmp hx hb dX5_gather_42 ?_
        refine lv_if_ge (tgt := 155) hx hb dX5_gather_43 (by decide) (fun c_21 => ?_) (fun c_21 => ?_)
        · -- yes
          have k_21 : ta.toInt ≤ v_20.toInt := lc_ge c_21
          exact jn_17 () (show True from trivial) _ _ _ (hP.sub [0, 1, 2, 3, 4] rfl) (hD.sub [0, 1, 2, 3, 4] (by decide) rfl) hS (lv_sub hl [0, 1, 2, 3, 4, 5, 6] rfl)
        · -- no
          have k_21 : v_20.toInt < ta.toInt := lc_nge c_21
          refine lv_iload hx hb dX5_gather_46 (lv_at hl 0 rfl) ?_
          refine sf_i2l hx hb dX5_gather_48 (fun v_22 q_v_22 => ?_)
          refine lv_aload_n hx hb dX5_gather_49 rfl (lv_at hl 3 rfl) ?_
          refine va_get (D := (dC, dI)) (ci := 5) (v := .ref ga_most) (C := RX5) (T := TX5) (N := 36) hx hb hts inv_X5_gather_X5 hown hK hP 3 rfl rfl 16 (by decide) (hts (.fieldLink RX5 57 "ArraySegmentsModel" "most" "[J") (List.mem_of_getElem? (i := 7) rfl)) (fun _ h9 => h9) rfl dX5_gather_50 ?_
          refine lv_iload hx hb dX5_gather_53 (lv_at hl 1 rfl) ?_
          refine sf_lald l12 hx hb hK hP 0 1 rfl rfl h_gc_most (vp_in_iff.mpr ⟨by omega, by omega⟩) dX5_gather_55 (fun v_23 q_v_23 e_v_23 => ?_)
          refine W.lcmp hx hb dX5_gather_56 ?_
          refine lv_if_ge (tgt := 155) hx hb dX5_gather_57 (by decide) (fun c_24 => ?_) (fun c_24 => ?_)
          · -- yes
            have k_24 : v_23.toInt ≤ v_22.toInt := lc_ge c_24
            exact jn_17 () (show True from trivial) _ _ _ (hP.sub [0, 1, 2, 3, 4] rfl) (hD.sub [0, 1, 2, 3, 4] (by decide) rfl) hS (lv_sub hl [0, 1, 2, 3, 4, 5, 6] rfl)
          · -- no
            have k_24 : v_22.toInt < v_23.toInt := lc_nge c_24
            refine lv_aload_n hx hb dX5_gather_60 rfl (lv_at hl 3 rfl) ?_
            refine va_get (D := (dC, dI)) (ci := 5) (v := .ref ga_placeLow) (C := RX5) (T := TX5) (N := 36) hx hb hts inv_X5_gather_X5 hown hK hP 3 rfl rfl 17 (by decide) (hts (.fieldLink RX5 60 "ArraySegmentsModel" "placeLow" "[J") (List.mem_of_getElem? (i := 8) rfl)) (fun _ h9 => h9) rfl dX5_gather_61 ?_
            refine lv_bipush (v := 12) hx hb dX5_gather_64 (by decide) ?_
            refine lv_iload hx hb dX5_gather_66 (lv_at hl 1 rfl) ?_
            refine sf_imul (w := 12) (z := v_4.toInt) hx hb dX5_gather_68 (by decide) rfl ⟨by omega, by omega⟩ (fun v_25 q_v_25 => ?_)
            refine lv_iload hx hb dX5_gather_69 (lv_at hl 0 rfl) ?_
            refine sf_iadd hx hb dX5_gather_71 ⟨by omega, by omega⟩ (fun v_26 q_v_26 => ?_)
            refine sf_lald lT hx hb hK hP 1 1 rfl rfl (fun _ => trivial) (vp_in_iff.mpr ⟨by omega, by omega⟩) dX5_gather_72 (fun v_27 q_v_27 e_v_27 => ?_)
            refine lv_lstore (lv' := [(9, .long v_27), (8, .int v_11), (7, .int v_4), (6, .int v_12), (0, .ref gh), (1, .int ra), (2, .long fa), (4, .long ta)]) hx hb dX5_gather_73 hl (by decide) rfl (fun ls1 hl1 => ?_)
            replace hl := hl1; clear hl1
            refine lv_aload_n hx hb dX5_gather_75 rfl (lv_at hl 4 rfl) ?_
            refine va_get (D := (dC, dI)) (ci := 5) (v := .ref ga_placeHigh) (C := RX5) (T := TX5) (N := 36) hx hb hts inv_X5_gather_X5 hown hK hP 3 rfl rfl 18 (by decide) (hts (.fieldLink RX5 63 "ArraySegmentsModel" "placeHigh" "[J") (List.mem_of_getElem? (i := 9) rfl)) (fun _ h9 => h9) rfl dX5_gather_76 ?_
            refine lv_bipush (v := 12) hx hb dX5_gather_79 (by decide) ?_
            refine lv_iload hx hb dX5_gather_81 (lv_at hl 2 rfl) ?_
            refine sf_imul (w := 12) (z := v_4.toInt) hx hb dX5_gather_83 (by decide) rfl ⟨by omega, by omega⟩ (fun v_28 q_v_28 => ?_)
            refine lv_iload hx hb dX5_gather_84 (lv_at hl 1 rfl) ?_
            refine sf_iadd hx hb dX5_gather_86 ⟨by omega, by omega⟩ (fun v_29 q_v_29 => ?_)
            refine sf_lald lT hx hb hK hP 2 1 rfl rfl (fun _ => trivial) (vp_in_iff.mpr ⟨by omega, by omega⟩) dX5_gather_87 (fun v_30 q_v_30 e_v_30 => ?_)
            refine lv_lstore (lv' := [(11, .long v_30), (9, .long v_27), (8, .int v_11), (7, .int v_4), (6, .int v_12), (0, .ref gh), (1, .int ra), (2, .long fa), (4, .long ta)]) hx hb dX5_gather_88 hl (by decide) rfl (fun ls1 hl1 => ?_)
            replace hl := hl1; clear hl1
            refine lv_aload_n hx hb dX5_gather_90 rfl (lv_at hl 5 rfl) ?_
            refine lv_iload hx hb dX5_gather_91 (lv_at hl 4 rfl) ?_
            refine my_join (S := Int64) (fun u => True) (fun u => [(ga_most, .inl (cJ, 80, .inr (.inl gc_most))), (ga_placeLow, .inl (cJ, 960, .inr (.inl gc_placeLow))), (ga_placeHigh, .inl (cJ, 960, .inr (.inl gc_placeHigh))), (gh, .inr (5, [.int g_acts, g_kind, g_na, g_nb, g_nc, g_nd, g_ne, g_dropped, g_live, g_low, g_high, .ref ga_sites, g_nulls, g_there, g_lanes, g_least, .ref ga_most, .ref ga_placeLow, .ref ga_placeHigh, g_reached, g_mayThrow, .int g_status, .int g_hasRun, .int g_threw, .int g_whereThrown, g_value, g_means, g_laneOf, g_sizeOf, g_cells, g_copied, .long g_state, .long v_13, .long v_14, g_keptLow, g_keptHigh])), (ga_sites, .inl (cJ, 12, .inr (.inl gc_sites)))]) (fun u => [(11, .long v_30), (9, .long v_27), (8, .int v_11), (7, .int v_4), (6, .int v_12), (0, .ref gh), (1, .int ra), (2, .long fa), (4, .long ta)]) (fun u => [.long (u), .ref gh]) (nL := 13) (H0 := s.heap) (A := A) (D := (dC, dI)) (cl := vwCl) 115 (fun u_32 hu_32 H_32 locs_32 ls1 hP1 hD1 hS1 hl1 => ?_) (fun jn_32 => ?_)
            · -- behind 115
              obtain ⟨v_33, rfl⟩ : ∃ z, z = u_32 := ⟨_, rfl⟩
              replace hP : va_P (dC, dI) vwCl [(ga_most, .inl (cJ, 80, .inr (.inl gc_most))), (ga_placeLow, .inl (cJ, 960, .inr (.inl gc_placeLow))), (ga_placeHigh, .inl (cJ, 960, .inr (.inl gc_placeHigh))), (gh, .inr (5, [.int g_acts, g_kind, g_na, g_nb, g_nc, g_nd, g_ne, g_dropped, g_live, g_low, g_high, .ref ga_sites, g_nulls, g_there, g_lanes, g_least, .ref ga_most, .ref ga_placeLow, .ref ga_placeHigh, g_reached, g_mayThrow, .int g_status, .int g_hasRun, .int g_threw, .int g_whereThrown, g_value, g_means, g_laneOf, g_sizeOf, g_cells, g_copied, .long g_state, .long v_13, .long v_14, g_keptLow, g_keptHigh])), (ga_sites, .inl (cJ, 12, .inr (.inl gc_sites)))] H_32 := hP1
              replace hD : va_D A [(ga_most, .inl (cJ, 80, .inr (.inl gc_most))), (ga_placeLow, .inl (cJ, 960, .inr (.inl gc_placeLow))), (ga_placeHigh, .inl (cJ, 960, .inr (.inl gc_placeHigh))), (gh, .inr (5, [.int g_acts, g_kind, g_na, g_nb, g_nc, g_nd, g_ne, g_dropped, g_live, g_low, g_high, .ref ga_sites, g_nulls, g_there, g_lanes, g_least, .ref ga_most, .ref ga_placeLow, .ref ga_placeHigh, g_reached, g_mayThrow, .int g_status, .int g_hasRun, .int g_threw, .int g_whereThrown, g_value, g_means, g_laneOf, g_sizeOf, g_cells, g_copied, .long g_state, .long v_13, .long v_14, g_keptLow, g_keptHigh])), (ga_sites, .inl (cJ, 12, .inr (.inl gc_sites)))] := hD1
              replace hS := hS1
              clear hP1 hD1 hS1
              replace hl : lv_has ls1 13 [(11, .long v_30), (9, .long v_27), (8, .int v_11), (7, .int v_4), (6, .int v_12), (0, .ref gh), (1, .int ra), (2, .long fa), (4, .long ta)] := hl1
              clear hl1
              refine va_put (D := (dC, dI)) (ci := 5) (v := .long v_33) (ty := .long) (C := RX5) (T := TX5) (N := 36) hx hb hts inv_X5_gather_X5 tyX5 tyX5_ok nmX5 hown hK hP hD hS 3 rfl rfl 32 (by decide) (hts (.fieldLink RX5 239 "ArraySegmentsModel" "joinedLow" "J") (List.mem_of_getElem? (i := 1) rfl)) (fun _ h9 => h9) rfl (by decide +kernel) rfl rfl (Nat.le_of_ble_eq_true rfl) dX5_gather_115 (fun H_34 locs_34 hP1 hD1 hS1 => ?_)
              replace hP : va_P (dC, dI) vwCl [(ga_most, .inl (cJ, 80, .inr (.inl gc_most))), (ga_placeLow, .inl (cJ, 960, .inr (.inl gc_placeLow))), (ga_placeHigh, .inl (cJ, 960, .inr (.inl gc_placeHigh))), (gh, .inr (5, [.int g_acts, g_kind, g_na, g_nb, g_nc, g_nd, g_ne, g_dropped, g_live, g_low, g_high, .ref ga_sites, g_nulls, g_there, g_lanes, g_least, .ref ga_most, .ref ga_placeLow, .ref ga_placeHigh, g_reached, g_mayThrow, .int g_status, .int g_hasRun, .int g_threw, .int g_whereThrown, g_value, g_means, g_laneOf, g_sizeOf, g_cells, g_copied, .long g_state, .long v_33, .long v_14, g_keptLow, g_keptHigh])), (ga_sites, .inl (cJ, 12, .inr (.inl gc_sites)))] H_34 := hP1
              replace hD : va_D A [(ga_most, .inl (cJ, 80, .inr (.inl gc_most))), (ga_placeLow, .inl (cJ, 960, .inr (.inl gc_placeLow))), (ga_placeHigh, .inl (cJ, 960, .inr (.inl gc_placeHigh))), (gh, .inr (5, [.int g_acts, g_kind, g_na, g_nb, g_nc, g_nd, g_ne, g_dropped, g_live, g_low, g_high, .ref ga_sites, g_nulls, g_there, g_lanes, g_least, .ref ga_most, .ref ga_placeLow, .ref ga_placeHigh, g_reached, g_mayThrow, .int g_status, .int g_hasRun, .int g_threw, .int g_whereThrown, g_value, g_means, g_laneOf, g_sizeOf, g_cells, g_copied, .long g_state, .long v_33, .long v_14, g_keptLow, g_keptHigh])), (ga_sites, .inl (cJ, 12, .inr (.inl gc_sites)))] := hD1
              replace hS := hS1
              clear hP1 hD1 hS1
              refine lv_aload_n hx hb dX5_gather_118 rfl (lv_at hl 5 rfl) ?_
              refine lv_iload hx hb dX5_gather_119 (lv_at hl 4 rfl) ?_
              refine my_join (S := Int64) (fun u => True) (fun u => [(ga_most, .inl (cJ, 80, .inr (.inl gc_most))), (ga_placeLow, .inl (cJ, 960, .inr (.inl gc_placeLow))), (ga_placeHigh, .inl (cJ, 960, .inr (.inl gc_placeHigh))), (gh, .inr (5, [.int g_acts, g_kind, g_na, g_nb, g_nc, g_nd, g_ne, g_dropped, g_live, g_low, g_high, .ref ga_sites, g_nulls, g_there, g_lanes, g_least, .ref ga_most, .ref ga_placeLow, .ref ga_placeHigh, g_reached, g_mayThrow, .int g_status, .int g_hasRun, .int g_threw, .int g_whereThrown, g_value, g_means, g_laneOf, g_sizeOf, g_cells, g_copied, .long g_state, .long v_33, .long v_14, g_keptLow, g_keptHigh])), (ga_sites, .inl (cJ, 12, .inr (.inl gc_sites)))]) (fun u => [(11, .long v_30), (9, .long v_27), (8, .int v_11), (7, .int v_4), (6, .int v_12), (0, .ref gh), (1, .int ra), (2, .long fa), (4, .long ta)]) (fun u => [.long (u), .ref gh]) (nL := 13) (H0 := s.heap) (A := A) (D := (dC, dI)) (cl := vwCl) 143 (fun u_36 hu_36 H_36 locs_36 ls1 hP1 hD1 hS1 hl1 => ?_) (fun jn_36 => ?_)
              · -- behind 143
                obtain ⟨v_37, rfl⟩ : ∃ z, z = u_36 := ⟨_, rfl⟩
                replace hP : va_P (dC, dI) vwCl [(ga_most, .inl (cJ, 80, .inr (.inl gc_most))), (ga_placeLow, .inl (cJ, 960, .inr (.inl gc_placeLow))), (ga_placeHigh, .inl (cJ, 960, .inr (.inl gc_placeHigh))), (gh, .inr (5, [.int g_acts, g_kind, g_na, g_nb, g_nc, g_nd, g_ne, g_dropped, g_live, g_low, g_high, .ref ga_sites, g_nulls, g_there, g_lanes, g_least, .ref ga_most, .ref ga_placeLow, .ref ga_placeHigh, g_reached, g_mayThrow, .int g_status, .int g_hasRun, .int g_threw, .int g_whereThrown, g_value, g_means, g_laneOf, g_sizeOf, g_cells, g_copied, .long g_state, .long v_33, .long v_14, g_keptLow, g_keptHigh])), (ga_sites, .inl (cJ, 12, .inr (.inl gc_sites)))] H_36 := hP1
                replace hD : va_D A [(ga_most, .inl (cJ, 80, .inr (.inl gc_most))), (ga_placeLow, .inl (cJ, 960, .inr (.inl gc_placeLow))), (ga_placeHigh, .inl (cJ, 960, .inr (.inl gc_placeHigh))), (gh, .inr (5, [.int g_acts, g_kind, g_na, g_nb, g_nc, g_nd, g_ne, g_dropped, g_live, g_low, g_high, .ref ga_sites, g_nulls, g_there, g_lanes, g_least, .ref ga_most, .ref ga_placeLow, .ref ga_placeHigh, g_reached, g_mayThrow, .int g_status, .int g_hasRun, .int g_threw, .int g_whereThrown, g_value, g_means, g_laneOf, g_sizeOf, g_cells, g_copied, .long g_state, .long v_33, .long v_14, g_keptLow, g_keptHigh])), (ga_sites, .inl (cJ, 12, .inr (.inl gc_sites)))] := hD1
                replace hS := hS1
                clear hP1 hD1 hS1
                replace hl : lv_has ls1 13 [(11, .long v_30), (9, .long v_27), (8, .int v_11), (7, .int v_4), (6, .int v_12), (0, .ref gh), (1, .int ra), (2, .long fa), (4, .long ta)] := hl1
                clear hl1
                refine va_put (D := (dC, dI)) (ci := 5) (v := .long v_37) (ty := .long) (C := RX5) (T := TX5) (N := 36) hx hb hts inv_X5_gather_X5 tyX5 tyX5_ok nmX5 hown hK hP hD hS 3 rfl rfl 33 (by decide) (hts (.fieldLink RX5 243 "ArraySegmentsModel" "joinedHigh" "J") (List.mem_of_getElem? (i := 2) rfl)) (fun _ h9 => h9) rfl (by decide +kernel) rfl rfl (Nat.le_of_ble_eq_true rfl) dX5_gather_143 (fun H_38 locs_38 hP1 hD1 hS1 => ?_)
                replace hP : va_P (dC, dI) vwCl [(ga_most, .inl (cJ, 80, .inr (.inl gc_most))), (ga_placeLow, .inl (cJ, 960, .inr (.inl gc_placeLow))), (ga_placeHigh, .inl (cJ, 960, .inr (.inl gc_placeHigh))), (gh, .inr (5, [.int g_acts, g_kind, g_na, g_nb, g_nc, g_nd, g_ne, g_dropped, g_live, g_low, g_high, .ref ga_sites, g_nulls, g_there, g_lanes, g_least, .ref ga_most, .ref ga_placeLow, .ref ga_placeHigh, g_reached, g_mayThrow, .int g_status, .int g_hasRun, .int g_threw, .int g_whereThrown, g_value, g_means, g_laneOf, g_sizeOf, g_cells, g_copied, .long g_state, .long v_33, .long v_37, g_keptLow, g_keptHigh])), (ga_sites, .inl (cJ, 12, .inr (.inl gc_sites)))] H_38 := hP1
                replace hD : va_D A [(ga_most, .inl (cJ, 80, .inr (.inl gc_most))), (ga_placeLow, .inl (cJ, 960, .inr (.inl gc_placeLow))), (ga_placeHigh, .inl (cJ, 960, .inr (.inl gc_placeHigh))), (gh, .inr (5, [.int g_acts, g_kind, g_na, g_nb, g_nc, g_nd, g_ne, g_dropped, g_live, g_low, g_high, .ref ga_sites, g_nulls, g_there, g_lanes, g_least, .ref ga_most, .ref ga_placeLow, .ref ga_placeHigh, g_reached, g_mayThrow, .int g_status, .int g_hasRun, .int g_threw, .int g_whereThrown, g_value, g_means, g_laneOf, g_sizeOf, g_cells, g_copied, .long g_state, .long v_33, .long v_37, g_keptLow, g_keptHigh])), (ga_sites, .inl (cJ, 12, .inr (.inl gc_sites)))] := hD1
                replace hS := hS1
                clear hP1 hD1 hS1
                refine lv_iconst (v := 0) hx hb dX5_gather_146 (by decide) ?_
                refine lv_istore (lv' := [(6, .int 0), (11, .long v_30), (9, .long v_27), (8, .int v_11), (7, .int v_4), (0, .ref gh), (1, .int ra), (2, .long fa), (4, .long ta)]) hx hb dX5_gather_147 hl (by decide) rfl (fun ls1 hl1 => ?_)
                replace hl := hl1; clear hl1
                refine sf_iinc hx hb dX5_gather_149 hl (k := 3) (x := v_11) (w := 1) rfl (by decide) (by decide) ⟨by omega, by omega⟩ (fun v_39 q_v_39 ls1 hl1 => ?_)
                replace hl : lv_has ls1 13 [(8, .int v_39), (6, .int 0), (11, .long v_30), (9, .long v_27), (7, .int v_4), (0, .ref gh), (1, .int ra), (2, .long fa), (4, .long ta)] := hl1
                clear hl1
                refine lv_goto (tgt := 27) hx hb dX5_gather_152 (by decide) ?_
                exact ih_10 (v_39, (0 : Int32), v_33, v_37) (show (0 ≤ v_39.toInt ∧ v_39.toInt ≤ 100) ∧ (0 ≤ (0 : Int32).toInt ∧ (0 : Int32).toInt ≤ 1) from ⟨⟨by omega, by omega⟩, ⟨by omega, by omega⟩⟩) (by show (12 - v_39.toInt).toNat < (12 - v_11.toInt).toNat; omega) _ _ _ (hP.sub [3, 4, 0, 1, 2] rfl) (hD.sub [3, 4, 0, 1, 2] (by decide) rfl) hS (lv_sub hl [0, 4, 1, 5, 6, 7, 8] rfl)
              · -- ahead of 143
                refine lv_if_ne (tgt := 134) hx hb dX5_gather_121 (by decide) (fun c_40 => ?_) (fun c_40 => ?_)
                · -- yes
                  have k_40 : ¬ v_12.toInt = (0 : Int32).toInt := ci_ne c_40
                  refine lv_lload hx hb dX5_gather_134 (lv_at hl 0 rfl) ?_
                  refine lv_goto (tgt := 143) hx hb dX5_gather_136 (by decide) ?_
                  exact jn_36 v_30 (show True from trivial) _ _ _ (hP.sub [0, 1, 2, 3, 4] rfl) (hD.sub [0, 1, 2, 3, 4] (by decide) rfl) hS (lv_sub hl [0, 1, 2, 3, 4, 5, 6, 7, 8] rfl)
                · -- no
                  have k_40 : v_12.toInt = (0 : Int32).toInt := ci_eq c_40
                  refine lv_lload hx hb dX5_gather_124 (lv_at hl 0 rfl) ?_
                  refine lv_aload_n hx hb dX5_gather_126 rfl (lv_at hl 5 rfl) ?_
                  refine va_get (D := (dC, dI)) (ci := 5) (v := .long v_14) (C := RX5) (T := TX5) (N := 36) hx hb hts inv_X5_gather_X5 hown hK hP 3 rfl rfl 33 (by decide) (hts (.fieldLink RX5 243 "ArraySegmentsModel" "joinedHigh" "J") (List.mem_of_getElem? (i := 2) rfl)) (fun _ h9 => h9) rfl dX5_gather_127 ?_
                  refine W.lcmp hx hb dX5_gather_130 ?_
                  refine lv_if_le (tgt := 139) hx hb dX5_gather_131 (by decide) (fun c_41 => ?_) (fun c_41 => ?_)
                  · -- yes
                    have k_41 : v_30.toInt ≤ v_14.toInt := lc_le c_41
                    refine lv_aload_n hx hb dX5_gather_139 rfl (lv_at hl 5 rfl) ?_
                    refine va_get (D := (dC, dI)) (ci := 5) (v := .long v_14) (C := RX5) (T := TX5) (N := 36) hx hb hts inv_X5_gather_X5 hown hK hP 3 rfl rfl 33 (by decide) (hts (.fieldLink RX5 243 "ArraySegmentsModel" "joinedHigh" "J") (List.mem_of_getElem? (i := 2) rfl)) (fun _ h9 => h9) rfl dX5_gather_140 ?_
                    exact jn_36 v_14 (show True from trivial) _ _ _ (hP.sub [0, 1, 2, 3, 4] rfl) (hD.sub [0, 1, 2, 3, 4] (by decide) rfl) hS (lv_sub hl [0, 1, 2, 3, 4, 5, 6, 7, 8] rfl)
                  · -- no
                    have k_41 : v_14.toInt < v_30.toInt := lc_nle c_41
                    refine lv_lload hx hb dX5_gather_134 (lv_at hl 0 rfl) ?_
                    refine lv_goto (tgt := 143) hx hb dX5_gather_136 (by decide) ?_
                    exact jn_36 v_30 (show True from trivial) _ _ _ (hP.sub [0, 1, 2, 3, 4] rfl) (hD.sub [0, 1, 2, 3, 4] (by decide) rfl) hS (lv_sub hl [0, 1, 2, 3, 4, 5, 6, 7, 8] rfl)
            · -- ahead of 115
              refine lv_if_ne (tgt := 106) hx hb dX5_gather_93 (by decide) (fun c_42 => ?_) (fun c_42 => ?_)
              · -- yes
                have k_42 : ¬ v_12.toInt = (0 : Int32).toInt := ci_ne c_42
                refine lv_lload hx hb dX5_gather_106 (lv_at hl 1 rfl) ?_
                refine lv_goto (tgt := 115) hx hb dX5_gather_108 (by decide) ?_
                exact jn_32 v_27 (show True from trivial) _ _ _ (hP.sub [0, 1, 2, 3, 4] rfl) (hD.sub [0, 1, 2, 3, 4] (by decide) rfl) hS (lv_sub hl [0, 1, 2, 3, 4, 5, 6, 7, 8] rfl)
              · -- no
                have k_42 : v_12.toInt = (0 : Int32).toInt := ci_eq c_42
                refine lv_lload hx hb dX5_gather_96 (lv_at hl 1 rfl) ?_
                refine lv_aload_n hx hb dX5_gather_98 rfl (lv_at hl 5 rfl) ?_
                refine va_get (D := (dC, dI)) (ci := 5) (v := .long v_13) (C := RX5) (T := TX5) (N := 36) hx hb hts inv_X5_gather_X5 hown hK hP 3 rfl rfl 32 (by decide) (hts (.fieldLink RX5 239 "ArraySegmentsModel" "joinedLow" "J") (List.mem_of_getElem? (i := 1) rfl)) (fun _ h9 => h9) rfl dX5_gather_99 ?_
                refine W.lcmp hx hb dX5_gather_102 ?_
                refine lv_if_ge (tgt := 111) hx hb dX5_gather_103 (by decide) (fun c_43 => ?_) (fun c_43 => ?_)
                · -- yes
                  have k_43 : v_13.toInt ≤ v_27.toInt := lc_ge c_43
                  refine lv_aload_n hx hb dX5_gather_111 rfl (lv_at hl 5 rfl) ?_
                  refine va_get (D := (dC, dI)) (ci := 5) (v := .long v_13) (C := RX5) (T := TX5) (N := 36) hx hb hts inv_X5_gather_X5 hown hK hP 3 rfl rfl 32 (by decide) (hts (.fieldLink RX5 239 "ArraySegmentsModel" "joinedLow" "J") (List.mem_of_getElem? (i := 1) rfl)) (fun _ h9 => h9) rfl dX5_gather_112 ?_
                  exact jn_32 v_13 (show True from trivial) _ _ _ (hP.sub [0, 1, 2, 3, 4] rfl) (hD.sub [0, 1, 2, 3, 4] (by decide) rfl) hS (lv_sub hl [0, 1, 2, 3, 4, 5, 6, 7, 8] rfl)
                · -- no
                  have k_43 : v_27.toInt < v_13.toInt := lc_nge c_43
                  refine lv_lload hx hb dX5_gather_106 (lv_at hl 1 rfl) ?_
                  refine lv_goto (tgt := 115) hx hb dX5_gather_108 (by decide) ?_
                  exact jn_32 v_27 (show True from trivial) _ _ _ (hP.sub [0, 1, 2, 3, 4] rfl) (hD.sub [0, 1, 2, 3, 4] (by decide) rfl) hS (lv_sub hl [0, 1, 2, 3, 4, 5, 6, 7, 8] rfl)

def v_X5_strong : List Cond := .code yX5_strong cX5_strong 11 none :: ([.fieldLink RX5 90 "ArraySegmentsModel" "keptLow" "[J", .fieldLink RX5 60 "ArraySegmentsModel" "placeLow" "[J", .fieldLink RX5 93 "ArraySegmentsModel" "keptHigh" "[J", .fieldLink RX5 63 "ArraySegmentsModel" "placeHigh" "[J", .constantLong RX5 202 (12)] ++ (wsX50))
theorem inv_X5_strong_X5 : ∀ w ∈ wsX50, w ∈ v_X5_strong := fun _ h => List.mem_cons_of_mem _ (List.mem_append_right _ (h))
set_option maxRecDepth 20000 in
theorem gd_X5_strong : gdL v_X5_strong := gdC (gdW (by decide +kernel)) (gdA (gdW (by decide +kernel)) gd_wsX50)
abbrev sw_X5_strong (cI cJ cZ : ClassId) (gh : Nat) (g_acts : Int32) (g_kind : Value) (g_na : Value) (g_nb : Value) (g_nc : Value) (g_nd : Value) (g_ne : Value) (g_dropped : Value) (g_live : Value) (g_low : Value) (g_high : Value) (g_sites : Value) (g_nulls : Value) (g_there : Value) (g_lanes : Value) (g_least : Value) (g_most : Value) (ga_placeLow : Nat) (ga_placeHigh : Nat) (g_reached : Value) (g_mayThrow : Value) (g_status : Int32) (g_hasRun : Int32) (g_threw : Int32) (g_whereThrown : Int32) (g_value : Value) (g_means : Value) (g_laneOf : Value) (g_sizeOf : Value) (g_cells : Value) (g_copied : Value) (g_state : Int64) (g_joinedLow : Int64) (g_joinedHigh : Int64) (ga_keptLow : Nat) (ga_keptHigh : Nat) (gc_placeLow : Nat → Int64) (gc_placeHigh : Nat → Int64) (gc_keptLow : Nat → Int64) (gc_keptHigh : Nat → Int64) (pa : Int32) (qa : Int32) (xa : Int64) (ya : Int64) (za : Int64) : va_W := [(gh, .inr (5, [.int g_acts, g_kind, g_na, g_nb, g_nc, g_nd, g_ne, g_dropped, g_live, g_low, g_high, g_sites, g_nulls, g_there, g_lanes, g_least, g_most, .ref ga_placeLow, .ref ga_placeHigh, g_reached, g_mayThrow, .int g_status, .int g_hasRun, .int g_threw, .int g_whereThrown, g_value, g_means, g_laneOf, g_sizeOf, g_cells, g_copied, .long g_state, .long g_joinedLow, .long g_joinedHigh, .ref ga_keptLow, .ref ga_keptHigh])), (ga_placeLow, .inl (cJ, 960, .inr (.inl gc_placeLow))), (ga_placeHigh, .inl (cJ, 960, .inr (.inl gc_placeHigh))), (ga_keptLow, .inl (cJ, 12, .inr (.inl gc_keptLow))), (ga_keptHigh, .inl (cJ, 12, .inr (.inl gc_keptHigh)))]
set_option maxHeartbeats 8000000 in
set_option maxRecDepth 100000 in
theorem s_X5_strong (l : Launch) (dC : Nat → ClassId) (dI : Nat → Nat → Nat) (cI cJ cZ : ClassId) (gh : Nat) (g_acts : Int32) (g_kind : Value) (g_na : Value) (g_nb : Value) (g_nc : Value) (g_nd : Value) (g_ne : Value) (g_dropped : Value) (g_live : Value) (g_low : Value) (g_high : Value) (g_sites : Value) (g_nulls : Value) (g_there : Value) (g_lanes : Value) (g_least : Value) (g_most : Value) (ga_placeLow : Nat) (ga_placeHigh : Nat) (g_reached : Value) (g_mayThrow : Value) (g_status : Int32) (g_hasRun : Int32) (g_threw : Int32) (g_whereThrown : Int32) (g_value : Value) (g_means : Value) (g_laneOf : Value) (g_sizeOf : Value) (g_cells : Value) (g_copied : Value) (g_state : Int64) (g_joinedLow : Int64) (g_joinedHigh : Int64) (ga_keptLow : Nat) (ga_keptHigh : Nat) (gc_placeLow : Nat → Int64) (gc_placeHigh : Nat → Int64) (gc_keptLow : Nat → Int64) (gc_keptHigh : Nat → Int64) (pa : Int32) (qa : Int32) (xa : Int64) (ya : Int64) (za : Int64) (sz : Nat) (q_g_hasRun : kZ g_hasRun) (hy_pa : 0 ≤ pa.toInt ∧ pa.toInt ≤ 39) (hy_qa : 0 ≤ qa.toInt ∧ qa.toInt ≤ 39) (hy_xa : 0 ≤ xa.toInt ∧ xa.toInt ≤ 2147483647) (hy_ya : 0 ≤ ya.toInt ∧ ya.toInt ≤ 2147483647) : Met l yX5_strong v_X5_strong ({ frames := 0, cells := 0, slots := 0, locals := 0 }) (va_Pc [.ref gh, .int pa, .int qa, .long xa, .long ya, .long za] (cPre dC dI cI cJ cZ sz (sw_X5_strong cI cJ cZ gh g_acts g_kind g_na g_nb g_nc g_nd g_ne g_dropped g_live g_low g_high g_sites g_nulls g_there g_lanes g_least g_most ga_placeLow ga_placeHigh g_reached g_mayThrow g_status g_hasRun g_threw g_whereThrown g_value g_means g_laneOf g_sizeOf g_cells g_copied g_state g_joinedLow g_joinedHigh ga_keptLow ga_keptHigh gc_placeLow gc_placeHigh gc_keptLow gc_keptHigh pa qa xa ya za))) (va_Qv (fun (u : (Nat → Int64) × (Nat → Int64) × (Nat → Int64) × (Nat → Int64)) => True) (fun (u : (Nat → Int64) × (Nat → Int64) × (Nat → Int64) × (Nat → Int64)) => cPost dC dI cI cJ cZ (va_A (sw_X5_strong cI cJ cZ gh g_acts g_kind g_na g_nb g_nc g_nd g_ne g_dropped g_live g_low g_high g_sites g_nulls g_there g_lanes g_least g_most ga_placeLow ga_placeHigh g_reached g_mayThrow g_status g_hasRun g_threw g_whereThrown g_value g_means g_laneOf g_sizeOf g_cells g_copied g_state g_joinedLow g_joinedHigh ga_keptLow ga_keptHigh gc_placeLow gc_placeHigh gc_keptLow gc_keptHigh pa qa xa ya za) sz) [(gh, .inr (5, [.int g_acts, g_kind, g_na, g_nb, g_nc, g_nd, g_ne, g_dropped, g_live, g_low, g_high, g_sites, g_nulls, g_there, g_lanes, g_least, g_most, .ref ga_placeLow, .ref ga_placeHigh, g_reached, g_mayThrow, .int g_status, .int g_hasRun, .int g_threw, .int g_whereThrown, g_value, g_means, g_laneOf, g_sizeOf, g_cells, g_copied, .long g_state, .long g_joinedLow, .long g_joinedHigh, .ref ga_keptLow, .ref ga_keptHigh])), (ga_placeLow, .inl (cJ, 960, .inr (.inl (u.1)))), (ga_placeHigh, .inl (cJ, 960, .inr (.inl (u.2.1)))), (ga_keptLow, .inl (cJ, 12, .inr (.inl (u.2.2.1)))), (ga_keptHigh, .inl (cJ, 12, .inr (.inl (u.2.2.2))))]) (va_A (sw_X5_strong cI cJ cZ gh g_acts g_kind g_na g_nb g_nc g_nd g_ne g_dropped g_live g_low g_high g_sites g_nulls g_there g_lanes g_least g_most ga_placeLow ga_placeHigh g_reached g_mayThrow g_status g_hasRun g_threw g_whereThrown g_value g_means g_laneOf g_sizeOf g_cells g_copied g_state g_joinedLow g_joinedHigh ga_keptLow ga_keptHigh gc_placeLow gc_placeHigh gc_keptLow gc_keptHigh pa qa xa ya za) sz)) 0 0 (va_A (sw_X5_strong cI cJ cZ gh g_acts g_kind g_na g_nb g_nc g_nd g_ne g_dropped g_live g_low g_high g_sites g_nulls g_there g_lanes g_least g_most ga_placeLow ga_placeHigh g_reached g_mayThrow g_status g_hasRun g_threw g_whereThrown g_value g_means g_laneOf g_sizeOf g_cells g_copied g_state g_joinedLow g_joinedHigh ga_keptLow ga_keptHigh gc_placeLow gc_placeHigh gc_keptLow gc_keptHigh pa qa xa ya za) sz) := by
  refine Met.ofW (cc := cX5_strong) (maxL := 11) (ret := none) (by decide) rfl ?_
  intro p e s m args below meth c s₁ B hml hv
  obtain ⟨rfl, hsz, hP, hK, hD0, hN⟩ := hv
  have hx := B.exec
  have hb := B.bytes
  have hr := B.returns
  have hts := atoms_spec (ws := v_X5_strong) B.pre
  have hown : s.vm.findClass RX5 = some m.cls := findClass_of_methodNamed B.named
  have hlocks := B.notSynchronized
  subst hsz
  have hD := hD0.self (sz := s.heap.size)
  generalize hAe : va_A (sw_X5_strong cI cJ cZ gh g_acts g_kind g_na g_nb g_nc g_nd g_ne g_dropped g_live g_low g_high g_sites g_nulls g_there g_lanes g_least g_most ga_placeLow ga_placeHigh g_reached g_mayThrow g_status g_hasRun g_threw g_whereThrown g_value g_means g_laneOf g_sizeOf g_cells g_copied g_state g_joinedLow g_joinedHigh ga_keptLow ga_keptHigh gc_placeLow gc_placeHigh gc_keptLow gc_keptHigh pa qa xa ya za) s.heap.size = A at hD ⊢
  have hA : ∀ q : Nat, s.heap.size ≤ q → A q := fun q h => by rw [← hAe]; exact Or.inr h
  clear hAe hD0
  have hS : va_S A s.heap s.heap [] := va_S.rf
  replace hP : va_P (dC, dI) vwCl [(gh, .inr (5, [.int g_acts, g_kind, g_na, g_nb, g_nc, g_nd, g_ne, g_dropped, g_live, g_low, g_high, g_sites, g_nulls, g_there, g_lanes, g_least, g_most, .ref ga_placeLow, .ref ga_placeHigh, g_reached, g_mayThrow, .int g_status, .int g_hasRun, .int g_threw, .int g_whereThrown, g_value, g_means, g_laneOf, g_sizeOf, g_cells, g_copied, .long g_state, .long g_joinedLow, .long g_joinedHigh, .ref ga_keptLow, .ref ga_keptHigh])), (ga_placeLow, .inl (cJ, 960, .inr (.inl gc_placeLow))), (ga_placeHigh, .inl (cJ, 960, .inr (.inl gc_placeHigh))), (ga_keptLow, .inl (cJ, 12, .inr (.inl gc_keptLow))), (ga_keptHigh, .inl (cJ, 12, .inr (.inl gc_keptHigh)))] s.heap := hP
  replace hD : va_D A [(gh, .inr (5, [.int g_acts, g_kind, g_na, g_nb, g_nc, g_nd, g_ne, g_dropped, g_live, g_low, g_high, g_sites, g_nulls, g_there, g_lanes, g_least, g_most, .ref ga_placeLow, .ref ga_placeHigh, g_reached, g_mayThrow, .int g_status, .int g_hasRun, .int g_threw, .int g_whereThrown, g_value, g_means, g_laneOf, g_sizeOf, g_cells, g_copied, .long g_state, .long g_joinedLow, .long g_joinedHigh, .ref ga_keptLow, .ref ga_keptHigh])), (ga_placeLow, .inl (cJ, 960, .inr (.inl gc_placeLow))), (ga_placeHigh, .inl (cJ, 960, .inr (.inl gc_placeHigh))), (ga_keptLow, .inl (cJ, 12, .inr (.inl gc_keptLow))), (ga_keptHigh, .inl (cJ, 12, .inr (.inl gc_keptHigh)))] := hD
  have hl := lv_entry ([.ref gh, .int pa, .int qa, .long xa, .long ya, .long za]) (n := 11) (Nat.le_of_ble_eq_true rfl)
  rw [lg_entry_eq]
  generalize (lg_sl ([.ref gh, .int pa, .int qa, .long xa, .long ya, .long za]) ++ List.replicate (11 - (lg_sl ([.ref gh, .int pa, .int qa, .long xa, .long ya, .long za])).length) Slot.unset).toArray = ls at hl ⊢
  replace hl : lv_has ls 11 [(0, .ref gh), (1, .int pa), (2, .int qa), (3, .long xa), (5, .long ya), (7, .long za)] := hl
  have z_0 : (0 : Int32).toInt = 0 := by decide
  have z_1 : (1 : Int32).toInt = 1 := by decide
  have z_12 : (12 : Int32).toInt = 12 := by decide
  have zl_0 : (0 : Int64).toInt = 0 := by decide
  have zl_1 : (1 : Int64).toInt = 1 := by decide
  have zl_12 : (12 : Int64).toInt = 12 := by decide
  refine lv_iconst (v := 0) hx hb dX5_strong_0 (by decide) ?_
  refine lv_istore (lv' := [(9, .int 0), (0, .ref gh), (1, .int pa), (2, .int qa), (3, .long xa), (5, .long ya), (7, .long za)]) hx hb dX5_strong_1 hl (by decide) rfl (fun ls1 hl1 => ?_)
  replace hl := hl1; clear hl1
  refine my_wloop (S := Int32 × (Nat → Int64) × (Nat → Int64)) (fun u => (0 ≤ (u.1).toInt ∧ (u.1).toInt ≤ 12)) (fun u => (12 - (u.1).toInt).toNat) (fun u => [(gh, .inr (5, [.int g_acts, g_kind, g_na, g_nb, g_nc, g_nd, g_ne, g_dropped, g_live, g_low, g_high, g_sites, g_nulls, g_there, g_lanes, g_least, g_most, .ref ga_placeLow, .ref ga_placeHigh, g_reached, g_mayThrow, .int g_status, .int g_hasRun, .int g_threw, .int g_whereThrown, g_value, g_means, g_laneOf, g_sizeOf, g_cells, g_copied, .long g_state, .long g_joinedLow, .long g_joinedHigh, .ref ga_keptLow, .ref ga_keptHigh])), (ga_placeLow, .inl (cJ, 960, .inr (.inl gc_placeLow))), (ga_placeHigh, .inl (cJ, 960, .inr (.inl gc_placeHigh))), (ga_keptLow, .inl (cJ, 12, .inr (.inl (u.2.1)))), (ga_keptHigh, .inl (cJ, 12, .inr (.inl (u.2.2))))]) (fun u => [(9, .int (u.1)), (0, .ref gh), (1, .int pa), (2, .int qa), (3, .long xa), (5, .long ya), (7, .long za)]) (H0 := s.heap) (A := A) (D := (dC, dI)) (cl := vwCl) ((0 : Int32), gc_keptLow, gc_keptHigh) (show (0 ≤ (0 : Int32).toInt ∧ (0 : Int32).toInt ≤ 12) from ⟨by omega, by omega⟩) (by exact hP) (by exact hD) hS (by exact hl) (fun u_1 hu_1 ih_1 H_1 locs_1 ls1 hP1 hD1 hS1 hl1 => ?_)
  obtain ⟨v_2, f_3, f_4⟩ := u_1
  replace hu_1 : (0 ≤ v_2.toInt ∧ v_2.toInt ≤ 12) := hu_1
  have q_v_2 := hu_1
  replace hP : va_P (dC, dI) vwCl [(gh, .inr (5, [.int g_acts, g_kind, g_na, g_nb, g_nc, g_nd, g_ne, g_dropped, g_live, g_low, g_high, g_sites, g_nulls, g_there, g_lanes, g_least, g_most, .ref ga_placeLow, .ref ga_placeHigh, g_reached, g_mayThrow, .int g_status, .int g_hasRun, .int g_threw, .int g_whereThrown, g_value, g_means, g_laneOf, g_sizeOf, g_cells, g_copied, .long g_state, .long g_joinedLow, .long g_joinedHigh, .ref ga_keptLow, .ref ga_keptHigh])), (ga_placeLow, .inl (cJ, 960, .inr (.inl gc_placeLow))), (ga_placeHigh, .inl (cJ, 960, .inr (.inl gc_placeHigh))), (ga_keptLow, .inl (cJ, 12, .inr (.inl f_3))), (ga_keptHigh, .inl (cJ, 12, .inr (.inl f_4)))] H_1 := hP1
  replace hD : va_D A [(gh, .inr (5, [.int g_acts, g_kind, g_na, g_nb, g_nc, g_nd, g_ne, g_dropped, g_live, g_low, g_high, g_sites, g_nulls, g_there, g_lanes, g_least, g_most, .ref ga_placeLow, .ref ga_placeHigh, g_reached, g_mayThrow, .int g_status, .int g_hasRun, .int g_threw, .int g_whereThrown, g_value, g_means, g_laneOf, g_sizeOf, g_cells, g_copied, .long g_state, .long g_joinedLow, .long g_joinedHigh, .ref ga_keptLow, .ref ga_keptHigh])), (ga_placeLow, .inl (cJ, 960, .inr (.inl gc_placeLow))), (ga_placeHigh, .inl (cJ, 960, .inr (.inl gc_placeHigh))), (ga_keptLow, .inl (cJ, 12, .inr (.inl f_3))), (ga_keptHigh, .inl (cJ, 12, .inr (.inl f_4)))] := hD1
  replace hS := hS1
  clear hP1 hD1 hS1
  replace hl : lv_has ls1 11 [(9, .int v_2), (0, .ref gh), (1, .int pa), (2, .int qa), (3, .long xa), (5, .long ya), (7, .long za)] := hl1
  clear hl1
  refine lv_iload hx hb dX5_strong_3 (lv_at hl 0 rfl) ?_
  refine lv_bipush (v := 12) hx hb dX5_strong_5 (by decide) ?_
  refine lv_icmp_ge (tgt := 54) hx hb dX5_strong_7 (by decide) (fun c_5 => ?_) (fun c_5 => ?_)
  · -- yes
    have k_5 : (12 : Int32).toInt ≤ v_2.toInt := ci_ge c_5
    refine lv_lconst (v := 0) hx hb dX5_strong_54 (by decide) ?_
    refine lv_lstore (lv' := [(9, .long 0), (0, .ref gh), (1, .int pa), (2, .int qa), (3, .long xa), (5, .long ya), (7, .long za)]) hx hb dX5_strong_55 hl (by decide) rfl (fun ls1 hl1 => ?_)
    replace hl := hl1; clear hl1
    refine my_wloop (S := Int64 × (Nat → Int64) × (Nat → Int64)) (fun u => (0 ≤ (u.1).toInt ∧ (u.1).toInt ≤ 12)) (fun u => (12 - (u.1).toInt).toNat) (fun u => [(gh, .inr (5, [.int g_acts, g_kind, g_na, g_nb, g_nc, g_nd, g_ne, g_dropped, g_live, g_low, g_high, g_sites, g_nulls, g_there, g_lanes, g_least, g_most, .ref ga_placeLow, .ref ga_placeHigh, g_reached, g_mayThrow, .int g_status, .int g_hasRun, .int g_threw, .int g_whereThrown, g_value, g_means, g_laneOf, g_sizeOf, g_cells, g_copied, .long g_state, .long g_joinedLow, .long g_joinedHigh, .ref ga_keptLow, .ref ga_keptHigh])), (ga_placeLow, .inl (cJ, 960, .inr (.inl (u.2.1)))), (ga_placeHigh, .inl (cJ, 960, .inr (.inl (u.2.2)))), (ga_keptLow, .inl (cJ, 12, .inr (.inl f_3))), (ga_keptHigh, .inl (cJ, 12, .inr (.inl f_4)))]) (fun u => [(9, .long (u.1)), (0, .ref gh), (1, .int pa), (2, .int qa), (3, .long xa), (5, .long ya), (7, .long za)]) (H0 := s.heap) (A := A) (D := (dC, dI)) (cl := vwCl) ((0 : Int64), gc_placeLow, gc_placeHigh) (show (0 ≤ (0 : Int64).toInt ∧ (0 : Int64).toInt ≤ 12) from ⟨by omega, by omega⟩) (by exact hP) (by exact hD) hS (by exact hl) (fun u_6 hu_6 ih_6 H_6 locs_6 ls1 hP1 hD1 hS1 hl1 => ?_)
    obtain ⟨v_7, f_8, f_9⟩ := u_6
    replace hu_6 : (0 ≤ v_7.toInt ∧ v_7.toInt ≤ 12) := hu_6
    have q_v_7 := hu_6
    replace hP : va_P (dC, dI) vwCl [(gh, .inr (5, [.int g_acts, g_kind, g_na, g_nb, g_nc, g_nd, g_ne, g_dropped, g_live, g_low, g_high, g_sites, g_nulls, g_there, g_lanes, g_least, g_most, .ref ga_placeLow, .ref ga_placeHigh, g_reached, g_mayThrow, .int g_status, .int g_hasRun, .int g_threw, .int g_whereThrown, g_value, g_means, g_laneOf, g_sizeOf, g_cells, g_copied, .long g_state, .long g_joinedLow, .long g_joinedHigh, .ref ga_keptLow, .ref ga_keptHigh])), (ga_placeLow, .inl (cJ, 960, .inr (.inl f_8))), (ga_placeHigh, .inl (cJ, 960, .inr (.inl f_9))), (ga_keptLow, .inl (cJ, 12, .inr (.inl f_3))), (ga_keptHigh, .inl (cJ, 12, .inr (.inl f_4)))] H_6 := hP1
    replace hD : va_D A [(gh, .inr (5, [.int g_acts, g_kind, g_na, g_nb, g_nc, g_nd, g_ne, g_dropped, g_live, g_low, g_high, g_sites, g_nulls, g_there, g_lanes, g_least, g_most, .ref ga_placeLow, .ref ga_placeHigh, g_reached, g_mayThrow, .int g_status, .int g_hasRun, .int g_threw, .int g_whereThrown, g_value, g_means, g_laneOf, g_sizeOf, g_cells, g_copied, .long g_state, .long g_joinedLow, .long g_joinedHigh, .ref ga_keptLow, .ref ga_keptHigh])), (ga_placeLow, .inl (cJ, 960, .inr (.inl f_8))), (ga_placeHigh, .inl (cJ, 960, .inr (.inl f_9))), (ga_keptLow, .inl (cJ, 12, .inr (.inl f_3))), (ga_keptHigh, .inl (cJ, 12, .inr (.inl f_4)))] := hD1
    replace hS := hS1
    clear hP1 hD1 hS1
    replace hl : lv_has ls1 11 [(9, .long v_7), (0, .ref gh), (1, .int pa), (2, .int qa), (3, .long xa), (5, .long ya), (7, .long za)] := hl1
    clear hl1
    refine lv_lload hx hb dX5_strong_57 (lv_at hl 0 rfl) ?_
    refine lv_lload hx hb dX5_strong_59 (lv_at hl 6 rfl) ?_
    refine W.lcmp hx hb dX5_strong_61 ?_
    refine my_join (S := Unit) (fun u => True) (fun u => [(gh, .inr (5, [.int g_acts, g_kind, g_na, g_nb, g_nc, g_nd, g_ne, g_dropped, g_live, g_low, g_high, g_sites, g_nulls, g_there, g_lanes, g_least, g_most, .ref ga_placeLow, .ref ga_placeHigh, g_reached, g_mayThrow, .int g_status, .int g_hasRun, .int g_threw, .int g_whereThrown, g_value, g_means, g_laneOf, g_sizeOf, g_cells, g_copied, .long g_state, .long g_joinedLow, .long g_joinedHigh, .ref ga_keptLow, .ref ga_keptHigh])), (ga_placeLow, .inl (cJ, 960, .inr (.inl f_8))), (ga_placeHigh, .inl (cJ, 960, .inr (.inl f_9))), (ga_keptLow, .inl (cJ, 12, .inr (.inl f_3))), (ga_keptHigh, .inl (cJ, 12, .inr (.inl f_4)))]) (fun u => [(9, .long v_7), (0, .ref gh), (1, .int pa), (2, .int qa), (3, .long xa), (5, .long ya), (7, .long za)]) (fun u => []) (nL := 11) (H0 := s.heap) (A := A) (D := (dC, dI)) (cl := vwCl) 149 (fun u_11 hu_11 H_11 locs_11 ls1 hP1 hD1 hS1 hl1 => ?_) (fun jn_11 => ?_)
    · -- behind 149
      replace hP : va_P (dC, dI) vwCl [(gh, .inr (5, [.int g_acts, g_kind, g_na, g_nb, g_nc, g_nd, g_ne, g_dropped, g_live, g_low, g_high, g_sites, g_nulls, g_there, g_lanes, g_least, g_most, .ref ga_placeLow, .ref ga_placeHigh, g_reached, g_mayThrow, .int g_status, .int g_hasRun, .int g_threw, .int g_whereThrown, g_value, g_means, g_laneOf, g_sizeOf, g_cells, g_copied, .long g_state, .long g_joinedLow, .long g_joinedHigh, .ref ga_keptLow, .ref ga_keptHigh])), (ga_placeLow, .inl (cJ, 960, .inr (.inl f_8))), (ga_placeHigh, .inl (cJ, 960, .inr (.inl f_9))), (ga_keptLow, .inl (cJ, 12, .inr (.inl f_3))), (ga_keptHigh, .inl (cJ, 12, .inr (.inl f_4)))] H_11 := hP1
      replace hD : va_D A [(gh, .inr (5, [.int g_acts, g_kind, g_na, g_nb, g_nc, g_nd, g_ne, g_dropped, g_live, g_low, g_high, g_sites, g_nulls, g_there, g_lanes, g_least, g_most, .ref ga_placeLow, .ref ga_placeHigh, g_reached, g_mayThrow, .int g_status, .int g_hasRun, .int g_threw, .int g_whereThrown, g_value, g_means, g_laneOf, g_sizeOf, g_cells, g_copied, .long g_state, .long g_joinedLow, .long g_joinedHigh, .ref ga_keptLow, .ref ga_keptHigh])), (ga_placeLow, .inl (cJ, 960, .inr (.inl f_8))), (ga_placeHigh, .inl (cJ, 960, .inr (.inl f_9))), (ga_keptLow, .inl (cJ, 12, .inr (.inl f_3))), (ga_keptHigh, .inl (cJ, 12, .inr (.inl f_4)))] := hD1
      replace hS := hS1
      clear hP1 hD1 hS1
      replace hl : lv_has ls1 11 [(9, .long v_7), (0, .ref gh), (1, .int pa), (2, .int qa), (3, .long xa), (5, .long ya), (7, .long za)] := hl1
      clear hl1
      have hP9 := hP.sub (ws' := [(gh, .inr (5, [.int g_acts, g_kind, g_na, g_nb, g_nc, g_nd, g_ne, g_dropped, g_live, g_low, g_high, g_sites, g_nulls, g_there, g_lanes, g_least, g_most, .ref ga_placeLow, .ref ga_placeHigh, g_reached, g_mayThrow, .int g_status, .int g_hasRun, .int g_threw, .int g_whereThrown, g_value, g_means, g_laneOf, g_sizeOf, g_cells, g_copied, .long g_state, .long g_joinedLow, .long g_joinedHigh, .ref ga_keptLow, .ref ga_keptHigh])), (ga_placeLow, .inl (cJ, 960, .inr (.inl f_8))), (ga_placeHigh, .inl (cJ, 960, .inr (.inl f_9))), (ga_keptLow, .inl (cJ, 12, .inr (.inl f_3))), (ga_keptHigh, .inl (cJ, 12, .inr (.inl f_4)))]) [0, 1, 2, 3, 4] rfl
      have hD9 := hD.sub (ws' := [(gh, .inr (5, [.int g_acts, g_kind, g_na, g_nb, g_nc, g_nd, g_ne, g_dropped, g_live, g_low, g_high, g_sites, g_nulls, g_there, g_lanes, g_least, g_most, .ref ga_placeLow, .ref ga_placeHigh, g_reached, g_mayThrow, .int g_status, .int g_hasRun, .int g_threw, .int g_whereThrown, g_value, g_means, g_laneOf, g_sizeOf, g_cells, g_copied, .long g_state, .long g_joinedLow, .long g_joinedHigh, .ref ga_keptLow, .ref ga_keptHigh])), (ga_placeLow, .inl (cJ, 960, .inr (.inl f_8))), (ga_placeHigh, .inl (cJ, 960, .inr (.inl f_9))), (ga_keptLow, .inl (cJ, 12, .inr (.inl f_3))), (ga_keptHigh, .inl (cJ, 12, .inr (.inl f_4)))]) [0, 1, 2, 3, 4] (by decide) rfl
      exact W.vret hx hb hr (fun t ht hW => ⟨⟨(f_8, f_9, f_3, f_4), rfl, trivial, by rw [ht]; exact hP9, va_K.moved hW.alike hK, hD9⟩, hS.F ht⟩) hS.2.2 dX5_strong_149
    · -- ahead of 149
      refine lv_if_ge (tgt := 149) hx hb dX5_strong_62 (by decide) (fun c_12 => ?_) (fun c_12 => ?_)
      · -- yes
        have k_12 : za.toInt ≤ v_7.toInt := lc_ge c_12
        exact jn_11 () (show True from trivial) _ _ _ (hP.sub [0, 1, 2, 3, 4] rfl) (hD.sub [0, 1, 2, 3, 4] (by decide) rfl) hS (lv_sub hl [0, 1, 2, 3, 4, 5, 6] rfl)
      · -- no
        have k_12 : v_7.toInt < za.toInt := lc_nge c_12
        refine lv_lload_n hx hb dX5_strong_65 rfl (lv_at hl 4 rfl) ?_
        refine lv_lload hx hb dX5_strong_66 (lv_at hl 0 rfl) ?_
        refine sf_ladd hx hb dX5_strong_68 ⟨by omega, by omega⟩ (fun v_13 q_v_13 => ?_)
        refine lv_ldc2 hx hb hown (hts (.constantLong RX5 202 (12)) (List.mem_of_getElem? (i := 5) rfl)) dX5_strong_69 ?_
        refine W.lcmp hx hb dX5_strong_72 ?_
        refine lv_if_ge (tgt := 149) hx hb dX5_strong_73 (by decide) (fun c_14 => ?_) (fun c_14 => ?_)
        · -- yes
          have k_14 : (12 : Int64).toInt ≤ v_13.toInt := lc_ge c_14
          exact jn_11 () (show True from trivial) _ _ _ (hP.sub [0, 1, 2, 3, 4] rfl) (hD.sub [0, 1, 2, 3, 4] (by decide) rfl) hS (lv_sub hl [0, 1, 2, 3, 4, 5, 6] rfl)
        · -- no
          have k_14 : v_13.toInt < (12 : Int64).toInt := lc_nge c_14
          refine lv_lload hx hb dX5_strong_76 (lv_at hl 5 rfl) ?_
          refine lv_lload hx hb dX5_strong_78 (lv_at hl 0 rfl) ?_
          refine sf_ladd hx hb dX5_strong_80 ⟨by omega, by omega⟩ (fun v_15 q_v_15 => ?_)
          refine lv_ldc2 hx hb hown (hts (.constantLong RX5 202 (12)) (List.mem_of_getElem? (i := 5) rfl)) dX5_strong_81 ?_
          refine W.lcmp hx hb dX5_strong_84 ?_
          refine lv_if_ge (tgt := 149) hx hb dX5_strong_85 (by decide) (fun c_16 => ?_) (fun c_16 => ?_)
          · -- yes
            have k_16 : (12 : Int64).toInt ≤ v_15.toInt := lc_ge c_16
            exact jn_11 () (show True from trivial) _ _ _ (hP.sub [0, 1, 2, 3, 4] rfl) (hD.sub [0, 1, 2, 3, 4] (by decide) rfl) hS (lv_sub hl [0, 1, 2, 3, 4, 5, 6] rfl)
          · -- no
            have k_16 : v_15.toInt < (12 : Int64).toInt := lc_nge c_16
            refine lv_aload_n hx hb dX5_strong_88 rfl (lv_at hl 1 rfl) ?_
            refine va_get (D := (dC, dI)) (ci := 5) (v := .ref ga_placeLow) (C := RX5) (T := TX5) (N := 36) hx hb hts inv_X5_strong_X5 hown hK hP 0 rfl rfl 17 (by decide) (hts (.fieldLink RX5 60 "ArraySegmentsModel" "placeLow" "[J") (List.mem_of_getElem? (i := 2) rfl)) (fun _ h9 => h9) rfl dX5_strong_89 ?_
            refine lv_bipush (v := 12) hx hb dX5_strong_92 (by decide) ?_
            refine lv_iload_n hx hb dX5_strong_94 rfl (lv_at hl 3 rfl) ?_
            refine sf_imul (w := 12) (z := qa.toInt) hx hb dX5_strong_95 (by decide) rfl ⟨by omega, by omega⟩ (fun v_17 q_v_17 => ?_)
            refine lv_lload hx hb dX5_strong_96 (lv_at hl 5 rfl) ?_
            refine lv_lload hx hb dX5_strong_98 (lv_at hl 0 rfl) ?_
            refine sf_ladd hx hb dX5_strong_100 ⟨by omega, by omega⟩ (fun v_18 q_v_18 => ?_)
            refine sf_l2i hx hb dX5_strong_101 ⟨by omega, by omega⟩ (fun v_19 q_v_19 => ?_)
            refine sf_iadd hx hb dX5_strong_102 ⟨by omega, by omega⟩ (fun v_20 q_v_20 => ?_)
            refine lv_aload_n hx hb dX5_strong_103 rfl (lv_at hl 1 rfl) ?_
            refine va_get (D := (dC, dI)) (ci := 5) (v := .ref ga_keptLow) (C := RX5) (T := TX5) (N := 36) hx hb hts inv_X5_strong_X5 hown hK hP 0 rfl rfl 34 (by decide) (hts (.fieldLink RX5 90 "ArraySegmentsModel" "keptLow" "[J") (List.mem_of_getElem? (i := 1) rfl)) (fun _ h9 => h9) rfl dX5_strong_104 ?_
            refine lv_lload_n hx hb dX5_strong_107 rfl (lv_at hl 4 rfl) ?_
            refine lv_lload hx hb dX5_strong_108 (lv_at hl 0 rfl) ?_
            refine sf_ladd hx hb dX5_strong_110 ⟨by omega, by omega⟩ (fun v_21 q_v_21 => ?_)
            refine sf_l2i hx hb dX5_strong_111 ⟨by omega, by omega⟩ (fun v_22 q_v_22 => ?_)
            refine sf_lald lT hx hb hK hP 3 1 rfl rfl (fun _ => trivial) (vp_in_iff.mpr ⟨by omega, by omega⟩) dX5_strong_112 (fun v_23 q_v_23 e_v_23 => ?_)
            refine sf_last lT hx hb hK hP hD hS 1 1 rfl rfl (fun _ => trivial) trivial (vp_in_iff.mpr ⟨by omega, by omega⟩) dX5_strong_113 (fun f_24 h_f_24 e_f_24 H_25 locs_25 hP1 hD1 hS1 => ?_)
            replace hP : va_P (dC, dI) vwCl [(gh, .inr (5, [.int g_acts, g_kind, g_na, g_nb, g_nc, g_nd, g_ne, g_dropped, g_live, g_low, g_high, g_sites, g_nulls, g_there, g_lanes, g_least, g_most, .ref ga_placeLow, .ref ga_placeHigh, g_reached, g_mayThrow, .int g_status, .int g_hasRun, .int g_threw, .int g_whereThrown, g_value, g_means, g_laneOf, g_sizeOf, g_cells, g_copied, .long g_state, .long g_joinedLow, .long g_joinedHigh, .ref ga_keptLow, .ref ga_keptHigh])), (ga_placeLow, .inl (cJ, 960, .inr (.inl f_24))), (ga_placeHigh, .inl (cJ, 960, .inr (.inl f_9))), (ga_keptLow, .inl (cJ, 12, .inr (.inl f_3))), (ga_keptHigh, .inl (cJ, 12, .inr (.inl f_4)))] H_25 := hP1
            replace hD : va_D A [(gh, .inr (5, [.int g_acts, g_kind, g_na, g_nb, g_nc, g_nd, g_ne, g_dropped, g_live, g_low, g_high, g_sites, g_nulls, g_there, g_lanes, g_least, g_most, .ref ga_placeLow, .ref ga_placeHigh, g_reached, g_mayThrow, .int g_status, .int g_hasRun, .int g_threw, .int g_whereThrown, g_value, g_means, g_laneOf, g_sizeOf, g_cells, g_copied, .long g_state, .long g_joinedLow, .long g_joinedHigh, .ref ga_keptLow, .ref ga_keptHigh])), (ga_placeLow, .inl (cJ, 960, .inr (.inl f_24))), (ga_placeHigh, .inl (cJ, 960, .inr (.inl f_9))), (ga_keptLow, .inl (cJ, 12, .inr (.inl f_3))), (ga_keptHigh, .inl (cJ, 12, .inr (.inl f_4)))] := hD1
            replace hS := hS1
            clear hP1 hD1 hS1
            refine lv_aload_n hx hb dX5_strong_114 rfl (lv_at hl 1 rfl) ?_
            refine va_get (D := (dC, dI)) (ci := 5) (v := .ref ga_placeHigh) (C := RX5) (T := TX5) (N := 36) hx hb hts inv_X5_strong_X5 hown hK hP 0 rfl rfl 18 (by decide) (hts (.fieldLink RX5 63 "ArraySegmentsModel" "placeHigh" "[J") (List.mem_of_getElem? (i := 4) rfl)) (fun _ h9 => h9) rfl dX5_strong_115 ?_
            refine lv_bipush (v := 12) hx hb dX5_strong_118 (by decide) ?_
            refine lv_iload_n hx hb dX5_strong_120 rfl (lv_at hl 3 rfl) ?_
            refine sf_imul (w := 12) (z := qa.toInt) hx hb dX5_strong_121 (by decide) rfl ⟨by omega, by omega⟩ (fun v_26 q_v_26 => ?_)
            refine lv_lload hx hb dX5_strong_122 (lv_at hl 5 rfl) ?_
            refine lv_lload hx hb dX5_strong_124 (lv_at hl 0 rfl) ?_
            refine sf_ladd hx hb dX5_strong_126 ⟨by omega, by omega⟩ (fun v_27 q_v_27 => ?_)
            refine sf_l2i hx hb dX5_strong_127 ⟨by omega, by omega⟩ (fun v_28 q_v_28 => ?_)
            refine sf_iadd hx hb dX5_strong_128 ⟨by omega, by omega⟩ (fun v_29 q_v_29 => ?_)
            refine lv_aload_n hx hb dX5_strong_129 rfl (lv_at hl 1 rfl) ?_
            refine va_get (D := (dC, dI)) (ci := 5) (v := .ref ga_keptHigh) (C := RX5) (T := TX5) (N := 36) hx hb hts inv_X5_strong_X5 hown hK hP 0 rfl rfl 35 (by decide) (hts (.fieldLink RX5 93 "ArraySegmentsModel" "keptHigh" "[J") (List.mem_of_getElem? (i := 3) rfl)) (fun _ h9 => h9) rfl dX5_strong_130 ?_
            refine lv_lload_n hx hb dX5_strong_133 rfl (lv_at hl 4 rfl) ?_
            refine lv_lload hx hb dX5_strong_134 (lv_at hl 0 rfl) ?_
            refine sf_ladd hx hb dX5_strong_136 ⟨by omega, by omega⟩ (fun v_30 q_v_30 => ?_)
            refine sf_l2i hx hb dX5_strong_137 ⟨by omega, by omega⟩ (fun v_31 q_v_31 => ?_)
            refine sf_lald lT hx hb hK hP 4 1 rfl rfl (fun _ => trivial) (vp_in_iff.mpr ⟨by omega, by omega⟩) dX5_strong_138 (fun v_32 q_v_32 e_v_32 => ?_)
            refine sf_last lT hx hb hK hP hD hS 2 1 rfl rfl (fun _ => trivial) trivial (vp_in_iff.mpr ⟨by omega, by omega⟩) dX5_strong_139 (fun f_33 h_f_33 e_f_33 H_34 locs_34 hP1 hD1 hS1 => ?_)
            replace hP : va_P (dC, dI) vwCl [(gh, .inr (5, [.int g_acts, g_kind, g_na, g_nb, g_nc, g_nd, g_ne, g_dropped, g_live, g_low, g_high, g_sites, g_nulls, g_there, g_lanes, g_least, g_most, .ref ga_placeLow, .ref ga_placeHigh, g_reached, g_mayThrow, .int g_status, .int g_hasRun, .int g_threw, .int g_whereThrown, g_value, g_means, g_laneOf, g_sizeOf, g_cells, g_copied, .long g_state, .long g_joinedLow, .long g_joinedHigh, .ref ga_keptLow, .ref ga_keptHigh])), (ga_placeLow, .inl (cJ, 960, .inr (.inl f_24))), (ga_placeHigh, .inl (cJ, 960, .inr (.inl f_33))), (ga_keptLow, .inl (cJ, 12, .inr (.inl f_3))), (ga_keptHigh, .inl (cJ, 12, .inr (.inl f_4)))] H_34 := hP1
            replace hD : va_D A [(gh, .inr (5, [.int g_acts, g_kind, g_na, g_nb, g_nc, g_nd, g_ne, g_dropped, g_live, g_low, g_high, g_sites, g_nulls, g_there, g_lanes, g_least, g_most, .ref ga_placeLow, .ref ga_placeHigh, g_reached, g_mayThrow, .int g_status, .int g_hasRun, .int g_threw, .int g_whereThrown, g_value, g_means, g_laneOf, g_sizeOf, g_cells, g_copied, .long g_state, .long g_joinedLow, .long g_joinedHigh, .ref ga_keptLow, .ref ga_keptHigh])), (ga_placeLow, .inl (cJ, 960, .inr (.inl f_24))), (ga_placeHigh, .inl (cJ, 960, .inr (.inl f_33))), (ga_keptLow, .inl (cJ, 12, .inr (.inl f_3))), (ga_keptHigh, .inl (cJ, 12, .inr (.inl f_4)))] := hD1
            replace hS := hS1
            clear hP1 hD1 hS1
            refine lv_lload hx hb dX5_strong_140 (lv_at hl 0 rfl) ?_
            refine lv_lconst (v := 1) hx hb dX5_strong_142 (by decide) ?_
            refine sf_ladd hx hb dX5_strong_143 ⟨by omega, by omega⟩ (fun v_35 q_v_35 => ?_)
            refine lv_lstore (lv' := [(9, .long v_35), (0, .ref gh), (1, .int pa), (2, .int qa), (3, .long xa), (5, .long ya), (7, .long za)]) hx hb dX5_strong_144 hl (by decide) rfl (fun ls1 hl1 => ?_)
            replace hl := hl1; clear hl1
            refine lv_goto (tgt := 57) hx hb dX5_strong_146 (by decide) ?_
            exact ih_6 (v_35, f_24, f_33) (show (0 ≤ v_35.toInt ∧ v_35.toInt ≤ 12) from ⟨by omega, by omega⟩) (by show (12 - v_35.toInt).toNat < (12 - v_7.toInt).toNat; omega) _ _ _ (hP.sub [0, 1, 2, 3, 4] rfl) (hD.sub [0, 1, 2, 3, 4] (by decide) rfl) hS (lv_sub hl [0, 1, 2, 3, 4, 5, 6] rfl)
  · -- no
    have k_5 : v_2.toInt < (12 : Int32).toInt := ci_nge c_5
    refine lv_aload_n hx hb dX5_strong_10 rfl (lv_at hl 1 rfl) ?_
    refine va_get (D := (dC, dI)) (ci := 5) (v := .ref ga_keptLow) (C := RX5) (T := TX5) (N := 36) hx hb hts inv_X5_strong_X5 hown hK hP 0 rfl rfl 34 (by decide) (hts (.fieldLink RX5 90 "ArraySegmentsModel" "keptLow" "[J") (List.mem_of_getElem? (i := 1) rfl)) (fun _ h9 => h9) rfl dX5_strong_11 ?_
    refine lv_iload hx hb dX5_strong_14 (lv_at hl 0 rfl) ?_
    refine lv_aload_n hx hb dX5_strong_16 rfl (lv_at hl 1 rfl) ?_
    refine va_get (D := (dC, dI)) (ci := 5) (v := .ref ga_placeLow) (C := RX5) (T := TX5) (N := 36) hx hb hts inv_X5_strong_X5 hown hK hP 0 rfl rfl 17 (by decide) (hts (.fieldLink RX5 60 "ArraySegmentsModel" "placeLow" "[J") (List.mem_of_getElem? (i := 2) rfl)) (fun _ h9 => h9) rfl dX5_strong_17 ?_
    refine lv_bipush (v := 12) hx hb dX5_strong_20 (by decide) ?_
    refine lv_iload_n hx hb dX5_strong_22 rfl (lv_at hl 2 rfl) ?_
    refine sf_imul (w := 12) (z := pa.toInt) hx hb dX5_strong_23 (by decide) rfl ⟨by omega, by omega⟩ (fun v_36 q_v_36 => ?_)
    refine lv_iload hx hb dX5_strong_24 (lv_at hl 0 rfl) ?_
    refine sf_iadd hx hb dX5_strong_26 ⟨by omega, by omega⟩ (fun v_37 q_v_37 => ?_)
    refine sf_lald lT hx hb hK hP 1 1 rfl rfl (fun _ => trivial) (vp_in_iff.mpr ⟨by omega, by omega⟩) dX5_strong_27 (fun v_38 q_v_38 e_v_38 => ?_)
    refine sf_last lT hx hb hK hP hD hS 3 1 rfl rfl (fun _ => trivial) trivial (vp_in_iff.mpr ⟨by omega, by omega⟩) dX5_strong_28 (fun f_39 h_f_39 e_f_39 H_40 locs_40 hP1 hD1 hS1 => ?_)
    replace hP : va_P (dC, dI) vwCl [(gh, .inr (5, [.int g_acts, g_kind, g_na, g_nb, g_nc, g_nd, g_ne, g_dropped, g_live, g_low, g_high, g_sites, g_nulls, g_there, g_lanes, g_least, g_most, .ref ga_placeLow, .ref ga_placeHigh, g_reached, g_mayThrow, .int g_status, .int g_hasRun, .int g_threw, .int g_whereThrown, g_value, g_means, g_laneOf, g_sizeOf, g_cells, g_copied, .long g_state, .long g_joinedLow, .long g_joinedHigh, .ref ga_keptLow, .ref ga_keptHigh])), (ga_placeLow, .inl (cJ, 960, .inr (.inl gc_placeLow))), (ga_placeHigh, .inl (cJ, 960, .inr (.inl gc_placeHigh))), (ga_keptLow, .inl (cJ, 12, .inr (.inl f_39))), (ga_keptHigh, .inl (cJ, 12, .inr (.inl f_4)))] H_40 := hP1
    replace hD : va_D A [(gh, .inr (5, [.int g_acts, g_kind, g_na, g_nb, g_nc, g_nd, g_ne, g_dropped, g_live, g_low, g_high, g_sites, g_nulls, g_there, g_lanes, g_least, g_most, .ref ga_placeLow, .ref ga_placeHigh, g_reached, g_mayThrow, .int g_status, .int g_hasRun, .int g_threw, .int g_whereThrown, g_value, g_means, g_laneOf, g_sizeOf, g_cells, g_copied, .long g_state, .long g_joinedLow, .long g_joinedHigh, .ref ga_keptLow, .ref ga_keptHigh])), (ga_placeLow, .inl (cJ, 960, .inr (.inl gc_placeLow))), (ga_placeHigh, .inl (cJ, 960, .inr (.inl gc_placeHigh))), (ga_keptLow, .inl (cJ, 12, .inr (.inl f_39))), (ga_keptHigh, .inl (cJ, 12, .inr (.inl f_4)))] := hD1
    replace hS := hS1
    clear hP1 hD1 hS1
    refine lv_aload_n hx hb dX5_strong_29 rfl (lv_at hl 1 rfl) ?_
    refine va_get (D := (dC, dI)) (ci := 5) (v := .ref ga_keptHigh) (C := RX5) (T := TX5) (N := 36) hx hb hts inv_X5_strong_X5 hown hK hP 0 rfl rfl 35 (by decide) (hts (.fieldLink RX5 93 "ArraySegmentsModel" "keptHigh" "[J") (List.mem_of_getElem? (i := 3) rfl)) (fun _ h9 => h9) rfl dX5_strong_30 ?_
    refine lv_iload hx hb dX5_strong_33 (lv_at hl 0 rfl) ?_
    refine lv_aload_n hx hb dX5_strong_35 rfl (lv_at hl 1 rfl) ?_
    refine va_get (D := (dC, dI)) (ci := 5) (v := .ref ga_placeHigh) (C := RX5) (T := TX5) (N := 36) hx hb hts inv_X5_strong_X5 hown hK hP 0 rfl rfl 18 (by decide) (hts (.fieldLink RX5 63 "ArraySegmentsModel" "placeHigh" "[J") (List.mem_of_getElem? (i := 4) rfl)) (fun _ h9 => h9) rfl dX5_strong_36 ?_
    refine lv_bipush (v := 12) hx hb dX5_strong_39 (by decide) ?_
    refine lv_iload_n hx hb dX5_strong_41 rfl (lv_at hl 2 rfl) ?_
    refine sf_imul (w := 12) (z := pa.toInt) hx hb dX5_strong_42 (by decide) rfl ⟨by omega, by omega⟩ (fun v_41 q_v_41 => ?_)
    refine lv_iload hx hb dX5_strong_43 (lv_at hl 0 rfl) ?_
    refine sf_iadd hx hb dX5_strong_45 ⟨by omega, by omega⟩ (fun v_42 q_v_42 => ?_)
    refine sf_lald lT hx hb hK hP 2 1 rfl rfl (fun _ => trivial) (vp_in_iff.mpr ⟨by omega, by omega⟩) dX5_strong_46 (fun v_43 q_v_43 e_v_43 => ?_)
    refine sf_last lT hx hb hK hP hD hS 4 1 rfl rfl (fun _ => trivial) trivial (vp_in_iff.mpr ⟨by omega, by omega⟩) dX5_strong_47 (fun f_44 h_f_44 e_f_44 H_45 locs_45 hP1 hD1 hS1 => ?_)
    replace hP : va_P (dC, dI) vwCl [(gh, .inr (5, [.int g_acts, g_kind, g_na, g_nb, g_nc, g_nd, g_ne, g_dropped, g_live, g_low, g_high, g_sites, g_nulls, g_there, g_lanes, g_least, g_most, .ref ga_placeLow, .ref ga_placeHigh, g_reached, g_mayThrow, .int g_status, .int g_hasRun, .int g_threw, .int g_whereThrown, g_value, g_means, g_laneOf, g_sizeOf, g_cells, g_copied, .long g_state, .long g_joinedLow, .long g_joinedHigh, .ref ga_keptLow, .ref ga_keptHigh])), (ga_placeLow, .inl (cJ, 960, .inr (.inl gc_placeLow))), (ga_placeHigh, .inl (cJ, 960, .inr (.inl gc_placeHigh))), (ga_keptLow, .inl (cJ, 12, .inr (.inl f_39))), (ga_keptHigh, .inl (cJ, 12, .inr (.inl f_44)))] H_45 := hP1
    replace hD : va_D A [(gh, .inr (5, [.int g_acts, g_kind, g_na, g_nb, g_nc, g_nd, g_ne, g_dropped, g_live, g_low, g_high, g_sites, g_nulls, g_there, g_lanes, g_least, g_most, .ref ga_placeLow, .ref ga_placeHigh, g_reached, g_mayThrow, .int g_status, .int g_hasRun, .int g_threw, .int g_whereThrown, g_value, g_means, g_laneOf, g_sizeOf, g_cells, g_copied, .long g_state, .long g_joinedLow, .long g_joinedHigh, .ref ga_keptLow, .ref ga_keptHigh])), (ga_placeLow, .inl (cJ, 960, .inr (.inl gc_placeLow))), (ga_placeHigh, .inl (cJ, 960, .inr (.inl gc_placeHigh))), (ga_keptLow, .inl (cJ, 12, .inr (.inl f_39))), (ga_keptHigh, .inl (cJ, 12, .inr (.inl f_44)))] := hD1
    replace hS := hS1
    clear hP1 hD1 hS1
    refine sf_iinc hx hb dX5_strong_48 hl (k := 0) (x := v_2) (w := 1) rfl (by decide) (by decide) ⟨by omega, by omega⟩ (fun v_46 q_v_46 ls1 hl1 => ?_)
    replace hl : lv_has ls1 11 [(9, .int v_46), (0, .ref gh), (1, .int pa), (2, .int qa), (3, .long xa), (5, .long ya), (7, .long za)] := hl1
    clear hl1
    refine lv_goto (tgt := 3) hx hb dX5_strong_51 (by decide) ?_
    exact ih_1 (v_46, f_39, f_44) (show (0 ≤ v_46.toInt ∧ v_46.toInt ≤ 12) from ⟨by omega, by omega⟩) (by show (12 - v_46.toInt).toNat < (12 - v_2.toInt).toNat; omega) _ _ _ (hP.sub [0, 1, 2, 3, 4] rfl) (hD.sub [0, 1, 2, 3, 4] (by decide) rfl) hS (lv_sub hl [0, 1, 2, 3, 4, 5, 6] rfl)

def v_X5_isLike : List Cond := .code yX5_isLike cX5_isLike 4 (some .boolean) :: ([.fieldLink RX5 60 "ArraySegmentsModel" "placeLow" "[J", .fieldLink RX5 63 "ArraySegmentsModel" "placeHigh" "[J"] ++ (wsX50))
theorem inv_X5_isLike_X5 : ∀ w ∈ wsX50, w ∈ v_X5_isLike := fun _ h => List.mem_cons_of_mem _ (List.mem_append_right _ (h))
set_option maxRecDepth 20000 in
theorem gd_X5_isLike : gdL v_X5_isLike := gdC (gdW (by decide +kernel)) (gdA (gdW (by decide +kernel)) gd_wsX50)
abbrev sw_X5_isLike (cI cJ cZ : ClassId) (gh : Nat) (g_acts : Int32) (g_kind : Value) (g_na : Value) (g_nb : Value) (g_nc : Value) (g_nd : Value) (g_ne : Value) (g_dropped : Value) (g_live : Value) (g_low : Value) (g_high : Value) (g_sites : Value) (g_nulls : Value) (g_there : Value) (g_lanes : Value) (g_least : Value) (g_most : Value) (ga_placeLow : Nat) (ga_placeHigh : Nat) (g_reached : Value) (g_mayThrow : Value) (g_status : Int32) (g_hasRun : Int32) (g_threw : Int32) (g_whereThrown : Int32) (g_value : Value) (g_means : Value) (g_laneOf : Value) (g_sizeOf : Value) (g_cells : Value) (g_copied : Value) (g_state : Int64) (g_joinedLow : Int64) (g_joinedHigh : Int64) (g_keptLow : Value) (g_keptHigh : Value) (gc_placeLow : Nat → Int64) (gc_placeHigh : Nat → Int64) (ia : Int32) (pa : Int32) : va_W := [(gh, .inr (5, [.int g_acts, g_kind, g_na, g_nb, g_nc, g_nd, g_ne, g_dropped, g_live, g_low, g_high, g_sites, g_nulls, g_there, g_lanes, g_least, g_most, .ref ga_placeLow, .ref ga_placeHigh, g_reached, g_mayThrow, .int g_status, .int g_hasRun, .int g_threw, .int g_whereThrown, g_value, g_means, g_laneOf, g_sizeOf, g_cells, g_copied, .long g_state, .long g_joinedLow, .long g_joinedHigh, g_keptLow, g_keptHigh])), (ga_placeLow, .inl (cJ, 960, .inr (.inl gc_placeLow))), (ga_placeHigh, .inl (cJ, 960, .inr (.inl gc_placeHigh)))]
set_option maxHeartbeats 8000000 in
set_option maxRecDepth 100000 in
theorem s_X5_isLike (l : Launch) (dC : Nat → ClassId) (dI : Nat → Nat → Nat) (cI cJ cZ : ClassId) (gh : Nat) (g_acts : Int32) (g_kind : Value) (g_na : Value) (g_nb : Value) (g_nc : Value) (g_nd : Value) (g_ne : Value) (g_dropped : Value) (g_live : Value) (g_low : Value) (g_high : Value) (g_sites : Value) (g_nulls : Value) (g_there : Value) (g_lanes : Value) (g_least : Value) (g_most : Value) (ga_placeLow : Nat) (ga_placeHigh : Nat) (g_reached : Value) (g_mayThrow : Value) (g_status : Int32) (g_hasRun : Int32) (g_threw : Int32) (g_whereThrown : Int32) (g_value : Value) (g_means : Value) (g_laneOf : Value) (g_sizeOf : Value) (g_cells : Value) (g_copied : Value) (g_state : Int64) (g_joinedLow : Int64) (g_joinedHigh : Int64) (g_keptLow : Value) (g_keptHigh : Value) (gc_placeLow : Nat → Int64) (gc_placeHigh : Nat → Int64) (ia : Int32) (pa : Int32) (sz : Nat) (q_g_hasRun : kZ g_hasRun) (hy_ia : 0 ≤ ia.toInt ∧ ia.toInt ≤ 39) (hy_pa : 1 ≤ pa.toInt ∧ pa.toInt ≤ 400) : Met l yX5_isLike v_X5_isLike ({ frames := 0, cells := 0, slots := 0, locals := 0 }) (va_Pc [.ref gh, .int ia, .int pa] (cPre dC dI cI cJ cZ sz (sw_X5_isLike cI cJ cZ gh g_acts g_kind g_na g_nb g_nc g_nd g_ne g_dropped g_live g_low g_high g_sites g_nulls g_there g_lanes g_least g_most ga_placeLow ga_placeHigh g_reached g_mayThrow g_status g_hasRun g_threw g_whereThrown g_value g_means g_laneOf g_sizeOf g_cells g_copied g_state g_joinedLow g_joinedHigh g_keptLow g_keptHigh gc_placeLow gc_placeHigh ia pa))) (va_Qi (fun (r : Int32) (u : Unit) => (two r (like gc_placeLow gc_placeHigh ia.toInt.toNat pa.toInt.toNat) 1 0)) (fun (u : Unit) => cPost dC dI cI cJ cZ (va_A (sw_X5_isLike cI cJ cZ gh g_acts g_kind g_na g_nb g_nc g_nd g_ne g_dropped g_live g_low g_high g_sites g_nulls g_there g_lanes g_least g_most ga_placeLow ga_placeHigh g_reached g_mayThrow g_status g_hasRun g_threw g_whereThrown g_value g_means g_laneOf g_sizeOf g_cells g_copied g_state g_joinedLow g_joinedHigh g_keptLow g_keptHigh gc_placeLow gc_placeHigh ia pa) sz) [(gh, .inr (5, [.int g_acts, g_kind, g_na, g_nb, g_nc, g_nd, g_ne, g_dropped, g_live, g_low, g_high, g_sites, g_nulls, g_there, g_lanes, g_least, g_most, .ref ga_placeLow, .ref ga_placeHigh, g_reached, g_mayThrow, .int g_status, .int g_hasRun, .int g_threw, .int g_whereThrown, g_value, g_means, g_laneOf, g_sizeOf, g_cells, g_copied, .long g_state, .long g_joinedLow, .long g_joinedHigh, g_keptLow, g_keptHigh])), (ga_placeLow, .inl (cJ, 960, .inr (.inl gc_placeLow))), (ga_placeHigh, .inl (cJ, 960, .inr (.inl gc_placeHigh)))]) (va_A (sw_X5_isLike cI cJ cZ gh g_acts g_kind g_na g_nb g_nc g_nd g_ne g_dropped g_live g_low g_high g_sites g_nulls g_there g_lanes g_least g_most ga_placeLow ga_placeHigh g_reached g_mayThrow g_status g_hasRun g_threw g_whereThrown g_value g_means g_laneOf g_sizeOf g_cells g_copied g_state g_joinedLow g_joinedHigh g_keptLow g_keptHigh gc_placeLow gc_placeHigh ia pa) sz)) 0 0 (va_A (sw_X5_isLike cI cJ cZ gh g_acts g_kind g_na g_nb g_nc g_nd g_ne g_dropped g_live g_low g_high g_sites g_nulls g_there g_lanes g_least g_most ga_placeLow ga_placeHigh g_reached g_mayThrow g_status g_hasRun g_threw g_whereThrown g_value g_means g_laneOf g_sizeOf g_cells g_copied g_state g_joinedLow g_joinedHigh g_keptLow g_keptHigh gc_placeLow gc_placeHigh ia pa) sz) := by
  refine Met.ofW (cc := cX5_isLike) (maxL := 4) (ret := (some .boolean)) (by decide) rfl ?_
  intro p e s m args below meth c s₁ B hml hv
  obtain ⟨rfl, hsz, hP, hK, hD0, hN⟩ := hv
  have hx := B.exec
  have hb := B.bytes
  have hr := B.returns
  have hts := atoms_spec (ws := v_X5_isLike) B.pre
  have hown : s.vm.findClass RX5 = some m.cls := findClass_of_methodNamed B.named
  have hlocks := B.notSynchronized
  subst hsz
  have hD := hD0.self (sz := s.heap.size)
  generalize hAe : va_A (sw_X5_isLike cI cJ cZ gh g_acts g_kind g_na g_nb g_nc g_nd g_ne g_dropped g_live g_low g_high g_sites g_nulls g_there g_lanes g_least g_most ga_placeLow ga_placeHigh g_reached g_mayThrow g_status g_hasRun g_threw g_whereThrown g_value g_means g_laneOf g_sizeOf g_cells g_copied g_state g_joinedLow g_joinedHigh g_keptLow g_keptHigh gc_placeLow gc_placeHigh ia pa) s.heap.size = A at hD ⊢
  have hA : ∀ q : Nat, s.heap.size ≤ q → A q := fun q h => by rw [← hAe]; exact Or.inr h
  clear hAe hD0
  have hS : va_S A s.heap s.heap [] := va_S.rf
  replace hP : va_P (dC, dI) vwCl [(gh, .inr (5, [.int g_acts, g_kind, g_na, g_nb, g_nc, g_nd, g_ne, g_dropped, g_live, g_low, g_high, g_sites, g_nulls, g_there, g_lanes, g_least, g_most, .ref ga_placeLow, .ref ga_placeHigh, g_reached, g_mayThrow, .int g_status, .int g_hasRun, .int g_threw, .int g_whereThrown, g_value, g_means, g_laneOf, g_sizeOf, g_cells, g_copied, .long g_state, .long g_joinedLow, .long g_joinedHigh, g_keptLow, g_keptHigh])), (ga_placeLow, .inl (cJ, 960, .inr (.inl gc_placeLow))), (ga_placeHigh, .inl (cJ, 960, .inr (.inl gc_placeHigh)))] s.heap := hP
  replace hD : va_D A [(gh, .inr (5, [.int g_acts, g_kind, g_na, g_nb, g_nc, g_nd, g_ne, g_dropped, g_live, g_low, g_high, g_sites, g_nulls, g_there, g_lanes, g_least, g_most, .ref ga_placeLow, .ref ga_placeHigh, g_reached, g_mayThrow, .int g_status, .int g_hasRun, .int g_threw, .int g_whereThrown, g_value, g_means, g_laneOf, g_sizeOf, g_cells, g_copied, .long g_state, .long g_joinedLow, .long g_joinedHigh, g_keptLow, g_keptHigh])), (ga_placeLow, .inl (cJ, 960, .inr (.inl gc_placeLow))), (ga_placeHigh, .inl (cJ, 960, .inr (.inl gc_placeHigh)))] := hD
  have hl := lv_entry ([.ref gh, .int ia, .int pa]) (n := 4) (Nat.le_of_ble_eq_true rfl)
  rw [lg_entry_eq]
  generalize (lg_sl ([.ref gh, .int ia, .int pa]) ++ List.replicate (4 - (lg_sl ([.ref gh, .int ia, .int pa])).length) Slot.unset).toArray = ls at hl ⊢
  replace hl : lv_has ls 4 [(0, .ref gh), (1, .int ia), (2, .int pa)] := hl
  have z_0 : (0 : Int32).toInt = 0 := by decide
  have z_1 : (1 : Int32).toInt = 1 := by decide
  refine lv_bipush (v := 12) hx hb dX5_isLike_0 (by decide) ?_
  refine lv_iload_n hx hb dX5_isLike_2 rfl (lv_at hl 1 rfl) ?_
  refine sf_imul (w := 12) (z := ia.toInt) hx hb dX5_isLike_3 (by decide) rfl ⟨by omega, by omega⟩ (fun v_1 q_v_1 => ?_)
  refine lv_iload_n hx hb dX5_isLike_4 rfl (lv_at hl 2 rfl) ?_
  refine sf_iadd hx hb dX5_isLike_5 ⟨by omega, by omega⟩ (fun v_2 q_v_2 => ?_)
  refine lv_istore_n (lv' := [(3, .int v_2), (0, .ref gh), (1, .int ia), (2, .int pa)]) hx hb dX5_isLike_6 rfl hl (by decide) rfl (fun ls1 hl1 => ?_)
  replace hl := hl1; clear hl1
  refine lv_aload_n hx hb dX5_isLike_7 rfl (lv_at hl 1 rfl) ?_
  refine va_get (D := (dC, dI)) (ci := 5) (v := .ref ga_placeLow) (C := RX5) (T := TX5) (N := 36) hx hb hts inv_X5_isLike_X5 hown hK hP 0 rfl rfl 17 (by decide) (hts (.fieldLink RX5 60 "ArraySegmentsModel" "placeLow" "[J") (List.mem_of_getElem? (i := 1) rfl)) (fun _ h9 => h9) rfl dX5_isLike_8 ?_
  refine lv_iload_n hx hb dX5_isLike_11 rfl (lv_at hl 0 rfl) ?_
  refine sf_lald lT hx hb hK hP 1 1 rfl rfl (fun _ => trivial) (vp_in_iff.mpr ⟨by omega, by omega⟩) dX5_isLike_12 (fun v_3 q_v_3 e_v_3 => ?_)
  have et_v_3 : v_3.toInt = (gc_placeLow (v_2).toNatClampNeg).toInt := by rw [e_v_3]
  have ei_v_3 : v_3.toInt = (gc_placeLow (12 * ia.toInt.toNat + pa.toInt.toNat)).toInt := by rw [et_v_3, show (v_2).toNatClampNeg = 12 * ia.toInt.toNat + pa.toInt.toNat from by have h9 := nn_cl (z := v_2) (by omega); omega]
  refine lv_aload_n hx hb dX5_isLike_13 rfl (lv_at hl 1 rfl) ?_
  refine va_get (D := (dC, dI)) (ci := 5) (v := .ref ga_placeLow) (C := RX5) (T := TX5) (N := 36) hx hb hts inv_X5_isLike_X5 hown hK hP 0 rfl rfl 17 (by decide) (hts (.fieldLink RX5 60 "ArraySegmentsModel" "placeLow" "[J") (List.mem_of_getElem? (i := 1) rfl)) (fun _ h9 => h9) rfl dX5_isLike_14 ?_
  refine lv_iload_n hx hb dX5_isLike_17 rfl (lv_at hl 0 rfl) ?_
  refine lv_iconst (v := 1) hx hb dX5_isLike_18 (by decide) ?_
  refine sf_isub hx hb dX5_isLike_19 ⟨by omega, by omega⟩ (fun v_4 q_v_4 => ?_)
  refine sf_lald lT hx hb hK hP 1 1 rfl rfl (fun _ => trivial) (vp_in_iff.mpr ⟨by omega, by omega⟩) dX5_isLike_20 (fun v_5 q_v_5 e_v_5 => ?_)
  have et_v_5 : v_5.toInt = (gc_placeLow (v_4).toNatClampNeg).toInt := by rw [e_v_5]
  have ei_v_5 : v_5.toInt = (gc_placeLow (12 * ia.toInt.toNat + pa.toInt.toNat - 1)).toInt := by rw [et_v_5, show (v_4).toNatClampNeg = 12 * ia.toInt.toNat + pa.toInt.toNat - 1 from by have h9 := nn_cl (z := v_4) (by omega); omega]
  refine W.lcmp hx hb dX5_isLike_21 ?_
  refine lv_if_ne (tgt := 47) hx hb dX5_isLike_22 (by decide) (fun c_6 => ?_) (fun c_6 => ?_)
  · -- yes
    have k_6 : ¬ v_3.toInt = v_5.toInt := lc_ne c_6
    refine lv_iconst (v := 0) hx hb dX5_isLike_47 (by decide) ?_
    have hP9 := hP.sub (ws' := [(gh, .inr (5, [.int g_acts, g_kind, g_na, g_nb, g_nc, g_nd, g_ne, g_dropped, g_live, g_low, g_high, g_sites, g_nulls, g_there, g_lanes, g_least, g_most, .ref ga_placeLow, .ref ga_placeHigh, g_reached, g_mayThrow, .int g_status, .int g_hasRun, .int g_threw, .int g_whereThrown, g_value, g_means, g_laneOf, g_sizeOf, g_cells, g_copied, .long g_state, .long g_joinedLow, .long g_joinedHigh, g_keptLow, g_keptHigh])), (ga_placeLow, .inl (cJ, 960, .inr (.inl gc_placeLow))), (ga_placeHigh, .inl (cJ, 960, .inr (.inl gc_placeHigh)))]) [0, 1, 2] rfl
    have hD9 := hD.sub (ws' := [(gh, .inr (5, [.int g_acts, g_kind, g_na, g_nb, g_nc, g_nd, g_ne, g_dropped, g_live, g_low, g_high, g_sites, g_nulls, g_there, g_lanes, g_least, g_most, .ref ga_placeLow, .ref ga_placeHigh, g_reached, g_mayThrow, .int g_status, .int g_hasRun, .int g_threw, .int g_whereThrown, g_value, g_means, g_laneOf, g_sizeOf, g_cells, g_copied, .long g_state, .long g_joinedLow, .long g_joinedHigh, g_keptLow, g_keptHigh])), (ga_placeLow, .inl (cJ, 960, .inr (.inl gc_placeLow))), (ga_placeHigh, .inl (cJ, 960, .inr (.inl gc_placeHigh)))]) [0, 1, 2] (by decide) rfl
    exact W.zret (v := 0) (ty := .boolean) hx hb hr rfl (fun t ht hW => ⟨⟨0, (), rfl, (show two (0 : Int32) (like gc_placeLow gc_placeHigh ia.toInt.toNat pa.toInt.toNat) 1 0 from (by first | (refine Or.inl ⟨rfl, ?_⟩; omega) | (refine Or.inr ⟨rfl, ?_⟩; omega))), by rw [ht]; exact hP9, va_K.moved hW.alike hK, hD9⟩, hS.F ht⟩) hS.2.2 dX5_isLike_48
  · -- no
    have k_6 : v_3.toInt = v_5.toInt := lc_eq c_6
    refine lv_aload_n hx hb dX5_isLike_25 rfl (lv_at hl 1 rfl) ?_
    refine va_get (D := (dC, dI)) (ci := 5) (v := .ref ga_placeHigh) (C := RX5) (T := TX5) (N := 36) hx hb hts inv_X5_isLike_X5 hown hK hP 0 rfl rfl 18 (by decide) (hts (.fieldLink RX5 63 "ArraySegmentsModel" "placeHigh" "[J") (List.mem_of_getElem? (i := 2) rfl)) (fun _ h9 => h9) rfl dX5_isLike_26 ?_
    refine lv_iload_n hx hb dX5_isLike_29 rfl (lv_at hl 0 rfl) ?_
    refine sf_lald lT hx hb hK hP 2 1 rfl rfl (fun _ => trivial) (vp_in_iff.mpr ⟨by omega, by omega⟩) dX5_isLike_30 (fun v_7 q_v_7 e_v_7 => ?_)
    have et_v_7 : v_7.toInt = (gc_placeHigh (v_2).toNatClampNeg).toInt := by rw [e_v_7]
    have ei_v_7 : v_7.toInt = (gc_placeHigh (12 * ia.toInt.toNat + pa.toInt.toNat)).toInt := by rw [et_v_7, show (v_2).toNatClampNeg = 12 * ia.toInt.toNat + pa.toInt.toNat from by have h9 := nn_cl (z := v_2) (by omega); omega]
    refine lv_aload_n hx hb dX5_isLike_31 rfl (lv_at hl 1 rfl) ?_
    refine va_get (D := (dC, dI)) (ci := 5) (v := .ref ga_placeHigh) (C := RX5) (T := TX5) (N := 36) hx hb hts inv_X5_isLike_X5 hown hK hP 0 rfl rfl 18 (by decide) (hts (.fieldLink RX5 63 "ArraySegmentsModel" "placeHigh" "[J") (List.mem_of_getElem? (i := 2) rfl)) (fun _ h9 => h9) rfl dX5_isLike_32 ?_
    refine lv_iload_n hx hb dX5_isLike_35 rfl (lv_at hl 0 rfl) ?_
    refine lv_iconst (v := 1) hx hb dX5_isLike_36 (by decide) ?_
    refine sf_isub hx hb dX5_isLike_37 ⟨by omega, by omega⟩ (fun v_8 q_v_8 => ?_)
    refine sf_lald lT hx hb hK hP 2 1 rfl rfl (fun _ => trivial) (vp_in_iff.mpr ⟨by omega, by omega⟩) dX5_isLike_38 (fun v_9 q_v_9 e_v_9 => ?_)
    have et_v_9 : v_9.toInt = (gc_placeHigh (v_8).toNatClampNeg).toInt := by rw [e_v_9]
    have ei_v_9 : v_9.toInt = (gc_placeHigh (12 * ia.toInt.toNat + pa.toInt.toNat - 1)).toInt := by rw [et_v_9, show (v_8).toNatClampNeg = 12 * ia.toInt.toNat + pa.toInt.toNat - 1 from by have h9 := nn_cl (z := v_8) (by omega); omega]
    refine W.lcmp hx hb dX5_isLike_39 ?_
    refine lv_if_ne (tgt := 47) hx hb dX5_isLike_40 (by decide) (fun c_10 => ?_) (fun c_10 => ?_)
    · -- yes
      have k_10 : ¬ v_7.toInt = v_9.toInt := lc_ne c_10
      refine lv_iconst (v := 0) hx hb dX5_isLike_47 (by decide) ?_
      have hP9 := hP.sub (ws' := [(gh, .inr (5, [.int g_acts, g_kind, g_na, g_nb, g_nc, g_nd, g_ne, g_dropped, g_live, g_low, g_high, g_sites, g_nulls, g_there, g_lanes, g_least, g_most, .ref ga_placeLow, .ref ga_placeHigh, g_reached, g_mayThrow, .int g_status, .int g_hasRun, .int g_threw, .int g_whereThrown, g_value, g_means, g_laneOf, g_sizeOf, g_cells, g_copied, .long g_state, .long g_joinedLow, .long g_joinedHigh, g_keptLow, g_keptHigh])), (ga_placeLow, .inl (cJ, 960, .inr (.inl gc_placeLow))), (ga_placeHigh, .inl (cJ, 960, .inr (.inl gc_placeHigh)))]) [0, 1, 2] rfl
      have hD9 := hD.sub (ws' := [(gh, .inr (5, [.int g_acts, g_kind, g_na, g_nb, g_nc, g_nd, g_ne, g_dropped, g_live, g_low, g_high, g_sites, g_nulls, g_there, g_lanes, g_least, g_most, .ref ga_placeLow, .ref ga_placeHigh, g_reached, g_mayThrow, .int g_status, .int g_hasRun, .int g_threw, .int g_whereThrown, g_value, g_means, g_laneOf, g_sizeOf, g_cells, g_copied, .long g_state, .long g_joinedLow, .long g_joinedHigh, g_keptLow, g_keptHigh])), (ga_placeLow, .inl (cJ, 960, .inr (.inl gc_placeLow))), (ga_placeHigh, .inl (cJ, 960, .inr (.inl gc_placeHigh)))]) [0, 1, 2] (by decide) rfl
      exact W.zret (v := 0) (ty := .boolean) hx hb hr rfl (fun t ht hW => ⟨⟨0, (), rfl, (show two (0 : Int32) (like gc_placeLow gc_placeHigh ia.toInt.toNat pa.toInt.toNat) 1 0 from (by first | (refine Or.inl ⟨rfl, ?_⟩; omega) | (refine Or.inr ⟨rfl, ?_⟩; omega))), by rw [ht]; exact hP9, va_K.moved hW.alike hK, hD9⟩, hS.F ht⟩) hS.2.2 dX5_isLike_48
    · -- no
      have k_10 : v_7.toInt = v_9.toInt := lc_eq c_10
      refine lv_iconst (v := 1) hx hb dX5_isLike_43 (by decide) ?_
      refine lv_goto (tgt := 48) hx hb dX5_isLike_44 (by decide) ?_
      have hP9 := hP.sub (ws' := [(gh, .inr (5, [.int g_acts, g_kind, g_na, g_nb, g_nc, g_nd, g_ne, g_dropped, g_live, g_low, g_high, g_sites, g_nulls, g_there, g_lanes, g_least, g_most, .ref ga_placeLow, .ref ga_placeHigh, g_reached, g_mayThrow, .int g_status, .int g_hasRun, .int g_threw, .int g_whereThrown, g_value, g_means, g_laneOf, g_sizeOf, g_cells, g_copied, .long g_state, .long g_joinedLow, .long g_joinedHigh, g_keptLow, g_keptHigh])), (ga_placeLow, .inl (cJ, 960, .inr (.inl gc_placeLow))), (ga_placeHigh, .inl (cJ, 960, .inr (.inl gc_placeHigh)))]) [0, 1, 2] rfl
      have hD9 := hD.sub (ws' := [(gh, .inr (5, [.int g_acts, g_kind, g_na, g_nb, g_nc, g_nd, g_ne, g_dropped, g_live, g_low, g_high, g_sites, g_nulls, g_there, g_lanes, g_least, g_most, .ref ga_placeLow, .ref ga_placeHigh, g_reached, g_mayThrow, .int g_status, .int g_hasRun, .int g_threw, .int g_whereThrown, g_value, g_means, g_laneOf, g_sizeOf, g_cells, g_copied, .long g_state, .long g_joinedLow, .long g_joinedHigh, g_keptLow, g_keptHigh])), (ga_placeLow, .inl (cJ, 960, .inr (.inl gc_placeLow))), (ga_placeHigh, .inl (cJ, 960, .inr (.inl gc_placeHigh)))]) [0, 1, 2] (by decide) rfl
      exact W.zret (v := 1) (ty := .boolean) hx hb hr rfl (fun t ht hW => ⟨⟨1, (), rfl, (show two (1 : Int32) (like gc_placeLow gc_placeHigh ia.toInt.toNat pa.toInt.toNat) 1 0 from (by first | (refine Or.inl ⟨rfl, ?_⟩; omega) | (refine Or.inr ⟨rfl, ?_⟩; omega))), by rw [ht]; exact hP9, va_K.moved hW.alike hK, hD9⟩, hS.F ht⟩) hS.2.2 dX5_isLike_48

def v_X5_segments : List Cond := .code yX5_segments cX5_segments 4 (some .int) :: ([.fieldLink RX5 57 "ArraySegmentsModel" "most" "[J", .methodLink RX5 266 yX5_isLike, .instanceMethod yX5_isLike, .selects RX5 yX5_isLike yX5_isLike, .initialized RX5] ++ (wsX50 ++ (v_X5_isLike)))
theorem inv_X5_segments_X5 : ∀ w ∈ wsX50, w ∈ v_X5_segments := fun _ h => List.mem_cons_of_mem _ (List.mem_append_right _ (List.mem_append_left _ h))
theorem im_X5_segments_X5_isLike : ∀ w ∈ v_X5_isLike, w ∈ v_X5_segments := fun _ h => List.mem_cons_of_mem _ (List.mem_append_right _ (List.mem_append_right _ (h)))
set_option maxRecDepth 20000 in
theorem gd_X5_segments : gdL v_X5_segments := gdC (gdW (by decide +kernel)) (gdA (gdW (by decide +kernel)) (gdA gd_wsX50 gd_X5_isLike))
set_option maxRecDepth 20000 in
theorem h_X5_segments_X5_isLike_266 : GoodIn v_X5_segments (wsV RX5 266 RX5 yX5_isLike v_X5_isLike) := gdI [2, 3, 4, 5] rfl (by decide +kernel) (im_X5_segments_X5_isLike) gd_X5_isLike
abbrev sw_X5_segments (cI cJ cZ : ClassId) (gh : Nat) (g_acts : Int32) (g_kind : Value) (g_na : Value) (g_nb : Value) (g_nc : Value) (g_nd : Value) (g_ne : Value) (g_dropped : Value) (g_live : Value) (g_low : Value) (g_high : Value) (g_sites : Value) (g_nulls : Value) (g_there : Value) (g_lanes : Value) (g_least : Value) (ga_most : Nat) (ga_placeLow : Nat) (ga_placeHigh : Nat) (g_reached : Value) (g_mayThrow : Value) (g_status : Int32) (g_hasRun : Int32) (g_threw : Int32) (g_whereThrown : Int32) (g_value : Value) (g_means : Value) (g_laneOf : Value) (g_sizeOf : Value) (g_cells : Value) (g_copied : Value) (g_state : Int64) (g_joinedLow : Int64) (g_joinedHigh : Int64) (g_keptLow : Value) (g_keptHigh : Value) (gc_most : Nat → Int64) (gc_placeLow : Nat → Int64) (gc_placeHigh : Nat → Int64) (ia : Int32) : va_W := [(gh, .inr (5, [.int g_acts, g_kind, g_na, g_nb, g_nc, g_nd, g_ne, g_dropped, g_live, g_low, g_high, g_sites, g_nulls, g_there, g_lanes, g_least, .ref ga_most, .ref ga_placeLow, .ref ga_placeHigh, g_reached, g_mayThrow, .int g_status, .int g_hasRun, .int g_threw, .int g_whereThrown, g_value, g_means, g_laneOf, g_sizeOf, g_cells, g_copied, .long g_state, .long g_joinedLow, .long g_joinedHigh, g_keptLow, g_keptHigh])), (ga_most, .inl (cJ, 80, .inr (.inl gc_most))), (ga_placeLow, .inl (cJ, 960, .inr (.inl gc_placeLow))), (ga_placeHigh, .inl (cJ, 960, .inr (.inl gc_placeHigh)))]
set_option maxHeartbeats 8000000 in
set_option maxRecDepth 100000 in
theorem s_X5_segments (l : Launch) (dC : Nat → ClassId) (dI : Nat → Nat → Nat) (cI cJ cZ : ClassId) (gh : Nat) (g_acts : Int32) (g_kind : Value) (g_na : Value) (g_nb : Value) (g_nc : Value) (g_nd : Value) (g_ne : Value) (g_dropped : Value) (g_live : Value) (g_low : Value) (g_high : Value) (g_sites : Value) (g_nulls : Value) (g_there : Value) (g_lanes : Value) (g_least : Value) (ga_most : Nat) (ga_placeLow : Nat) (ga_placeHigh : Nat) (g_reached : Value) (g_mayThrow : Value) (g_status : Int32) (g_hasRun : Int32) (g_threw : Int32) (g_whereThrown : Int32) (g_value : Value) (g_means : Value) (g_laneOf : Value) (g_sizeOf : Value) (g_cells : Value) (g_copied : Value) (g_state : Int64) (g_joinedLow : Int64) (g_joinedHigh : Int64) (g_keptLow : Value) (g_keptHigh : Value) (gc_most : Nat → Int64) (gc_placeLow : Nat → Int64) (gc_placeHigh : Nat → Int64) (ia : Int32) (sz : Nat) (q_g_hasRun : kZ g_hasRun) (h_gc_most : ∀ j : Nat, l12 (gc_most j)) (hy_ia : 0 ≤ ia.toInt ∧ ia.toInt ≤ 39) : Met l yX5_segments v_X5_segments ({ frames := 1, cells := 0, slots := 0, locals := 23 }) (va_Pc [.ref gh, .int ia] (cPre dC dI cI cJ cZ sz (sw_X5_segments cI cJ cZ gh g_acts g_kind g_na g_nb g_nc g_nd g_ne g_dropped g_live g_low g_high g_sites g_nulls g_there g_lanes g_least ga_most ga_placeLow ga_placeHigh g_reached g_mayThrow g_status g_hasRun g_threw g_whereThrown g_value g_means g_laneOf g_sizeOf g_cells g_copied g_state g_joinedLow g_joinedHigh g_keptLow g_keptHigh gc_most gc_placeLow gc_placeHigh ia))) (va_Qi (fun (r : Int32) (u : Unit) => ((1 ≤ (gc_most (ia).toNatClampNeg).toInt ∧ r.toInt + (Cn gc_placeLow gc_placeHigh ia.toInt.toNat 1 : Int) = 1 + (Cn gc_placeLow gc_placeHigh ia.toInt.toNat ((gc_most (ia).toNatClampNeg).toInt.toNat) : Int)) ∨ ((gc_most (ia).toNatClampNeg).toInt ≤ 0 ∧ r.toInt = 0))) (fun (u : Unit) => cPost dC dI cI cJ cZ (va_A (sw_X5_segments cI cJ cZ gh g_acts g_kind g_na g_nb g_nc g_nd g_ne g_dropped g_live g_low g_high g_sites g_nulls g_there g_lanes g_least ga_most ga_placeLow ga_placeHigh g_reached g_mayThrow g_status g_hasRun g_threw g_whereThrown g_value g_means g_laneOf g_sizeOf g_cells g_copied g_state g_joinedLow g_joinedHigh g_keptLow g_keptHigh gc_most gc_placeLow gc_placeHigh ia) sz) [(gh, .inr (5, [.int g_acts, g_kind, g_na, g_nb, g_nc, g_nd, g_ne, g_dropped, g_live, g_low, g_high, g_sites, g_nulls, g_there, g_lanes, g_least, .ref ga_most, .ref ga_placeLow, .ref ga_placeHigh, g_reached, g_mayThrow, .int g_status, .int g_hasRun, .int g_threw, .int g_whereThrown, g_value, g_means, g_laneOf, g_sizeOf, g_cells, g_copied, .long g_state, .long g_joinedLow, .long g_joinedHigh, g_keptLow, g_keptHigh])), (ga_most, .inl (cJ, 80, .inr (.inl gc_most))), (ga_placeLow, .inl (cJ, 960, .inr (.inl gc_placeLow))), (ga_placeHigh, .inl (cJ, 960, .inr (.inl gc_placeHigh)))]) (va_A (sw_X5_segments cI cJ cZ gh g_acts g_kind g_na g_nb g_nc g_nd g_ne g_dropped g_live g_low g_high g_sites g_nulls g_there g_lanes g_least ga_most ga_placeLow ga_placeHigh g_reached g_mayThrow g_status g_hasRun g_threw g_whereThrown g_value g_means g_laneOf g_sizeOf g_cells g_copied g_state g_joinedLow g_joinedHigh g_keptLow g_keptHigh gc_most gc_placeLow gc_placeHigh ia) sz)) 0 0 (va_A (sw_X5_segments cI cJ cZ gh g_acts g_kind g_na g_nb g_nc g_nd g_ne g_dropped g_live g_low g_high g_sites g_nulls g_there g_lanes g_least ga_most ga_placeLow ga_placeHigh g_reached g_mayThrow g_status g_hasRun g_threw g_whereThrown g_value g_means g_laneOf g_sizeOf g_cells g_copied g_state g_joinedLow g_joinedHigh g_keptLow g_keptHigh gc_most gc_placeLow gc_placeHigh ia) sz) := by
  refine Met.ofW (cc := cX5_segments) (maxL := 4) (ret := (some .int)) (by decide) rfl ?_
  intro p e s m args below meth c s₁ B hml hv
  obtain ⟨rfl, hsz, hP, hK, hD0, hN⟩ := hv
  have hx := B.exec
  have hb := B.bytes
  have hr := B.returns
  have hts := atoms_spec (ws := v_X5_segments) B.pre
  have hown : s.vm.findClass RX5 = some m.cls := findClass_of_methodNamed B.named
  have hlocks := B.notSynchronized
  subst hsz
  have hD := hD0.self (sz := s.heap.size)
  generalize hAe : va_A (sw_X5_segments cI cJ cZ gh g_acts g_kind g_na g_nb g_nc g_nd g_ne g_dropped g_live g_low g_high g_sites g_nulls g_there g_lanes g_least ga_most ga_placeLow ga_placeHigh g_reached g_mayThrow g_status g_hasRun g_threw g_whereThrown g_value g_means g_laneOf g_sizeOf g_cells g_copied g_state g_joinedLow g_joinedHigh g_keptLow g_keptHigh gc_most gc_placeLow gc_placeHigh ia) s.heap.size = A at hD ⊢
  have hA : ∀ q : Nat, s.heap.size ≤ q → A q := fun q h => by rw [← hAe]; exact Or.inr h
  clear hAe hD0
  have hS : va_S A s.heap s.heap [] := va_S.rf
  replace hP : va_P (dC, dI) vwCl [(gh, .inr (5, [.int g_acts, g_kind, g_na, g_nb, g_nc, g_nd, g_ne, g_dropped, g_live, g_low, g_high, g_sites, g_nulls, g_there, g_lanes, g_least, .ref ga_most, .ref ga_placeLow, .ref ga_placeHigh, g_reached, g_mayThrow, .int g_status, .int g_hasRun, .int g_threw, .int g_whereThrown, g_value, g_means, g_laneOf, g_sizeOf, g_cells, g_copied, .long g_state, .long g_joinedLow, .long g_joinedHigh, g_keptLow, g_keptHigh])), (ga_most, .inl (cJ, 80, .inr (.inl gc_most))), (ga_placeLow, .inl (cJ, 960, .inr (.inl gc_placeLow))), (ga_placeHigh, .inl (cJ, 960, .inr (.inl gc_placeHigh)))] s.heap := hP
  replace hD : va_D A [(gh, .inr (5, [.int g_acts, g_kind, g_na, g_nb, g_nc, g_nd, g_ne, g_dropped, g_live, g_low, g_high, g_sites, g_nulls, g_there, g_lanes, g_least, .ref ga_most, .ref ga_placeLow, .ref ga_placeHigh, g_reached, g_mayThrow, .int g_status, .int g_hasRun, .int g_threw, .int g_whereThrown, g_value, g_means, g_laneOf, g_sizeOf, g_cells, g_copied, .long g_state, .long g_joinedLow, .long g_joinedHigh, g_keptLow, g_keptHigh])), (ga_most, .inl (cJ, 80, .inr (.inl gc_most))), (ga_placeLow, .inl (cJ, 960, .inr (.inl gc_placeLow))), (ga_placeHigh, .inl (cJ, 960, .inr (.inl gc_placeHigh)))] := hD
  have hl := lv_entry ([.ref gh, .int ia]) (n := 4) (Nat.le_of_ble_eq_true rfl)
  rw [lg_entry_eq]
  generalize (lg_sl ([.ref gh, .int ia]) ++ List.replicate (4 - (lg_sl ([.ref gh, .int ia])).length) Slot.unset).toArray = ls at hl ⊢
  replace hl : lv_has ls 4 [(0, .ref gh), (1, .int ia)] := hl
  have z_0 : (0 : Int32).toInt = 0 := by decide
  have z_1 : (1 : Int32).toInt = 1 := by decide
  have zl_0 : (0 : Int64).toInt = 0 := by decide
  have c1 : (Cn gc_placeLow gc_placeHigh ia.toInt.toNat ((1 : Int32).toInt.toNat) : Int) = (Cn gc_placeLow gc_placeHigh ia.toInt.toNat 1 : Int) := congrArg (fun q => ((Cn gc_placeLow gc_placeHigh ia.toInt.toNat q : Nat) : Int)) (show (1 : Int32).toInt.toNat = 1 from by decide)
  refine lv_aload_n hx hb dX5_segments_0 rfl (lv_at hl 0 rfl) ?_
  refine va_get (D := (dC, dI)) (ci := 5) (v := .ref ga_most) (C := RX5) (T := TX5) (N := 36) hx hb hts inv_X5_segments_X5 hown hK hP 0 rfl rfl 16 (by decide) (hts (.fieldLink RX5 57 "ArraySegmentsModel" "most" "[J") (List.mem_of_getElem? (i := 1) rfl)) (fun _ h9 => h9) rfl dX5_segments_1 ?_
  refine lv_iload_n hx hb dX5_segments_4 rfl (lv_at hl 1 rfl) ?_
  refine sf_lald l12 hx hb hK hP 1 1 rfl rfl h_gc_most (vp_in_iff.mpr ⟨by omega, by omega⟩) dX5_segments_5 (fun v_1 q_v_1 e_v_1 => ?_)
  have et_v_1 : v_1.toInt = (gc_most (ia).toNatClampNeg).toInt := by rw [e_v_1]
  refine lv_lconst (v := 0) hx hb dX5_segments_6 (by decide) ?_
  refine W.lcmp hx hb dX5_segments_7 ?_
  refine lv_if_le (tgt := 15) hx hb dX5_segments_8 (by decide) (fun c_2 => ?_) (fun c_2 => ?_)
  · -- yes
    have k_2 : v_1.toInt ≤ (0 : Int64).toInt := lc_le c_2
    refine lv_iconst (v := 0) hx hb dX5_segments_15 (by decide) ?_
    refine lv_istore_n (lv' := [(2, .int 0), (0, .ref gh), (1, .int ia)]) hx hb dX5_segments_16 rfl hl (by decide) rfl (fun ls1 hl1 => ?_)
    replace hl := hl1; clear hl1
    refine lv_iconst (v := 1) hx hb dX5_segments_17 (by decide) ?_
    refine lv_istore_n (lv' := [(3, .int 1), (2, .int 0), (0, .ref gh), (1, .int ia)]) hx hb dX5_segments_18 rfl hl (by decide) rfl (fun ls1 hl1 => ?_)
    replace hl := hl1; clear hl1
    refine my_wloop (S := Int32 × Int32) (fun u => (1 ≤ (u.1).toInt ∧ (u.1).toInt ≤ 12) ∧ (0 ≤ (u.2).toInt ∧ (u.2).toInt ≤ 12) ∧ ((1 ≤ (gc_most (ia).toNatClampNeg).toInt ∧ (u.2).toInt + (Cn gc_placeLow gc_placeHigh ia.toInt.toNat 1 : Int) = 1 + (Cn gc_placeLow gc_placeHigh ia.toInt.toNat ((u.1).toInt.toNat) : Int) ∧ (u.1).toInt ≤ (gc_most (ia).toNatClampNeg).toInt ∧ (u.2).toInt ≤ (u.1).toInt) ∨ ((gc_most (ia).toNatClampNeg).toInt ≤ 0 ∧ (u.2).toInt = 0 ∧ (u.1).toInt = 1))) (fun u => (1 - (u.1).toInt).toNat) (fun u => [(gh, .inr (5, [.int g_acts, g_kind, g_na, g_nb, g_nc, g_nd, g_ne, g_dropped, g_live, g_low, g_high, g_sites, g_nulls, g_there, g_lanes, g_least, .ref ga_most, .ref ga_placeLow, .ref ga_placeHigh, g_reached, g_mayThrow, .int g_status, .int g_hasRun, .int g_threw, .int g_whereThrown, g_value, g_means, g_laneOf, g_sizeOf, g_cells, g_copied, .long g_state, .long g_joinedLow, .long g_joinedHigh, g_keptLow, g_keptHigh])), (ga_most, .inl (cJ, 80, .inr (.inl gc_most))), (ga_placeLow, .inl (cJ, 960, .inr (.inl gc_placeLow))), (ga_placeHigh, .inl (cJ, 960, .inr (.inl gc_placeHigh)))]) (fun u => [(3, .int (u.1)), (2, .int (u.2)), (0, .ref gh), (1, .int ia)]) (H0 := s.heap) (A := A) (D := (dC, dI)) (cl := vwCl) ((1 : Int32), (0 : Int32)) (show (1 ≤ (1 : Int32).toInt ∧ (1 : Int32).toInt ≤ 12) ∧ (0 ≤ (0 : Int32).toInt ∧ (0 : Int32).toInt ≤ 12) ∧ ((1 ≤ (gc_most (ia).toNatClampNeg).toInt ∧ (0 : Int32).toInt + (Cn gc_placeLow gc_placeHigh ia.toInt.toNat 1 : Int) = 1 + (Cn gc_placeLow gc_placeHigh ia.toInt.toNat ((1 : Int32).toInt.toNat) : Int) ∧ (1 : Int32).toInt ≤ (gc_most (ia).toNatClampNeg).toInt ∧ (0 : Int32).toInt ≤ (1 : Int32).toInt) ∨ ((gc_most (ia).toNatClampNeg).toInt ≤ 0 ∧ (0 : Int32).toInt = 0 ∧ (1 : Int32).toInt = 1)) from ⟨⟨by omega, by omega⟩, ⟨by omega, by omega⟩, (by first | omega | (intros; omega))⟩) (by exact hP) (by exact hD) hS (by exact hl) (fun u_3 hu_3 ih_3 H_3 locs_3 ls1 hP1 hD1 hS1 hl1 => ?_)
    obtain ⟨v_4, v_5⟩ := u_3
    replace hu_3 : (1 ≤ v_4.toInt ∧ v_4.toInt ≤ 12) ∧ (0 ≤ v_5.toInt ∧ v_5.toInt ≤ 12) ∧ ((1 ≤ (gc_most (ia).toNatClampNeg).toInt ∧ v_5.toInt + (Cn gc_placeLow gc_placeHigh ia.toInt.toNat 1 : Int) = 1 + (Cn gc_placeLow gc_placeHigh ia.toInt.toNat (v_4.toInt.toNat) : Int) ∧ v_4.toInt ≤ (gc_most (ia).toNatClampNeg).toInt ∧ v_5.toInt ≤ v_4.toInt) ∨ ((gc_most (ia).toNatClampNeg).toInt ≤ 0 ∧ v_5.toInt = 0 ∧ v_4.toInt = 1)) := hu_3
    obtain ⟨q_v_4, q_v_5, x_3⟩ := hu_3
    replace hP : va_P (dC, dI) vwCl [(gh, .inr (5, [.int g_acts, g_kind, g_na, g_nb, g_nc, g_nd, g_ne, g_dropped, g_live, g_low, g_high, g_sites, g_nulls, g_there, g_lanes, g_least, .ref ga_most, .ref ga_placeLow, .ref ga_placeHigh, g_reached, g_mayThrow, .int g_status, .int g_hasRun, .int g_threw, .int g_whereThrown, g_value, g_means, g_laneOf, g_sizeOf, g_cells, g_copied, .long g_state, .long g_joinedLow, .long g_joinedHigh, g_keptLow, g_keptHigh])), (ga_most, .inl (cJ, 80, .inr (.inl gc_most))), (ga_placeLow, .inl (cJ, 960, .inr (.inl gc_placeLow))), (ga_placeHigh, .inl (cJ, 960, .inr (.inl gc_placeHigh)))] H_3 := hP1
    replace hD : va_D A [(gh, .inr (5, [.int g_acts, g_kind, g_na, g_nb, g_nc, g_nd, g_ne, g_dropped, g_live, g_low, g_high, g_sites, g_nulls, g_there, g_lanes, g_least, .ref ga_most, .ref ga_placeLow, .ref ga_placeHigh, g_reached, g_mayThrow, .int g_status, .int g_hasRun, .int g_threw, .int g_whereThrown, g_value, g_means, g_laneOf, g_sizeOf, g_cells, g_copied, .long g_state, .long g_joinedLow, .long g_joinedHigh, g_keptLow, g_keptHigh])), (ga_most, .inl (cJ, 80, .inr (.inl gc_most))), (ga_placeLow, .inl (cJ, 960, .inr (.inl gc_placeLow))), (ga_placeHigh, .inl (cJ, 960, .inr (.inl gc_placeHigh)))] := hD1
    replace hS := hS1
    clear hP1 hD1 hS1
    replace hl : lv_has ls1 4 [(3, .int v_4), (2, .int v_5), (0, .ref gh), (1, .int ia)] := hl1
    clear hl1
    refine lv_iload_n hx hb dX5_segments_19 rfl (lv_at hl 0 rfl) ?_
    refine sf_i2l hx hb dX5_segments_20 (fun v_6 q_v_6 => ?_)
    refine lv_aload_n hx hb dX5_segments_21 rfl (lv_at hl 2 rfl) ?_
    refine va_get (D := (dC, dI)) (ci := 5) (v := .ref ga_most) (C := RX5) (T := TX5) (N := 36) hx hb hts inv_X5_segments_X5 hown hK hP 0 rfl rfl 16 (by decide) (hts (.fieldLink RX5 57 "ArraySegmentsModel" "most" "[J") (List.mem_of_getElem? (i := 1) rfl)) (fun _ h9 => h9) rfl dX5_segments_22 ?_
    refine lv_iload_n hx hb dX5_segments_25 rfl (lv_at hl 3 rfl) ?_
    refine sf_lald l12 hx hb hK hP 1 1 rfl rfl h_gc_most (vp_in_iff.mpr ⟨by omega, by omega⟩) dX5_segments_26 (fun v_7 q_v_7 e_v_7 => ?_)
    have et_v_7 : v_7.toInt = (gc_most (ia).toNatClampNeg).toInt := by rw [e_v_7]
    refine W.lcmp hx hb dX5_segments_27 ?_
    refine lv_if_ge (tgt := 54) hx hb dX5_segments_28 (by decide) (fun c_8 => ?_) (fun c_8 => ?_)
    · -- yes
      have k_8 : v_7.toInt ≤ v_6.toInt := lc_ge c_8
      refine lv_iload_n hx hb dX5_segments_54 rfl (lv_at hl 1 rfl) ?_
      have hP9 := hP.sub (ws' := [(gh, .inr (5, [.int g_acts, g_kind, g_na, g_nb, g_nc, g_nd, g_ne, g_dropped, g_live, g_low, g_high, g_sites, g_nulls, g_there, g_lanes, g_least, .ref ga_most, .ref ga_placeLow, .ref ga_placeHigh, g_reached, g_mayThrow, .int g_status, .int g_hasRun, .int g_threw, .int g_whereThrown, g_value, g_means, g_laneOf, g_sizeOf, g_cells, g_copied, .long g_state, .long g_joinedLow, .long g_joinedHigh, g_keptLow, g_keptHigh])), (ga_most, .inl (cJ, 80, .inr (.inl gc_most))), (ga_placeLow, .inl (cJ, 960, .inr (.inl gc_placeLow))), (ga_placeHigh, .inl (cJ, 960, .inr (.inl gc_placeHigh)))]) [0, 1, 2, 3] rfl
      have hD9 := hD.sub (ws' := [(gh, .inr (5, [.int g_acts, g_kind, g_na, g_nb, g_nc, g_nd, g_ne, g_dropped, g_live, g_low, g_high, g_sites, g_nulls, g_there, g_lanes, g_least, .ref ga_most, .ref ga_placeLow, .ref ga_placeHigh, g_reached, g_mayThrow, .int g_status, .int g_hasRun, .int g_threw, .int g_whereThrown, g_value, g_means, g_laneOf, g_sizeOf, g_cells, g_copied, .long g_state, .long g_joinedLow, .long g_joinedHigh, g_keptLow, g_keptHigh])), (ga_most, .inl (cJ, 80, .inr (.inl gc_most))), (ga_placeLow, .inl (cJ, 960, .inr (.inl gc_placeLow))), (ga_placeHigh, .inl (cJ, 960, .inr (.inl gc_placeHigh)))]) [0, 1, 2, 3] (by decide) rfl
      exact W.iret (v := v_5) hx hb hr (fun t ht hW => ⟨⟨v_5, (), rfl, (show (1 ≤ (gc_most (ia).toNatClampNeg).toInt ∧ v_5.toInt + (Cn gc_placeLow gc_placeHigh ia.toInt.toNat 1 : Int) = 1 + (Cn gc_placeLow gc_placeHigh ia.toInt.toNat ((gc_most (ia).toNatClampNeg).toInt.toNat) : Int)) ∨ ((gc_most (ia).toNatClampNeg).toInt ≤ 0 ∧ v_5.toInt = 0) from (Or.elim (show v_4.toInt = (gc_most (ia).toNatClampNeg).toInt ∨ (gc_most (ia).toNatClampNeg).toInt ≤ 0 by omega) (fun h9 => by rw [← h9]; omega) (fun h9 => by omega))), by rw [ht]; exact hP9, va_K.moved hW.alike hK, hD9⟩, hS.F ht⟩) hS.2.2 dX5_segments_55
    · -- no
      have k_8 : v_6.toInt < v_7.toInt := lc_nge c_8
      exfalso; omega
  · -- no
    have k_2 : (0 : Int64).toInt < v_1.toInt := lc_nle c_2
    refine lv_iconst (v := 1) hx hb dX5_segments_11 (by decide) ?_
    refine lv_goto (tgt := 16) hx hb dX5_segments_12 (by decide) ?_
    refine lv_istore_n (lv' := [(2, .int 1), (0, .ref gh), (1, .int ia)]) hx hb dX5_segments_16 rfl hl (by decide) rfl (fun ls1 hl1 => ?_)
    replace hl := hl1; clear hl1
    refine lv_iconst (v := 1) hx hb dX5_segments_17 (by decide) ?_
    refine lv_istore_n (lv' := [(3, .int 1), (2, .int 1), (0, .ref gh), (1, .int ia)]) hx hb dX5_segments_18 rfl hl (by decide) rfl (fun ls1 hl1 => ?_)
    replace hl := hl1; clear hl1
    refine my_wloop (S := Int32 × Int32) (fun u => (1 ≤ (u.1).toInt ∧ (u.1).toInt ≤ 12) ∧ (0 ≤ (u.2).toInt ∧ (u.2).toInt ≤ 12) ∧ ((1 ≤ (gc_most (ia).toNatClampNeg).toInt ∧ (u.2).toInt + (Cn gc_placeLow gc_placeHigh ia.toInt.toNat 1 : Int) = 1 + (Cn gc_placeLow gc_placeHigh ia.toInt.toNat ((u.1).toInt.toNat) : Int) ∧ (u.1).toInt ≤ (gc_most (ia).toNatClampNeg).toInt ∧ (u.2).toInt ≤ (u.1).toInt) ∨ ((gc_most (ia).toNatClampNeg).toInt ≤ 0 ∧ (u.2).toInt = 0 ∧ (u.1).toInt = 1))) (fun u => (12 - (u.1).toInt).toNat) (fun u => [(gh, .inr (5, [.int g_acts, g_kind, g_na, g_nb, g_nc, g_nd, g_ne, g_dropped, g_live, g_low, g_high, g_sites, g_nulls, g_there, g_lanes, g_least, .ref ga_most, .ref ga_placeLow, .ref ga_placeHigh, g_reached, g_mayThrow, .int g_status, .int g_hasRun, .int g_threw, .int g_whereThrown, g_value, g_means, g_laneOf, g_sizeOf, g_cells, g_copied, .long g_state, .long g_joinedLow, .long g_joinedHigh, g_keptLow, g_keptHigh])), (ga_most, .inl (cJ, 80, .inr (.inl gc_most))), (ga_placeLow, .inl (cJ, 960, .inr (.inl gc_placeLow))), (ga_placeHigh, .inl (cJ, 960, .inr (.inl gc_placeHigh)))]) (fun u => [(3, .int (u.1)), (2, .int (u.2)), (0, .ref gh), (1, .int ia)]) (H0 := s.heap) (A := A) (D := (dC, dI)) (cl := vwCl) ((1 : Int32), (1 : Int32)) (show (1 ≤ (1 : Int32).toInt ∧ (1 : Int32).toInt ≤ 12) ∧ (0 ≤ (1 : Int32).toInt ∧ (1 : Int32).toInt ≤ 12) ∧ ((1 ≤ (gc_most (ia).toNatClampNeg).toInt ∧ (1 : Int32).toInt + (Cn gc_placeLow gc_placeHigh ia.toInt.toNat 1 : Int) = 1 + (Cn gc_placeLow gc_placeHigh ia.toInt.toNat ((1 : Int32).toInt.toNat) : Int) ∧ (1 : Int32).toInt ≤ (gc_most (ia).toNatClampNeg).toInt ∧ (1 : Int32).toInt ≤ (1 : Int32).toInt) ∨ ((gc_most (ia).toNatClampNeg).toInt ≤ 0 ∧ (1 : Int32).toInt = 0 ∧ (1 : Int32).toInt = 1)) from ⟨⟨by omega, by omega⟩, ⟨by omega, by omega⟩, (by first | omega | (intros; omega))⟩) (by exact hP) (by exact hD) hS (by exact hl) (fun u_9 hu_9 ih_9 H_9 locs_9 ls1 hP1 hD1 hS1 hl1 => ?_)
    obtain ⟨v_10, v_11⟩ := u_9
    replace hu_9 : (1 ≤ v_10.toInt ∧ v_10.toInt ≤ 12) ∧ (0 ≤ v_11.toInt ∧ v_11.toInt ≤ 12) ∧ ((1 ≤ (gc_most (ia).toNatClampNeg).toInt ∧ v_11.toInt + (Cn gc_placeLow gc_placeHigh ia.toInt.toNat 1 : Int) = 1 + (Cn gc_placeLow gc_placeHigh ia.toInt.toNat (v_10.toInt.toNat) : Int) ∧ v_10.toInt ≤ (gc_most (ia).toNatClampNeg).toInt ∧ v_11.toInt ≤ v_10.toInt) ∨ ((gc_most (ia).toNatClampNeg).toInt ≤ 0 ∧ v_11.toInt = 0 ∧ v_10.toInt = 1)) := hu_9
    obtain ⟨q_v_10, q_v_11, x_9⟩ := hu_9
    replace hP : va_P (dC, dI) vwCl [(gh, .inr (5, [.int g_acts, g_kind, g_na, g_nb, g_nc, g_nd, g_ne, g_dropped, g_live, g_low, g_high, g_sites, g_nulls, g_there, g_lanes, g_least, .ref ga_most, .ref ga_placeLow, .ref ga_placeHigh, g_reached, g_mayThrow, .int g_status, .int g_hasRun, .int g_threw, .int g_whereThrown, g_value, g_means, g_laneOf, g_sizeOf, g_cells, g_copied, .long g_state, .long g_joinedLow, .long g_joinedHigh, g_keptLow, g_keptHigh])), (ga_most, .inl (cJ, 80, .inr (.inl gc_most))), (ga_placeLow, .inl (cJ, 960, .inr (.inl gc_placeLow))), (ga_placeHigh, .inl (cJ, 960, .inr (.inl gc_placeHigh)))] H_9 := hP1
    replace hD : va_D A [(gh, .inr (5, [.int g_acts, g_kind, g_na, g_nb, g_nc, g_nd, g_ne, g_dropped, g_live, g_low, g_high, g_sites, g_nulls, g_there, g_lanes, g_least, .ref ga_most, .ref ga_placeLow, .ref ga_placeHigh, g_reached, g_mayThrow, .int g_status, .int g_hasRun, .int g_threw, .int g_whereThrown, g_value, g_means, g_laneOf, g_sizeOf, g_cells, g_copied, .long g_state, .long g_joinedLow, .long g_joinedHigh, g_keptLow, g_keptHigh])), (ga_most, .inl (cJ, 80, .inr (.inl gc_most))), (ga_placeLow, .inl (cJ, 960, .inr (.inl gc_placeLow))), (ga_placeHigh, .inl (cJ, 960, .inr (.inl gc_placeHigh)))] := hD1
    replace hS := hS1
    clear hP1 hD1 hS1
    replace hl : lv_has ls1 4 [(3, .int v_10), (2, .int v_11), (0, .ref gh), (1, .int ia)] := hl1
    clear hl1
    refine lv_iload_n hx hb dX5_segments_19 rfl (lv_at hl 0 rfl) ?_
    refine sf_i2l hx hb dX5_segments_20 (fun v_12 q_v_12 => ?_)
    refine lv_aload_n hx hb dX5_segments_21 rfl (lv_at hl 2 rfl) ?_
    refine va_get (D := (dC, dI)) (ci := 5) (v := .ref ga_most) (C := RX5) (T := TX5) (N := 36) hx hb hts inv_X5_segments_X5 hown hK hP 0 rfl rfl 16 (by decide) (hts (.fieldLink RX5 57 "ArraySegmentsModel" "most" "[J") (List.mem_of_getElem? (i := 1) rfl)) (fun _ h9 => h9) rfl dX5_segments_22 ?_
    refine lv_iload_n hx hb dX5_segments_25 rfl (lv_at hl 3 rfl) ?_
    refine sf_lald l12 hx hb hK hP 1 1 rfl rfl h_gc_most (vp_in_iff.mpr ⟨by omega, by omega⟩) dX5_segments_26 (fun v_13 q_v_13 e_v_13 => ?_)
    have et_v_13 : v_13.toInt = (gc_most (ia).toNatClampNeg).toInt := by rw [e_v_13]
    refine W.lcmp hx hb dX5_segments_27 ?_
    refine lv_if_ge (tgt := 54) hx hb dX5_segments_28 (by decide) (fun c_14 => ?_) (fun c_14 => ?_)
    · -- yes
      have k_14 : v_13.toInt ≤ v_12.toInt := lc_ge c_14
      refine lv_iload_n hx hb dX5_segments_54 rfl (lv_at hl 1 rfl) ?_
      have hP9 := hP.sub (ws' := [(gh, .inr (5, [.int g_acts, g_kind, g_na, g_nb, g_nc, g_nd, g_ne, g_dropped, g_live, g_low, g_high, g_sites, g_nulls, g_there, g_lanes, g_least, .ref ga_most, .ref ga_placeLow, .ref ga_placeHigh, g_reached, g_mayThrow, .int g_status, .int g_hasRun, .int g_threw, .int g_whereThrown, g_value, g_means, g_laneOf, g_sizeOf, g_cells, g_copied, .long g_state, .long g_joinedLow, .long g_joinedHigh, g_keptLow, g_keptHigh])), (ga_most, .inl (cJ, 80, .inr (.inl gc_most))), (ga_placeLow, .inl (cJ, 960, .inr (.inl gc_placeLow))), (ga_placeHigh, .inl (cJ, 960, .inr (.inl gc_placeHigh)))]) [0, 1, 2, 3] rfl
      have hD9 := hD.sub (ws' := [(gh, .inr (5, [.int g_acts, g_kind, g_na, g_nb, g_nc, g_nd, g_ne, g_dropped, g_live, g_low, g_high, g_sites, g_nulls, g_there, g_lanes, g_least, .ref ga_most, .ref ga_placeLow, .ref ga_placeHigh, g_reached, g_mayThrow, .int g_status, .int g_hasRun, .int g_threw, .int g_whereThrown, g_value, g_means, g_laneOf, g_sizeOf, g_cells, g_copied, .long g_state, .long g_joinedLow, .long g_joinedHigh, g_keptLow, g_keptHigh])), (ga_most, .inl (cJ, 80, .inr (.inl gc_most))), (ga_placeLow, .inl (cJ, 960, .inr (.inl gc_placeLow))), (ga_placeHigh, .inl (cJ, 960, .inr (.inl gc_placeHigh)))]) [0, 1, 2, 3] (by decide) rfl
      exact W.iret (v := v_11) hx hb hr (fun t ht hW => ⟨⟨v_11, (), rfl, (show (1 ≤ (gc_most (ia).toNatClampNeg).toInt ∧ v_11.toInt + (Cn gc_placeLow gc_placeHigh ia.toInt.toNat 1 : Int) = 1 + (Cn gc_placeLow gc_placeHigh ia.toInt.toNat ((gc_most (ia).toNatClampNeg).toInt.toNat) : Int)) ∨ ((gc_most (ia).toNatClampNeg).toInt ≤ 0 ∧ v_11.toInt = 0) from (Or.elim (show v_10.toInt = (gc_most (ia).toNatClampNeg).toInt ∨ (gc_most (ia).toNatClampNeg).toInt ≤ 0 by omega) (fun h9 => by rw [← h9]; omega) (fun h9 => by omega))), by rw [ht]; exact hP9, va_K.moved hW.alike hK, hD9⟩, hS.F ht⟩) hS.2.2 dX5_segments_55
    · -- no
      have k_14 : v_12.toInt < v_13.toInt := lc_nge c_14
      refine lv_iload_n hx hb dX5_segments_31 rfl (lv_at hl 1 rfl) ?_
      refine lv_aload_n hx hb dX5_segments_32 rfl (lv_at hl 2 rfl) ?_
      refine lv_iload_n hx hb dX5_segments_33 rfl (lv_at hl 3 rfl) ?_
      refine lv_iload_n hx hb dX5_segments_34 rfl (lv_at hl 0 rfl) ?_
      have hPc := hP.sub (ws' := [(gh, .inr (5, [.int g_acts, g_kind, g_na, g_nb, g_nc, g_nd, g_ne, g_dropped, g_live, g_low, g_high, g_sites, g_nulls, g_there, g_lanes, g_least, .ref ga_most, .ref ga_placeLow, .ref ga_placeHigh, g_reached, g_mayThrow, .int g_status, .int g_hasRun, .int g_threw, .int g_whereThrown, g_value, g_means, g_laneOf, g_sizeOf, g_cells, g_copied, .long g_state, .long g_joinedLow, .long g_joinedHigh, g_keptLow, g_keptHigh])), (ga_placeLow, .inl (cJ, 960, .inr (.inl gc_placeLow))), (ga_placeHigh, .inl (cJ, 960, .inr (.inl gc_placeHigh)))]) [0, 2, 3] rfl
      have hDc := hD.sub (ws' := [(gh, .inr (5, [.int g_acts, g_kind, g_na, g_nb, g_nc, g_nd, g_ne, g_dropped, g_live, g_low, g_high, g_sites, g_nulls, g_there, g_lanes, g_least, .ref ga_most, .ref ga_placeLow, .ref ga_placeHigh, g_reached, g_mayThrow, .int g_status, .int g_hasRun, .int g_threw, .int g_whereThrown, g_value, g_means, g_laneOf, g_sizeOf, g_cells, g_copied, .long g_state, .long g_joinedLow, .long g_joinedHigh, g_keptLow, g_keptHigh])), (ga_placeLow, .inl (cJ, 960, .inr (.inl gc_placeLow))), (ga_placeHigh, .inl (cJ, 960, .inr (.inl gc_placeHigh)))]) [0, 2, 3] (by decide) rfl
      have hFc := va_free (wc := [(gh, .inr (5, [.int g_acts, g_kind, g_na, g_nb, g_nc, g_nd, g_ne, g_dropped, g_live, g_low, g_high, g_sites, g_nulls, g_there, g_lanes, g_least, .ref ga_most, .ref ga_placeLow, .ref ga_placeHigh, g_reached, g_mayThrow, .int g_status, .int g_hasRun, .int g_threw, .int g_whereThrown, g_value, g_means, g_laneOf, g_sizeOf, g_cells, g_copied, .long g_state, .long g_joinedLow, .long g_joinedHigh, g_keptLow, g_keptHigh])), (ga_placeLow, .inl (cJ, 960, .inr (.inl gc_placeLow))), (ga_placeHigh, .inl (cJ, 960, .inr (.inl gc_placeHigh)))]) hD hS hA [0, 2, 3] rfl
      refine va_calli (va_runV (As := [.int ia, .int v_10]) (rest := [.int v_11]) ⟨hx, hb, hml, hown, hts⟩ (s_X5_isLike l dC dI cI cJ cZ gh g_acts g_kind g_na g_nb g_nc g_nd g_ne g_dropped g_live g_low g_high g_sites g_nulls g_there g_lanes g_least (.ref ga_most) ga_placeLow ga_placeHigh g_reached g_mayThrow g_status g_hasRun g_threw g_whereThrown g_value g_means g_laneOf g_sizeOf g_cells g_copied g_state g_joinedLow g_joinedHigh g_keptLow g_keptHigh gc_placeLow gc_placeHigh ia v_10 H_9.size q_g_hasRun (by first | assumption | omega) (by first | assumption | omega)) (cwV 2 hts h_X5_segments_X5_isLike_266 rfl rfl rfl (by decide +kernel) ⟨Nat.le_of_ble_eq_true rfl, Nat.le_of_ble_eq_true rfl⟩) ⟨cPre_blind, va_recv hK hPc (ci := 5) (q0 := 0) rfl rfl, cPre_of hK hN hPc hDc⟩ rfl rfl hl.1 rfl (lv_room (Nat.le_of_ble_eq_true rfl)) dX5_segments_35 ⟨Nat.le_of_ble_eq_true rfl, Nat.le_of_ble_eq_true rfl⟩) hS (fun q _ h => hFc q h) hFc (fun r_15 u_15 t_15 H_15 locs_15 ht hvm hw_15 hB hz1 hk1 hS1 => ?_)
      obtain ⟨hP1, hK1, hD1⟩ := hB
      rw [ht] at hP1
      obtain ⟨hP2, hD2⟩ := va_join (wr := [(ga_most, .inl (cJ, 80, .inr (.inl gc_most)))]) (w1 := [(gh, .inr (5, [.int g_acts, g_kind, g_na, g_nb, g_nc, g_nd, g_ne, g_dropped, g_live, g_low, g_high, g_sites, g_nulls, g_there, g_lanes, g_least, .ref ga_most, .ref ga_placeLow, .ref ga_placeHigh, g_reached, g_mayThrow, .int g_status, .int g_hasRun, .int g_threw, .int g_whereThrown, g_value, g_means, g_laneOf, g_sizeOf, g_cells, g_copied, .long g_state, .long g_joinedLow, .long g_joinedHigh, g_keptLow, g_keptHigh])), (ga_placeLow, .inl (cJ, 960, .inr (.inl gc_placeLow))), (ga_placeHigh, .inl (cJ, 960, .inr (.inl gc_placeHigh)))]) hP hD [0, 2, 3] [1] rfl rfl (by decide) (by decide) hk1 hFc hP1 hD1
      clear hPc hDc hFc hP1 hD1 hK1 hk1 hz1 hvm ht
      replace hP : va_P (dC, dI) vwCl [(ga_most, .inl (cJ, 80, .inr (.inl gc_most))), (gh, .inr (5, [.int g_acts, g_kind, g_na, g_nb, g_nc, g_nd, g_ne, g_dropped, g_live, g_low, g_high, g_sites, g_nulls, g_there, g_lanes, g_least, .ref ga_most, .ref ga_placeLow, .ref ga_placeHigh, g_reached, g_mayThrow, .int g_status, .int g_hasRun, .int g_threw, .int g_whereThrown, g_value, g_means, g_laneOf, g_sizeOf, g_cells, g_copied, .long g_state, .long g_joinedLow, .long g_joinedHigh, g_keptLow, g_keptHigh])), (ga_placeLow, .inl (cJ, 960, .inr (.inl gc_placeLow))), (ga_placeHigh, .inl (cJ, 960, .inr (.inl gc_placeHigh)))] H_15 := hP2
      replace hD : va_D A [(ga_most, .inl (cJ, 80, .inr (.inl gc_most))), (gh, .inr (5, [.int g_acts, g_kind, g_na, g_nb, g_nc, g_nd, g_ne, g_dropped, g_live, g_low, g_high, g_sites, g_nulls, g_there, g_lanes, g_least, .ref ga_most, .ref ga_placeLow, .ref ga_placeHigh, g_reached, g_mayThrow, .int g_status, .int g_hasRun, .int g_threw, .int g_whereThrown, g_value, g_means, g_laneOf, g_sizeOf, g_cells, g_copied, .long g_state, .long g_joinedLow, .long g_joinedHigh, g_keptLow, g_keptHigh])), (ga_placeLow, .inl (cJ, 960, .inr (.inl gc_placeLow))), (ga_placeHigh, .inl (cJ, 960, .inr (.inl gc_placeHigh)))] := hD2
      replace hS := hS1
      clear hP2 hD2 hS1
      replace hw_15 : (two r_15 (like gc_placeLow gc_placeHigh ia.toInt.toNat v_10.toInt.toNat) 1 0) := hw_15
      have q_r_15 := hw_15
      refine lv_if_eq (tgt := 45) hx hb dX5_segments_38 (by decide) (fun c_16 => ?_) (fun c_16 => ?_)
      · -- yes
        have k_16 : r_15.toInt = (0 : Int32).toInt := ci_eq c_16
        have kt_16 : ¬ (like gc_placeLow gc_placeHigh ia.toInt.toNat v_10.toInt.toNat) := two_z q_r_15 c_16
        refine lv_iconst (v := 1) hx hb dX5_segments_45 (by decide) ?_
        refine sf_iadd hx hb dX5_segments_46 ⟨by omega, by omega⟩ (fun v_17 q_v_17 => ?_)
        refine lv_istore_n (lv' := [(2, .int v_17), (3, .int v_10), (0, .ref gh), (1, .int ia)]) hx hb dX5_segments_47 rfl hl (by decide) rfl (fun ls1 hl1 => ?_)
        replace hl := hl1; clear hl1
        refine sf_iinc hx hb dX5_segments_48 hl (k := 1) (x := v_10) (w := 1) rfl (by decide) (by decide) ⟨by omega, by omega⟩ (fun v_18 q_v_18 ls1 hl1 => ?_)
        replace hl : lv_has ls1 4 [(3, .int v_18), (2, .int v_17), (0, .ref gh), (1, .int ia)] := hl1
        clear hl1
        have cs_v_18 : (Cn gc_placeLow gc_placeHigh ia.toInt.toNat (v_18.toInt.toNat) : Int) = (Cn gc_placeLow gc_placeHigh ia.toInt.toNat (v_10.toInt.toNat) : Int) + 1 := congrArg (fun q : Nat => (q : Int)) (Cn_n (pl := gc_placeLow) (ph := gc_placeHigh) (b := ia.toInt.toNat) (q := v_10.toInt.toNat) (r := v_18.toInt.toNat) (by omega) kt_16)
        refine lv_goto (tgt := 19) hx hb dX5_segments_51 (by decide) ?_
        exact ih_9 (v_18, v_17) (show (1 ≤ v_18.toInt ∧ v_18.toInt ≤ 12) ∧ (0 ≤ v_17.toInt ∧ v_17.toInt ≤ 12) ∧ ((1 ≤ (gc_most (ia).toNatClampNeg).toInt ∧ v_17.toInt + (Cn gc_placeLow gc_placeHigh ia.toInt.toNat 1 : Int) = 1 + (Cn gc_placeLow gc_placeHigh ia.toInt.toNat (v_18.toInt.toNat) : Int) ∧ v_18.toInt ≤ (gc_most (ia).toNatClampNeg).toInt ∧ v_17.toInt ≤ v_18.toInt) ∨ ((gc_most (ia).toNatClampNeg).toInt ≤ 0 ∧ v_17.toInt = 0 ∧ v_18.toInt = 1)) from ⟨⟨by omega, by omega⟩, ⟨by omega, by omega⟩, (by first | omega | (intros; omega))⟩) (by show (12 - v_18.toInt).toNat < (12 - v_10.toInt).toNat; omega) _ _ _ (hP.sub [1, 0, 2, 3] rfl) (hD.sub [1, 0, 2, 3] (by decide) rfl) hS (lv_sub hl [0, 1, 2, 3] rfl)
      · -- no
        have k_16 : ¬ r_15.toInt = (0 : Int32).toInt := ci_ne c_16
        have kt_16 : like gc_placeLow gc_placeHigh ia.toInt.toNat v_10.toInt.toNat := two_nz q_r_15 c_16
        refine lv_iconst (v := 0) hx hb dX5_segments_41 (by decide) ?_
        refine lv_goto (tgt := 46) hx hb dX5_segments_42 (by decide) ?_
        refine sf_iadd hx hb dX5_segments_46 ⟨by omega, by omega⟩ (fun v_19 q_v_19 => ?_)
        refine lv_istore_n (lv' := [(2, .int v_19), (3, .int v_10), (0, .ref gh), (1, .int ia)]) hx hb dX5_segments_47 rfl hl (by decide) rfl (fun ls1 hl1 => ?_)
        replace hl := hl1; clear hl1
        refine sf_iinc hx hb dX5_segments_48 hl (k := 1) (x := v_10) (w := 1) rfl (by decide) (by decide) ⟨by omega, by omega⟩ (fun v_20 q_v_20 ls1 hl1 => ?_)
        replace hl : lv_has ls1 4 [(3, .int v_20), (2, .int v_19), (0, .ref gh), (1, .int ia)] := hl1
        clear hl1
        have cs_v_20 : (Cn gc_placeLow gc_placeHigh ia.toInt.toNat (v_20.toInt.toNat) : Int) = (Cn gc_placeLow gc_placeHigh ia.toInt.toNat (v_10.toInt.toNat) : Int) := congrArg (fun q : Nat => (q : Int)) (Cn_y (pl := gc_placeLow) (ph := gc_placeHigh) (b := ia.toInt.toNat) (q := v_10.toInt.toNat) (r := v_20.toInt.toNat) (by omega) kt_16)
        refine lv_goto (tgt := 19) hx hb dX5_segments_51 (by decide) ?_
        exact ih_9 (v_20, v_19) (show (1 ≤ v_20.toInt ∧ v_20.toInt ≤ 12) ∧ (0 ≤ v_19.toInt ∧ v_19.toInt ≤ 12) ∧ ((1 ≤ (gc_most (ia).toNatClampNeg).toInt ∧ v_19.toInt + (Cn gc_placeLow gc_placeHigh ia.toInt.toNat 1 : Int) = 1 + (Cn gc_placeLow gc_placeHigh ia.toInt.toNat (v_20.toInt.toNat) : Int) ∧ v_20.toInt ≤ (gc_most (ia).toNatClampNeg).toInt ∧ v_19.toInt ≤ v_20.toInt) ∨ ((gc_most (ia).toNatClampNeg).toInt ≤ 0 ∧ v_19.toInt = 0 ∧ v_20.toInt = 1)) from ⟨⟨by omega, by omega⟩, ⟨by omega, by omega⟩, (by first | omega | (intros; omega))⟩) (by show (12 - v_20.toInt).toNat < (12 - v_10.toInt).toNat; omega) _ _ _ (hP.sub [1, 0, 2, 3] rfl) (hD.sub [1, 0, 2, 3] (by decide) rfl) hS (lv_sub hl [0, 1, 2, 3] rfl)

def v_X5_isSorted : List Cond := .code yX5_isSorted cX5_isSorted 4 (some .boolean) :: ([.fieldLink RX5 57 "ArraySegmentsModel" "most" "[J", .fieldLink RX5 63 "ArraySegmentsModel" "placeHigh" "[J", .fieldLink RX5 60 "ArraySegmentsModel" "placeLow" "[J"] ++ (wsX50))
theorem inv_X5_isSorted_X5 : ∀ w ∈ wsX50, w ∈ v_X5_isSorted := fun _ h => List.mem_cons_of_mem _ (List.mem_append_right _ (h))
set_option maxRecDepth 20000 in
theorem gd_X5_isSorted : gdL v_X5_isSorted := gdC (gdW (by decide +kernel)) (gdA (gdW (by decide +kernel)) gd_wsX50)
abbrev sw_X5_isSorted (cI cJ cZ : ClassId) (gh : Nat) (g_acts : Int32) (g_kind : Value) (g_na : Value) (g_nb : Value) (g_nc : Value) (g_nd : Value) (g_ne : Value) (g_dropped : Value) (g_live : Value) (g_low : Value) (g_high : Value) (g_sites : Value) (g_nulls : Value) (g_there : Value) (g_lanes : Value) (g_least : Value) (ga_most : Nat) (ga_placeLow : Nat) (ga_placeHigh : Nat) (g_reached : Value) (g_mayThrow : Value) (g_status : Int32) (g_hasRun : Int32) (g_threw : Int32) (g_whereThrown : Int32) (g_value : Value) (g_means : Value) (g_laneOf : Value) (g_sizeOf : Value) (g_cells : Value) (g_copied : Value) (g_state : Int64) (g_joinedLow : Int64) (g_joinedHigh : Int64) (g_keptLow : Value) (g_keptHigh : Value) (gc_most : Nat → Int64) (gc_placeLow : Nat → Int64) (gc_placeHigh : Nat → Int64) (ia : Int32) : va_W := [(gh, .inr (5, [.int g_acts, g_kind, g_na, g_nb, g_nc, g_nd, g_ne, g_dropped, g_live, g_low, g_high, g_sites, g_nulls, g_there, g_lanes, g_least, .ref ga_most, .ref ga_placeLow, .ref ga_placeHigh, g_reached, g_mayThrow, .int g_status, .int g_hasRun, .int g_threw, .int g_whereThrown, g_value, g_means, g_laneOf, g_sizeOf, g_cells, g_copied, .long g_state, .long g_joinedLow, .long g_joinedHigh, g_keptLow, g_keptHigh])), (ga_most, .inl (cJ, 80, .inr (.inl gc_most))), (ga_placeLow, .inl (cJ, 960, .inr (.inl gc_placeLow))), (ga_placeHigh, .inl (cJ, 960, .inr (.inl gc_placeHigh)))]
set_option maxHeartbeats 8000000 in
set_option maxRecDepth 100000 in
theorem s_X5_isSorted (l : Launch) (dC : Nat → ClassId) (dI : Nat → Nat → Nat) (cI cJ cZ : ClassId) (gh : Nat) (g_acts : Int32) (g_kind : Value) (g_na : Value) (g_nb : Value) (g_nc : Value) (g_nd : Value) (g_ne : Value) (g_dropped : Value) (g_live : Value) (g_low : Value) (g_high : Value) (g_sites : Value) (g_nulls : Value) (g_there : Value) (g_lanes : Value) (g_least : Value) (ga_most : Nat) (ga_placeLow : Nat) (ga_placeHigh : Nat) (g_reached : Value) (g_mayThrow : Value) (g_status : Int32) (g_hasRun : Int32) (g_threw : Int32) (g_whereThrown : Int32) (g_value : Value) (g_means : Value) (g_laneOf : Value) (g_sizeOf : Value) (g_cells : Value) (g_copied : Value) (g_state : Int64) (g_joinedLow : Int64) (g_joinedHigh : Int64) (g_keptLow : Value) (g_keptHigh : Value) (gc_most : Nat → Int64) (gc_placeLow : Nat → Int64) (gc_placeHigh : Nat → Int64) (ia : Int32) (sz : Nat) (q_g_hasRun : kZ g_hasRun) (h_gc_most : ∀ j : Nat, l12 (gc_most j)) (hy_ia : 0 ≤ ia.toInt ∧ ia.toInt ≤ 39) : Met l yX5_isSorted v_X5_isSorted ({ frames := 0, cells := 0, slots := 0, locals := 0 }) (va_Pc [.ref gh, .int ia] (cPre dC dI cI cJ cZ sz (sw_X5_isSorted cI cJ cZ gh g_acts g_kind g_na g_nb g_nc g_nd g_ne g_dropped g_live g_low g_high g_sites g_nulls g_there g_lanes g_least ga_most ga_placeLow ga_placeHigh g_reached g_mayThrow g_status g_hasRun g_threw g_whereThrown g_value g_means g_laneOf g_sizeOf g_cells g_copied g_state g_joinedLow g_joinedHigh g_keptLow g_keptHigh gc_most gc_placeLow gc_placeHigh ia))) (va_Qi (fun (r : Int32) (u : Unit) => (kZ r)) (fun (u : Unit) => cPost dC dI cI cJ cZ (va_A (sw_X5_isSorted cI cJ cZ gh g_acts g_kind g_na g_nb g_nc g_nd g_ne g_dropped g_live g_low g_high g_sites g_nulls g_there g_lanes g_least ga_most ga_placeLow ga_placeHigh g_reached g_mayThrow g_status g_hasRun g_threw g_whereThrown g_value g_means g_laneOf g_sizeOf g_cells g_copied g_state g_joinedLow g_joinedHigh g_keptLow g_keptHigh gc_most gc_placeLow gc_placeHigh ia) sz) [(gh, .inr (5, [.int g_acts, g_kind, g_na, g_nb, g_nc, g_nd, g_ne, g_dropped, g_live, g_low, g_high, g_sites, g_nulls, g_there, g_lanes, g_least, .ref ga_most, .ref ga_placeLow, .ref ga_placeHigh, g_reached, g_mayThrow, .int g_status, .int g_hasRun, .int g_threw, .int g_whereThrown, g_value, g_means, g_laneOf, g_sizeOf, g_cells, g_copied, .long g_state, .long g_joinedLow, .long g_joinedHigh, g_keptLow, g_keptHigh])), (ga_most, .inl (cJ, 80, .inr (.inl gc_most))), (ga_placeLow, .inl (cJ, 960, .inr (.inl gc_placeLow))), (ga_placeHigh, .inl (cJ, 960, .inr (.inl gc_placeHigh)))]) (va_A (sw_X5_isSorted cI cJ cZ gh g_acts g_kind g_na g_nb g_nc g_nd g_ne g_dropped g_live g_low g_high g_sites g_nulls g_there g_lanes g_least ga_most ga_placeLow ga_placeHigh g_reached g_mayThrow g_status g_hasRun g_threw g_whereThrown g_value g_means g_laneOf g_sizeOf g_cells g_copied g_state g_joinedLow g_joinedHigh g_keptLow g_keptHigh gc_most gc_placeLow gc_placeHigh ia) sz)) 0 0 (va_A (sw_X5_isSorted cI cJ cZ gh g_acts g_kind g_na g_nb g_nc g_nd g_ne g_dropped g_live g_low g_high g_sites g_nulls g_there g_lanes g_least ga_most ga_placeLow ga_placeHigh g_reached g_mayThrow g_status g_hasRun g_threw g_whereThrown g_value g_means g_laneOf g_sizeOf g_cells g_copied g_state g_joinedLow g_joinedHigh g_keptLow g_keptHigh gc_most gc_placeLow gc_placeHigh ia) sz) := by
  refine Met.ofW (cc := cX5_isSorted) (maxL := 4) (ret := (some .boolean)) (by decide) rfl ?_
  intro p e s m args below meth c s₁ B hml hv
  obtain ⟨rfl, hsz, hP, hK, hD0, hN⟩ := hv
  have hx := B.exec
  have hb := B.bytes
  have hr := B.returns
  have hts := atoms_spec (ws := v_X5_isSorted) B.pre
  have hown : s.vm.findClass RX5 = some m.cls := findClass_of_methodNamed B.named
  have hlocks := B.notSynchronized
  subst hsz
  have hD := hD0.self (sz := s.heap.size)
  generalize hAe : va_A (sw_X5_isSorted cI cJ cZ gh g_acts g_kind g_na g_nb g_nc g_nd g_ne g_dropped g_live g_low g_high g_sites g_nulls g_there g_lanes g_least ga_most ga_placeLow ga_placeHigh g_reached g_mayThrow g_status g_hasRun g_threw g_whereThrown g_value g_means g_laneOf g_sizeOf g_cells g_copied g_state g_joinedLow g_joinedHigh g_keptLow g_keptHigh gc_most gc_placeLow gc_placeHigh ia) s.heap.size = A at hD ⊢
  have hA : ∀ q : Nat, s.heap.size ≤ q → A q := fun q h => by rw [← hAe]; exact Or.inr h
  clear hAe hD0
  have hS : va_S A s.heap s.heap [] := va_S.rf
  replace hP : va_P (dC, dI) vwCl [(gh, .inr (5, [.int g_acts, g_kind, g_na, g_nb, g_nc, g_nd, g_ne, g_dropped, g_live, g_low, g_high, g_sites, g_nulls, g_there, g_lanes, g_least, .ref ga_most, .ref ga_placeLow, .ref ga_placeHigh, g_reached, g_mayThrow, .int g_status, .int g_hasRun, .int g_threw, .int g_whereThrown, g_value, g_means, g_laneOf, g_sizeOf, g_cells, g_copied, .long g_state, .long g_joinedLow, .long g_joinedHigh, g_keptLow, g_keptHigh])), (ga_most, .inl (cJ, 80, .inr (.inl gc_most))), (ga_placeLow, .inl (cJ, 960, .inr (.inl gc_placeLow))), (ga_placeHigh, .inl (cJ, 960, .inr (.inl gc_placeHigh)))] s.heap := hP
  replace hD : va_D A [(gh, .inr (5, [.int g_acts, g_kind, g_na, g_nb, g_nc, g_nd, g_ne, g_dropped, g_live, g_low, g_high, g_sites, g_nulls, g_there, g_lanes, g_least, .ref ga_most, .ref ga_placeLow, .ref ga_placeHigh, g_reached, g_mayThrow, .int g_status, .int g_hasRun, .int g_threw, .int g_whereThrown, g_value, g_means, g_laneOf, g_sizeOf, g_cells, g_copied, .long g_state, .long g_joinedLow, .long g_joinedHigh, g_keptLow, g_keptHigh])), (ga_most, .inl (cJ, 80, .inr (.inl gc_most))), (ga_placeLow, .inl (cJ, 960, .inr (.inl gc_placeLow))), (ga_placeHigh, .inl (cJ, 960, .inr (.inl gc_placeHigh)))] := hD
  have hl := lv_entry ([.ref gh, .int ia]) (n := 4) (Nat.le_of_ble_eq_true rfl)
  rw [lg_entry_eq]
  generalize (lg_sl ([.ref gh, .int ia]) ++ List.replicate (4 - (lg_sl ([.ref gh, .int ia])).length) Slot.unset).toArray = ls at hl ⊢
  replace hl : lv_has ls 4 [(0, .ref gh), (1, .int ia)] := hl
  have z_0 : (0 : Int32).toInt = 0 := by decide
  have z_1 : (1 : Int32).toInt = 1 := by decide
  refine lv_iconst (v := 1) hx hb dX5_isSorted_0 (by decide) ?_
  refine lv_istore_n (lv' := [(2, .int 1), (0, .ref gh), (1, .int ia)]) hx hb dX5_isSorted_1 rfl hl (by decide) rfl (fun ls1 hl1 => ?_)
  replace hl := hl1; clear hl1
  refine lv_iconst (v := 1) hx hb dX5_isSorted_2 (by decide) ?_
  refine lv_istore_n (lv' := [(3, .int 1), (2, .int 1), (0, .ref gh), (1, .int ia)]) hx hb dX5_isSorted_3 rfl hl (by decide) rfl (fun ls1 hl1 => ?_)
  replace hl := hl1; clear hl1
  refine my_wloop (S := Int32 × Int32) (fun u => (1 ≤ (u.1).toInt ∧ (u.1).toInt ≤ 12) ∧ (0 ≤ (u.2).toInt ∧ (u.2).toInt ≤ 1)) (fun u => (12 - (u.1).toInt).toNat) (fun u => [(gh, .inr (5, [.int g_acts, g_kind, g_na, g_nb, g_nc, g_nd, g_ne, g_dropped, g_live, g_low, g_high, g_sites, g_nulls, g_there, g_lanes, g_least, .ref ga_most, .ref ga_placeLow, .ref ga_placeHigh, g_reached, g_mayThrow, .int g_status, .int g_hasRun, .int g_threw, .int g_whereThrown, g_value, g_means, g_laneOf, g_sizeOf, g_cells, g_copied, .long g_state, .long g_joinedLow, .long g_joinedHigh, g_keptLow, g_keptHigh])), (ga_most, .inl (cJ, 80, .inr (.inl gc_most))), (ga_placeLow, .inl (cJ, 960, .inr (.inl gc_placeLow))), (ga_placeHigh, .inl (cJ, 960, .inr (.inl gc_placeHigh)))]) (fun u => [(3, .int (u.1)), (2, .int (u.2)), (0, .ref gh), (1, .int ia)]) (H0 := s.heap) (A := A) (D := (dC, dI)) (cl := vwCl) ((1 : Int32), (1 : Int32)) (show (1 ≤ (1 : Int32).toInt ∧ (1 : Int32).toInt ≤ 12) ∧ (0 ≤ (1 : Int32).toInt ∧ (1 : Int32).toInt ≤ 1) from ⟨⟨by omega, by omega⟩, ⟨by omega, by omega⟩⟩) (by exact hP) (by exact hD) hS (by exact hl) (fun u_1 hu_1 ih_1 H_1 locs_1 ls1 hP1 hD1 hS1 hl1 => ?_)
  obtain ⟨v_2, v_3⟩ := u_1
  replace hu_1 : (1 ≤ v_2.toInt ∧ v_2.toInt ≤ 12) ∧ (0 ≤ v_3.toInt ∧ v_3.toInt ≤ 1) := hu_1
  obtain ⟨q_v_2, q_v_3⟩ := hu_1
  replace hP : va_P (dC, dI) vwCl [(gh, .inr (5, [.int g_acts, g_kind, g_na, g_nb, g_nc, g_nd, g_ne, g_dropped, g_live, g_low, g_high, g_sites, g_nulls, g_there, g_lanes, g_least, .ref ga_most, .ref ga_placeLow, .ref ga_placeHigh, g_reached, g_mayThrow, .int g_status, .int g_hasRun, .int g_threw, .int g_whereThrown, g_value, g_means, g_laneOf, g_sizeOf, g_cells, g_copied, .long g_state, .long g_joinedLow, .long g_joinedHigh, g_keptLow, g_keptHigh])), (ga_most, .inl (cJ, 80, .inr (.inl gc_most))), (ga_placeLow, .inl (cJ, 960, .inr (.inl gc_placeLow))), (ga_placeHigh, .inl (cJ, 960, .inr (.inl gc_placeHigh)))] H_1 := hP1
  replace hD : va_D A [(gh, .inr (5, [.int g_acts, g_kind, g_na, g_nb, g_nc, g_nd, g_ne, g_dropped, g_live, g_low, g_high, g_sites, g_nulls, g_there, g_lanes, g_least, .ref ga_most, .ref ga_placeLow, .ref ga_placeHigh, g_reached, g_mayThrow, .int g_status, .int g_hasRun, .int g_threw, .int g_whereThrown, g_value, g_means, g_laneOf, g_sizeOf, g_cells, g_copied, .long g_state, .long g_joinedLow, .long g_joinedHigh, g_keptLow, g_keptHigh])), (ga_most, .inl (cJ, 80, .inr (.inl gc_most))), (ga_placeLow, .inl (cJ, 960, .inr (.inl gc_placeLow))), (ga_placeHigh, .inl (cJ, 960, .inr (.inl gc_placeHigh)))] := hD1
  replace hS := hS1
  clear hP1 hD1 hS1
  replace hl : lv_has ls1 4 [(3, .int v_2), (2, .int v_3), (0, .ref gh), (1, .int ia)] := hl1
  clear hl1
  refine lv_iload_n hx hb dX5_isSorted_4 rfl (lv_at hl 0 rfl) ?_
  refine sf_i2l hx hb dX5_isSorted_5 (fun v_4 q_v_4 => ?_)
  refine lv_aload_n hx hb dX5_isSorted_6 rfl (lv_at hl 2 rfl) ?_
  refine va_get (D := (dC, dI)) (ci := 5) (v := .ref ga_most) (C := RX5) (T := TX5) (N := 36) hx hb hts inv_X5_isSorted_X5 hown hK hP 0 rfl rfl 16 (by decide) (hts (.fieldLink RX5 57 "ArraySegmentsModel" "most" "[J") (List.mem_of_getElem? (i := 1) rfl)) (fun _ h9 => h9) rfl dX5_isSorted_7 ?_
  refine lv_iload_n hx hb dX5_isSorted_10 rfl (lv_at hl 3 rfl) ?_
  refine sf_lald l12 hx hb hK hP 1 1 rfl rfl h_gc_most (vp_in_iff.mpr ⟨by omega, by omega⟩) dX5_isSorted_11 (fun v_5 q_v_5 e_v_5 => ?_)
  refine W.lcmp hx hb dX5_isSorted_12 ?_
  refine lv_if_ge (tgt := 58) hx hb dX5_isSorted_13 (by decide) (fun c_6 => ?_) (fun c_6 => ?_)
  · -- yes
    have k_6 : v_5.toInt ≤ v_4.toInt := lc_ge c_6
    refine lv_iload_n hx hb dX5_isSorted_58 rfl (lv_at hl 1 rfl) ?_
    have hP9 := hP.sub (ws' := [(gh, .inr (5, [.int g_acts, g_kind, g_na, g_nb, g_nc, g_nd, g_ne, g_dropped, g_live, g_low, g_high, g_sites, g_nulls, g_there, g_lanes, g_least, .ref ga_most, .ref ga_placeLow, .ref ga_placeHigh, g_reached, g_mayThrow, .int g_status, .int g_hasRun, .int g_threw, .int g_whereThrown, g_value, g_means, g_laneOf, g_sizeOf, g_cells, g_copied, .long g_state, .long g_joinedLow, .long g_joinedHigh, g_keptLow, g_keptHigh])), (ga_most, .inl (cJ, 80, .inr (.inl gc_most))), (ga_placeLow, .inl (cJ, 960, .inr (.inl gc_placeLow))), (ga_placeHigh, .inl (cJ, 960, .inr (.inl gc_placeHigh)))]) [0, 1, 2, 3] rfl
    have hD9 := hD.sub (ws' := [(gh, .inr (5, [.int g_acts, g_kind, g_na, g_nb, g_nc, g_nd, g_ne, g_dropped, g_live, g_low, g_high, g_sites, g_nulls, g_there, g_lanes, g_least, .ref ga_most, .ref ga_placeLow, .ref ga_placeHigh, g_reached, g_mayThrow, .int g_status, .int g_hasRun, .int g_threw, .int g_whereThrown, g_value, g_means, g_laneOf, g_sizeOf, g_cells, g_copied, .long g_state, .long g_joinedLow, .long g_joinedHigh, g_keptLow, g_keptHigh])), (ga_most, .inl (cJ, 80, .inr (.inl gc_most))), (ga_placeLow, .inl (cJ, 960, .inr (.inl gc_placeLow))), (ga_placeHigh, .inl (cJ, 960, .inr (.inl gc_placeHigh)))]) [0, 1, 2, 3] (by decide) rfl
    exact W.zret (v := v_3) (ty := .boolean) hx hb hr (nar01 (kz_iv ⟨by omega, by omega⟩)) (fun t ht hW => ⟨⟨v_3, (), rfl, (show kZ v_3 from (kz_iv ⟨by omega, by omega⟩)), by rw [ht]; exact hP9, va_K.moved hW.alike hK, hD9⟩, hS.F ht⟩) hS.2.2 dX5_isSorted_59
  · -- no
    have k_6 : v_4.toInt < v_5.toInt := lc_nge c_6
    refine lv_iload_n hx hb dX5_isSorted_16 rfl (lv_at hl 1 rfl) ?_
    refine lv_aload_n hx hb dX5_isSorted_17 rfl (lv_at hl 2 rfl) ?_
    refine va_get (D := (dC, dI)) (ci := 5) (v := .ref ga_placeHigh) (C := RX5) (T := TX5) (N := 36) hx hb hts inv_X5_isSorted_X5 hown hK hP 0 rfl rfl 18 (by decide) (hts (.fieldLink RX5 63 "ArraySegmentsModel" "placeHigh" "[J") (List.mem_of_getElem? (i := 2) rfl)) (fun _ h9 => h9) rfl dX5_isSorted_18 ?_
    refine lv_bipush (v := 12) hx hb dX5_isSorted_21 (by decide) ?_
    refine lv_iload_n hx hb dX5_isSorted_23 rfl (lv_at hl 3 rfl) ?_
    refine sf_imul (w := 12) (z := ia.toInt) hx hb dX5_isSorted_24 (by decide) rfl ⟨by omega, by omega⟩ (fun v_7 q_v_7 => ?_)
    refine lv_iload_n hx hb dX5_isSorted_25 rfl (lv_at hl 0 rfl) ?_
    refine sf_iadd hx hb dX5_isSorted_26 ⟨by omega, by omega⟩ (fun v_8 q_v_8 => ?_)
    refine lv_iconst (v := 1) hx hb dX5_isSorted_27 (by decide) ?_
    refine sf_isub hx hb dX5_isSorted_28 ⟨by omega, by omega⟩ (fun v_9 q_v_9 => ?_)
    refine sf_lald lT hx hb hK hP 3 1 rfl rfl (fun _ => trivial) (vp_in_iff.mpr ⟨by omega, by omega⟩) dX5_isSorted_29 (fun v_10 q_v_10 e_v_10 => ?_)
    refine lv_aload_n hx hb dX5_isSorted_30 rfl (lv_at hl 2 rfl) ?_
    refine va_get (D := (dC, dI)) (ci := 5) (v := .ref ga_placeLow) (C := RX5) (T := TX5) (N := 36) hx hb hts inv_X5_isSorted_X5 hown hK hP 0 rfl rfl 17 (by decide) (hts (.fieldLink RX5 60 "ArraySegmentsModel" "placeLow" "[J") (List.mem_of_getElem? (i := 3) rfl)) (fun _ h9 => h9) rfl dX5_isSorted_31 ?_
    refine lv_bipush (v := 12) hx hb dX5_isSorted_34 (by decide) ?_
    refine lv_iload_n hx hb dX5_isSorted_36 rfl (lv_at hl 3 rfl) ?_
    refine sf_imul (w := 12) (z := ia.toInt) hx hb dX5_isSorted_37 (by decide) rfl ⟨by omega, by omega⟩ (fun v_11 q_v_11 => ?_)
    refine lv_iload_n hx hb dX5_isSorted_38 rfl (lv_at hl 0 rfl) ?_
    refine sf_iadd hx hb dX5_isSorted_39 ⟨by omega, by omega⟩ (fun v_12 q_v_12 => ?_)
    refine sf_lald lT hx hb hK hP 2 1 rfl rfl (fun _ => trivial) (vp_in_iff.mpr ⟨by omega, by omega⟩) dX5_isSorted_40 (fun v_13 q_v_13 e_v_13 => ?_)
    refine W.lcmp hx hb dX5_isSorted_41 ?_
    refine my_join (S := Int32) (fun u => (kZ (u))) (fun u => [(gh, .inr (5, [.int g_acts, g_kind, g_na, g_nb, g_nc, g_nd, g_ne, g_dropped, g_live, g_low, g_high, g_sites, g_nulls, g_there, g_lanes, g_least, .ref ga_most, .ref ga_placeLow, .ref ga_placeHigh, g_reached, g_mayThrow, .int g_status, .int g_hasRun, .int g_threw, .int g_whereThrown, g_value, g_means, g_laneOf, g_sizeOf, g_cells, g_copied, .long g_state, .long g_joinedLow, .long g_joinedHigh, g_keptLow, g_keptHigh])), (ga_most, .inl (cJ, 80, .inr (.inl gc_most))), (ga_placeLow, .inl (cJ, 960, .inr (.inl gc_placeLow))), (ga_placeHigh, .inl (cJ, 960, .inr (.inl gc_placeHigh)))]) (fun u => [(3, .int v_2), (2, .int v_3), (0, .ref gh), (1, .int ia)]) (fun u => [.int (u), .int v_3]) (nL := 4) (H0 := s.heap) (A := A) (D := (dC, dI)) (cl := vwCl) 50 (fun u_15 hu_15 H_15 locs_15 ls1 hP1 hD1 hS1 hl1 => ?_) (fun jn_15 => ?_)
    · -- behind 50
      obtain ⟨v_16, rfl⟩ : ∃ z, z = u_15 := ⟨_, rfl⟩
      replace hu_15 : (kZ v_16) := hu_15
      have q_v_16 := hu_15
      replace hP : va_P (dC, dI) vwCl [(gh, .inr (5, [.int g_acts, g_kind, g_na, g_nb, g_nc, g_nd, g_ne, g_dropped, g_live, g_low, g_high, g_sites, g_nulls, g_there, g_lanes, g_least, .ref ga_most, .ref ga_placeLow, .ref ga_placeHigh, g_reached, g_mayThrow, .int g_status, .int g_hasRun, .int g_threw, .int g_whereThrown, g_value, g_means, g_laneOf, g_sizeOf, g_cells, g_copied, .long g_state, .long g_joinedLow, .long g_joinedHigh, g_keptLow, g_keptHigh])), (ga_most, .inl (cJ, 80, .inr (.inl gc_most))), (ga_placeLow, .inl (cJ, 960, .inr (.inl gc_placeLow))), (ga_placeHigh, .inl (cJ, 960, .inr (.inl gc_placeHigh)))] H_15 := hP1
      replace hD : va_D A [(gh, .inr (5, [.int g_acts, g_kind, g_na, g_nb, g_nc, g_nd, g_ne, g_dropped, g_live, g_low, g_high, g_sites, g_nulls, g_there, g_lanes, g_least, .ref ga_most, .ref ga_placeLow, .ref ga_placeHigh, g_reached, g_mayThrow, .int g_status, .int g_hasRun, .int g_threw, .int g_whereThrown, g_value, g_means, g_laneOf, g_sizeOf, g_cells, g_copied, .long g_state, .long g_joinedLow, .long g_joinedHigh, g_keptLow, g_keptHigh])), (ga_most, .inl (cJ, 80, .inr (.inl gc_most))), (ga_placeLow, .inl (cJ, 960, .inr (.inl gc_placeLow))), (ga_placeHigh, .inl (cJ, 960, .inr (.inl gc_placeHigh)))] := hD1
      replace hS := hS1
      clear hP1 hD1 hS1
      replace hl : lv_has ls1 4 [(3, .int v_2), (2, .int v_3), (0, .ref gh), (1, .int ia)] := hl1
      clear hl1
      refine lv_iand hx hb dX5_isSorted_50 ?_
      refine lv_topi (fun v_17 e_v_17 => ?_)
      have q_v_17 : kZ v_17 := by rw [e_v_17]; exact and01 (kz_iv ⟨by omega, by omega⟩) q_v_16
      have qi_v_17 := kz_to q_v_17
      refine lv_istore_n (lv' := [(2, .int v_17), (3, .int v_2), (0, .ref gh), (1, .int ia)]) hx hb dX5_isSorted_51 rfl hl (by decide) rfl (fun ls1 hl1 => ?_)
      replace hl := hl1; clear hl1
      refine sf_iinc hx hb dX5_isSorted_52 hl (k := 1) (x := v_2) (w := 1) rfl (by decide) (by decide) ⟨by omega, by omega⟩ (fun v_18 q_v_18 ls1 hl1 => ?_)
      replace hl : lv_has ls1 4 [(3, .int v_18), (2, .int v_17), (0, .ref gh), (1, .int ia)] := hl1
      clear hl1
      refine lv_goto (tgt := 4) hx hb dX5_isSorted_55 (by decide) ?_
      exact ih_1 (v_18, v_17) (show (1 ≤ v_18.toInt ∧ v_18.toInt ≤ 12) ∧ (0 ≤ v_17.toInt ∧ v_17.toInt ≤ 1) from ⟨⟨by omega, by omega⟩, (kz_to q_v_17)⟩) (by show (12 - v_18.toInt).toNat < (12 - v_2.toInt).toNat; omega) _ _ _ (hP.sub [0, 1, 2, 3] rfl) (hD.sub [0, 1, 2, 3] (by decide) rfl) hS (lv_sub hl [0, 1, 2, 3] rfl)
    · -- ahead of 50
      refine lv_if_gt (tgt := 49) hx hb dX5_isSorted_42 (by decide) (fun c_19 => ?_) (fun c_19 => ?_)
      · -- yes
        have k_19 : v_13.toInt < v_10.toInt := lc_gt c_19
        refine lv_iconst (v := 0) hx hb dX5_isSorted_49 (by decide) ?_
        exact jn_15 (0 : Int32) (show (kZ (0 : Int32)) from (by decide)) _ _ _ (hP.sub [0, 1, 2, 3] rfl) (hD.sub [0, 1, 2, 3] (by decide) rfl) hS (lv_sub hl [0, 1, 2, 3] rfl)
      · -- no
        have k_19 : v_10.toInt ≤ v_13.toInt := lc_ngt c_19
        refine lv_iconst (v := 1) hx hb dX5_isSorted_45 (by decide) ?_
        refine lv_goto (tgt := 50) hx hb dX5_isSorted_46 (by decide) ?_
        exact jn_15 (1 : Int32) (show (kZ (1 : Int32)) from (by decide)) _ _ _ (hP.sub [0, 1, 2, 3] rfl) (hD.sub [0, 1, 2, 3] (by decide) rfl) hS (lv_sub hl [0, 1, 2, 3] rfl)

def v_X5_draw : List Cond := .code yX5_draw cX5_draw 3 (some .long) :: ([.fieldLink RX5 278 "ArraySegmentsModel" "state" "J", .constantLong RX5 281 (-7046029254386353131), .constantLong RX5 283 (-4658895280553007687), .constantLong RX5 285 (-7723592293110705685)] ++ (wsX50))
theorem inv_X5_draw_X5 : ∀ w ∈ wsX50, w ∈ v_X5_draw := fun _ h => List.mem_cons_of_mem _ (List.mem_append_right _ (h))
set_option maxRecDepth 20000 in
theorem gd_X5_draw : gdL v_X5_draw := gdC (gdW (by decide +kernel)) (gdA (gdW (by decide +kernel)) gd_wsX50)
abbrev sw_X5_draw (cI cJ cZ : ClassId) (gh : Nat) (g_acts : Int32) (g_kind : Value) (g_na : Value) (g_nb : Value) (g_nc : Value) (g_nd : Value) (g_ne : Value) (g_dropped : Value) (g_live : Value) (g_low : Value) (g_high : Value) (g_sites : Value) (g_nulls : Value) (g_there : Value) (g_lanes : Value) (g_least : Value) (g_most : Value) (g_placeLow : Value) (g_placeHigh : Value) (g_reached : Value) (g_mayThrow : Value) (g_status : Int32) (g_hasRun : Int32) (g_threw : Int32) (g_whereThrown : Int32) (g_value : Value) (g_means : Value) (g_laneOf : Value) (g_sizeOf : Value) (g_cells : Value) (g_copied : Value) (g_state : Int64) (g_joinedLow : Int64) (g_joinedHigh : Int64) (g_keptLow : Value) (g_keptHigh : Value) : va_W := [(gh, .inr (5, [.int g_acts, g_kind, g_na, g_nb, g_nc, g_nd, g_ne, g_dropped, g_live, g_low, g_high, g_sites, g_nulls, g_there, g_lanes, g_least, g_most, g_placeLow, g_placeHigh, g_reached, g_mayThrow, .int g_status, .int g_hasRun, .int g_threw, .int g_whereThrown, g_value, g_means, g_laneOf, g_sizeOf, g_cells, g_copied, .long g_state, .long g_joinedLow, .long g_joinedHigh, g_keptLow, g_keptHigh]))]
set_option maxHeartbeats 8000000 in
set_option maxRecDepth 100000 in
theorem s_X5_draw (l : Launch) (dC : Nat → ClassId) (dI : Nat → Nat → Nat) (cI cJ cZ : ClassId) (gh : Nat) (g_acts : Int32) (g_kind : Value) (g_na : Value) (g_nb : Value) (g_nc : Value) (g_nd : Value) (g_ne : Value) (g_dropped : Value) (g_live : Value) (g_low : Value) (g_high : Value) (g_sites : Value) (g_nulls : Value) (g_there : Value) (g_lanes : Value) (g_least : Value) (g_most : Value) (g_placeLow : Value) (g_placeHigh : Value) (g_reached : Value) (g_mayThrow : Value) (g_status : Int32) (g_hasRun : Int32) (g_threw : Int32) (g_whereThrown : Int32) (g_value : Value) (g_means : Value) (g_laneOf : Value) (g_sizeOf : Value) (g_cells : Value) (g_copied : Value) (g_state : Int64) (g_joinedLow : Int64) (g_joinedHigh : Int64) (g_keptLow : Value) (g_keptHigh : Value) (sz : Nat) (q_g_hasRun : kZ g_hasRun) : Met l yX5_draw v_X5_draw ({ frames := 0, cells := 0, slots := 0, locals := 0 }) (va_Pc [.ref gh] (cPre dC dI cI cJ cZ sz (sw_X5_draw cI cJ cZ gh g_acts g_kind g_na g_nb g_nc g_nd g_ne g_dropped g_live g_low g_high g_sites g_nulls g_there g_lanes g_least g_most g_placeLow g_placeHigh g_reached g_mayThrow g_status g_hasRun g_threw g_whereThrown g_value g_means g_laneOf g_sizeOf g_cells g_copied g_state g_joinedLow g_joinedHigh g_keptLow g_keptHigh))) (va_Ql (fun (r : Int64) (u : Int64) => True) (fun (u : Int64) => cPost dC dI cI cJ cZ (va_A (sw_X5_draw cI cJ cZ gh g_acts g_kind g_na g_nb g_nc g_nd g_ne g_dropped g_live g_low g_high g_sites g_nulls g_there g_lanes g_least g_most g_placeLow g_placeHigh g_reached g_mayThrow g_status g_hasRun g_threw g_whereThrown g_value g_means g_laneOf g_sizeOf g_cells g_copied g_state g_joinedLow g_joinedHigh g_keptLow g_keptHigh) sz) [(gh, .inr (5, [.int g_acts, g_kind, g_na, g_nb, g_nc, g_nd, g_ne, g_dropped, g_live, g_low, g_high, g_sites, g_nulls, g_there, g_lanes, g_least, g_most, g_placeLow, g_placeHigh, g_reached, g_mayThrow, .int g_status, .int g_hasRun, .int g_threw, .int g_whereThrown, g_value, g_means, g_laneOf, g_sizeOf, g_cells, g_copied, .long (u), .long g_joinedLow, .long g_joinedHigh, g_keptLow, g_keptHigh]))]) (va_A (sw_X5_draw cI cJ cZ gh g_acts g_kind g_na g_nb g_nc g_nd g_ne g_dropped g_live g_low g_high g_sites g_nulls g_there g_lanes g_least g_most g_placeLow g_placeHigh g_reached g_mayThrow g_status g_hasRun g_threw g_whereThrown g_value g_means g_laneOf g_sizeOf g_cells g_copied g_state g_joinedLow g_joinedHigh g_keptLow g_keptHigh) sz)) 0 0 (va_A (sw_X5_draw cI cJ cZ gh g_acts g_kind g_na g_nb g_nc g_nd g_ne g_dropped g_live g_low g_high g_sites g_nulls g_there g_lanes g_least g_most g_placeLow g_placeHigh g_reached g_mayThrow g_status g_hasRun g_threw g_whereThrown g_value g_means g_laneOf g_sizeOf g_cells g_copied g_state g_joinedLow g_joinedHigh g_keptLow g_keptHigh) sz) := by
  refine Met.ofW (cc := cX5_draw) (maxL := 3) (ret := (some .long)) (by decide) rfl ?_
  intro p e s m args below meth c s₁ B hml hv
  obtain ⟨rfl, hsz, hP, hK, hD0, hN⟩ := hv
  have hx := B.exec
  have hb := B.bytes
  have hr := B.returns
  have hts := atoms_spec (ws := v_X5_draw) B.pre
  have hown : s.vm.findClass RX5 = some m.cls := findClass_of_methodNamed B.named
  have hlocks := B.notSynchronized
  subst hsz
  have hD := hD0.self (sz := s.heap.size)
  generalize hAe : va_A (sw_X5_draw cI cJ cZ gh g_acts g_kind g_na g_nb g_nc g_nd g_ne g_dropped g_live g_low g_high g_sites g_nulls g_there g_lanes g_least g_most g_placeLow g_placeHigh g_reached g_mayThrow g_status g_hasRun g_threw g_whereThrown g_value g_means g_laneOf g_sizeOf g_cells g_copied g_state g_joinedLow g_joinedHigh g_keptLow g_keptHigh) s.heap.size = A at hD ⊢
  have hA : ∀ q : Nat, s.heap.size ≤ q → A q := fun q h => by rw [← hAe]; exact Or.inr h
  clear hAe hD0
  have hS : va_S A s.heap s.heap [] := va_S.rf
  replace hP : va_P (dC, dI) vwCl [(gh, .inr (5, [.int g_acts, g_kind, g_na, g_nb, g_nc, g_nd, g_ne, g_dropped, g_live, g_low, g_high, g_sites, g_nulls, g_there, g_lanes, g_least, g_most, g_placeLow, g_placeHigh, g_reached, g_mayThrow, .int g_status, .int g_hasRun, .int g_threw, .int g_whereThrown, g_value, g_means, g_laneOf, g_sizeOf, g_cells, g_copied, .long g_state, .long g_joinedLow, .long g_joinedHigh, g_keptLow, g_keptHigh]))] s.heap := hP
  replace hD : va_D A [(gh, .inr (5, [.int g_acts, g_kind, g_na, g_nb, g_nc, g_nd, g_ne, g_dropped, g_live, g_low, g_high, g_sites, g_nulls, g_there, g_lanes, g_least, g_most, g_placeLow, g_placeHigh, g_reached, g_mayThrow, .int g_status, .int g_hasRun, .int g_threw, .int g_whereThrown, g_value, g_means, g_laneOf, g_sizeOf, g_cells, g_copied, .long g_state, .long g_joinedLow, .long g_joinedHigh, g_keptLow, g_keptHigh]))] := hD
  have hl := lv_entry ([.ref gh]) (n := 3) (Nat.le_of_ble_eq_true rfl)
  rw [lg_entry_eq]
  generalize (lg_sl ([.ref gh]) ++ List.replicate (3 - (lg_sl ([.ref gh])).length) Slot.unset).toArray = ls at hl ⊢
  replace hl : lv_has ls 3 [(0, .ref gh)] := hl
  have z_0 : (0 : Int32).toInt = 0 := by decide
  have z_1 : (1 : Int32).toInt = 1 := by decide
  refine lv_aload_n hx hb dX5_draw_0 rfl (lv_at hl 0 rfl) ?_
  refine lv_dup hx hb dX5_draw_1 rfl ?_
  refine va_get (D := (dC, dI)) (ci := 5) (v := .long g_state) (C := RX5) (T := TX5) (N := 36) hx hb hts inv_X5_draw_X5 hown hK hP 0 rfl rfl 31 (by decide) (hts (.fieldLink RX5 278 "ArraySegmentsModel" "state" "J") (List.mem_of_getElem? (i := 1) rfl)) (fun _ h9 => h9) rfl dX5_draw_2 ?_
  refine lv_ldc2 hx hb hown (hts (.constantLong RX5 281 (-7046029254386353131)) (List.mem_of_getElem? (i := 2) rfl)) dX5_draw_5 ?_
  refine lv_ladd hx hb dX5_draw_8 ?_
  refine lv_topl (fun v_1 e_v_1 => ?_)
  refine va_put (D := (dC, dI)) (ci := 5) (v := .long v_1) (ty := .long) (C := RX5) (T := TX5) (N := 36) hx hb hts inv_X5_draw_X5 tyX5 tyX5_ok nmX5 hown hK hP hD hS 0 rfl rfl 31 (by decide) (hts (.fieldLink RX5 278 "ArraySegmentsModel" "state" "J") (List.mem_of_getElem? (i := 1) rfl)) (fun _ h9 => h9) rfl (by decide +kernel) rfl rfl (Nat.le_of_ble_eq_true rfl) dX5_draw_9 (fun H_2 locs_2 hP1 hD1 hS1 => ?_)
  replace hP : va_P (dC, dI) vwCl [(gh, .inr (5, [.int g_acts, g_kind, g_na, g_nb, g_nc, g_nd, g_ne, g_dropped, g_live, g_low, g_high, g_sites, g_nulls, g_there, g_lanes, g_least, g_most, g_placeLow, g_placeHigh, g_reached, g_mayThrow, .int g_status, .int g_hasRun, .int g_threw, .int g_whereThrown, g_value, g_means, g_laneOf, g_sizeOf, g_cells, g_copied, .long v_1, .long g_joinedLow, .long g_joinedHigh, g_keptLow, g_keptHigh]))] H_2 := hP1
  replace hD : va_D A [(gh, .inr (5, [.int g_acts, g_kind, g_na, g_nb, g_nc, g_nd, g_ne, g_dropped, g_live, g_low, g_high, g_sites, g_nulls, g_there, g_lanes, g_least, g_most, g_placeLow, g_placeHigh, g_reached, g_mayThrow, .int g_status, .int g_hasRun, .int g_threw, .int g_whereThrown, g_value, g_means, g_laneOf, g_sizeOf, g_cells, g_copied, .long v_1, .long g_joinedLow, .long g_joinedHigh, g_keptLow, g_keptHigh]))] := hD1
  replace hS := hS1
  clear hP1 hD1 hS1
  refine lv_aload_n hx hb dX5_draw_12 rfl (lv_at hl 0 rfl) ?_
  refine va_get (D := (dC, dI)) (ci := 5) (v := .long v_1) (C := RX5) (T := TX5) (N := 36) hx hb hts inv_X5_draw_X5 hown hK hP 0 rfl rfl 31 (by decide) (hts (.fieldLink RX5 278 "ArraySegmentsModel" "state" "J") (List.mem_of_getElem? (i := 1) rfl)) (fun _ h9 => h9) rfl dX5_draw_13 ?_
  refine lv_lstore_n (lv' := [(1, .long v_1), (0, .ref gh)]) hx hb dX5_draw_16 rfl hl (by decide) rfl (fun ls1 hl1 => ?_)
  replace hl := hl1; clear hl1
  refine lv_lload_n hx hb dX5_draw_17 rfl (lv_at hl 0 rfl) ?_
  refine lv_lload_n hx hb dX5_draw_18 rfl (lv_at hl 0 rfl) ?_
  refine lv_bipush (v := 30) hx hb dX5_draw_19 (by decide) ?_
  refine lv_lushr (v := _) hx hb dX5_draw_21 rfl ?_
  refine lv_topl (fun v_3 _ => ?_)
  refine lv_lxor hx hb dX5_draw_22 ?_
  refine lv_topl (fun v_4 e_v_4 => ?_)
  refine lv_ldc2 hx hb hown (hts (.constantLong RX5 283 (-4658895280553007687)) (List.mem_of_getElem? (i := 3) rfl)) dX5_draw_23 ?_
  refine lv_lmul hx hb dX5_draw_26 ?_
  refine lv_topl (fun v_5 e_v_5 => ?_)
  refine lv_lstore_n (lv' := [(1, .long v_5), (0, .ref gh)]) hx hb dX5_draw_27 rfl hl (by decide) rfl (fun ls1 hl1 => ?_)
  replace hl := hl1; clear hl1
  refine lv_lload_n hx hb dX5_draw_28 rfl (lv_at hl 0 rfl) ?_
  refine lv_lload_n hx hb dX5_draw_29 rfl (lv_at hl 0 rfl) ?_
  refine lv_bipush (v := 27) hx hb dX5_draw_30 (by decide) ?_
  refine lv_lushr (v := _) hx hb dX5_draw_32 rfl ?_
  refine lv_topl (fun v_6 _ => ?_)
  refine lv_lxor hx hb dX5_draw_33 ?_
  refine lv_topl (fun v_7 e_v_7 => ?_)
  refine lv_ldc2 hx hb hown (hts (.constantLong RX5 285 (-7723592293110705685)) (List.mem_of_getElem? (i := 4) rfl)) dX5_draw_34 ?_
  refine lv_lmul hx hb dX5_draw_37 ?_
  refine lv_topl (fun v_8 e_v_8 => ?_)
  refine lv_lstore_n (lv' := [(1, .long v_8), (0, .ref gh)]) hx hb dX5_draw_38 rfl hl (by decide) rfl (fun ls1 hl1 => ?_)
  replace hl := hl1; clear hl1
  refine lv_lload_n hx hb dX5_draw_39 rfl (lv_at hl 0 rfl) ?_
  refine lv_lload_n hx hb dX5_draw_40 rfl (lv_at hl 0 rfl) ?_
  refine lv_bipush (v := 31) hx hb dX5_draw_41 (by decide) ?_
  refine lv_lushr (v := _) hx hb dX5_draw_43 rfl ?_
  refine lv_topl (fun v_9 _ => ?_)
  refine lv_lxor hx hb dX5_draw_44 ?_
  refine lv_topl (fun v_10 e_v_10 => ?_)
  have hP9 := hP.sub (ws' := [(gh, .inr (5, [.int g_acts, g_kind, g_na, g_nb, g_nc, g_nd, g_ne, g_dropped, g_live, g_low, g_high, g_sites, g_nulls, g_there, g_lanes, g_least, g_most, g_placeLow, g_placeHigh, g_reached, g_mayThrow, .int g_status, .int g_hasRun, .int g_threw, .int g_whereThrown, g_value, g_means, g_laneOf, g_sizeOf, g_cells, g_copied, .long v_1, .long g_joinedLow, .long g_joinedHigh, g_keptLow, g_keptHigh]))]) [0] rfl
  have hD9 := hD.sub (ws' := [(gh, .inr (5, [.int g_acts, g_kind, g_na, g_nb, g_nc, g_nd, g_ne, g_dropped, g_live, g_low, g_high, g_sites, g_nulls, g_there, g_lanes, g_least, g_most, g_placeLow, g_placeHigh, g_reached, g_mayThrow, .int g_status, .int g_hasRun, .int g_threw, .int g_whereThrown, g_value, g_means, g_laneOf, g_sizeOf, g_cells, g_copied, .long v_1, .long g_joinedLow, .long g_joinedHigh, g_keptLow, g_keptHigh]))]) [0] (by decide) rfl
  exact W.lret (v := v_10) hx hb hr (fun t ht hW => ⟨⟨v_10, v_1, rfl, trivial, by rw [ht]; exact hP9, va_K.moved hW.alike hK, hD9⟩, hS.F ht⟩) hS.2.2 dX5_draw_45

def v_X5_fail : List Cond := .code yX5_fail cX5_fail 3 none :: ([.fieldLink RX5 103 "ArraySegmentsModel" "threw" "I", .fieldLink RX5 107 "ArraySegmentsModel" "whereThrown" "I"] ++ (wsX50))
theorem inv_X5_fail_X5 : ∀ w ∈ wsX50, w ∈ v_X5_fail := fun _ h => List.mem_cons_of_mem _ (List.mem_append_right _ (h))
set_option maxRecDepth 20000 in
theorem gd_X5_fail : gdL v_X5_fail := gdC (gdW (by decide +kernel)) (gdA (gdW (by decide +kernel)) gd_wsX50)
abbrev sw_X5_fail (cI cJ cZ : ClassId) (gh : Nat) (g_acts : Int32) (g_kind : Value) (g_na : Value) (g_nb : Value) (g_nc : Value) (g_nd : Value) (g_ne : Value) (g_dropped : Value) (g_live : Value) (g_low : Value) (g_high : Value) (g_sites : Value) (g_nulls : Value) (g_there : Value) (g_lanes : Value) (g_least : Value) (g_most : Value) (g_placeLow : Value) (g_placeHigh : Value) (g_reached : Value) (g_mayThrow : Value) (g_status : Int32) (g_hasRun : Int32) (g_threw : Int32) (g_whereThrown : Int32) (g_value : Value) (g_means : Value) (g_laneOf : Value) (g_sizeOf : Value) (g_cells : Value) (g_copied : Value) (g_state : Int64) (g_joinedLow : Int64) (g_joinedHigh : Int64) (g_keptLow : Value) (g_keptHigh : Value) (ia : Int32) (ta : Int32) : va_W := [(gh, .inr (5, [.int g_acts, g_kind, g_na, g_nb, g_nc, g_nd, g_ne, g_dropped, g_live, g_low, g_high, g_sites, g_nulls, g_there, g_lanes, g_least, g_most, g_placeLow, g_placeHigh, g_reached, g_mayThrow, .int g_status, .int g_hasRun, .int g_threw, .int g_whereThrown, g_value, g_means, g_laneOf, g_sizeOf, g_cells, g_copied, .long g_state, .long g_joinedLow, .long g_joinedHigh, g_keptLow, g_keptHigh]))]
set_option maxHeartbeats 8000000 in
set_option maxRecDepth 100000 in
theorem s_X5_fail (l : Launch) (dC : Nat → ClassId) (dI : Nat → Nat → Nat) (cI cJ cZ : ClassId) (gh : Nat) (g_acts : Int32) (g_kind : Value) (g_na : Value) (g_nb : Value) (g_nc : Value) (g_nd : Value) (g_ne : Value) (g_dropped : Value) (g_live : Value) (g_low : Value) (g_high : Value) (g_sites : Value) (g_nulls : Value) (g_there : Value) (g_lanes : Value) (g_least : Value) (g_most : Value) (g_placeLow : Value) (g_placeHigh : Value) (g_reached : Value) (g_mayThrow : Value) (g_status : Int32) (g_hasRun : Int32) (g_threw : Int32) (g_whereThrown : Int32) (g_value : Value) (g_means : Value) (g_laneOf : Value) (g_sizeOf : Value) (g_cells : Value) (g_copied : Value) (g_state : Int64) (g_joinedLow : Int64) (g_joinedHigh : Int64) (g_keptLow : Value) (g_keptHigh : Value) (ia : Int32) (ta : Int32) (sz : Nat) (q_g_hasRun : kZ g_hasRun) : Met l yX5_fail v_X5_fail ({ frames := 0, cells := 0, slots := 0, locals := 0 }) (va_Pc [.ref gh, .int ia, .int ta] (cPre dC dI cI cJ cZ sz (sw_X5_fail cI cJ cZ gh g_acts g_kind g_na g_nb g_nc g_nd g_ne g_dropped g_live g_low g_high g_sites g_nulls g_there g_lanes g_least g_most g_placeLow g_placeHigh g_reached g_mayThrow g_status g_hasRun g_threw g_whereThrown g_value g_means g_laneOf g_sizeOf g_cells g_copied g_state g_joinedLow g_joinedHigh g_keptLow g_keptHigh ia ta))) (va_Qv (fun (u : Int32 × Int32) => ((u.1).toInt = ta.toInt) ∧ ((u.2).toInt = ia.toInt)) (fun (u : Int32 × Int32) => cPost dC dI cI cJ cZ (va_A (sw_X5_fail cI cJ cZ gh g_acts g_kind g_na g_nb g_nc g_nd g_ne g_dropped g_live g_low g_high g_sites g_nulls g_there g_lanes g_least g_most g_placeLow g_placeHigh g_reached g_mayThrow g_status g_hasRun g_threw g_whereThrown g_value g_means g_laneOf g_sizeOf g_cells g_copied g_state g_joinedLow g_joinedHigh g_keptLow g_keptHigh ia ta) sz) [(gh, .inr (5, [.int g_acts, g_kind, g_na, g_nb, g_nc, g_nd, g_ne, g_dropped, g_live, g_low, g_high, g_sites, g_nulls, g_there, g_lanes, g_least, g_most, g_placeLow, g_placeHigh, g_reached, g_mayThrow, .int g_status, .int g_hasRun, .int (u.1), .int (u.2), g_value, g_means, g_laneOf, g_sizeOf, g_cells, g_copied, .long g_state, .long g_joinedLow, .long g_joinedHigh, g_keptLow, g_keptHigh]))]) (va_A (sw_X5_fail cI cJ cZ gh g_acts g_kind g_na g_nb g_nc g_nd g_ne g_dropped g_live g_low g_high g_sites g_nulls g_there g_lanes g_least g_most g_placeLow g_placeHigh g_reached g_mayThrow g_status g_hasRun g_threw g_whereThrown g_value g_means g_laneOf g_sizeOf g_cells g_copied g_state g_joinedLow g_joinedHigh g_keptLow g_keptHigh ia ta) sz)) 0 0 (va_A (sw_X5_fail cI cJ cZ gh g_acts g_kind g_na g_nb g_nc g_nd g_ne g_dropped g_live g_low g_high g_sites g_nulls g_there g_lanes g_least g_most g_placeLow g_placeHigh g_reached g_mayThrow g_status g_hasRun g_threw g_whereThrown g_value g_means g_laneOf g_sizeOf g_cells g_copied g_state g_joinedLow g_joinedHigh g_keptLow g_keptHigh ia ta) sz) := by
  refine Met.ofW (cc := cX5_fail) (maxL := 3) (ret := none) (by decide) rfl ?_
  intro p e s m args below meth c s₁ B hml hv
  obtain ⟨rfl, hsz, hP, hK, hD0, hN⟩ := hv
  have hx := B.exec
  have hb := B.bytes
  have hr := B.returns
  have hts := atoms_spec (ws := v_X5_fail) B.pre
  have hown : s.vm.findClass RX5 = some m.cls := findClass_of_methodNamed B.named
  have hlocks := B.notSynchronized
  subst hsz
  have hD := hD0.self (sz := s.heap.size)
  generalize hAe : va_A (sw_X5_fail cI cJ cZ gh g_acts g_kind g_na g_nb g_nc g_nd g_ne g_dropped g_live g_low g_high g_sites g_nulls g_there g_lanes g_least g_most g_placeLow g_placeHigh g_reached g_mayThrow g_status g_hasRun g_threw g_whereThrown g_value g_means g_laneOf g_sizeOf g_cells g_copied g_state g_joinedLow g_joinedHigh g_keptLow g_keptHigh ia ta) s.heap.size = A at hD ⊢
  have hA : ∀ q : Nat, s.heap.size ≤ q → A q := fun q h => by rw [← hAe]; exact Or.inr h
  clear hAe hD0
  have hS : va_S A s.heap s.heap [] := va_S.rf
  replace hP : va_P (dC, dI) vwCl [(gh, .inr (5, [.int g_acts, g_kind, g_na, g_nb, g_nc, g_nd, g_ne, g_dropped, g_live, g_low, g_high, g_sites, g_nulls, g_there, g_lanes, g_least, g_most, g_placeLow, g_placeHigh, g_reached, g_mayThrow, .int g_status, .int g_hasRun, .int g_threw, .int g_whereThrown, g_value, g_means, g_laneOf, g_sizeOf, g_cells, g_copied, .long g_state, .long g_joinedLow, .long g_joinedHigh, g_keptLow, g_keptHigh]))] s.heap := hP
  replace hD : va_D A [(gh, .inr (5, [.int g_acts, g_kind, g_na, g_nb, g_nc, g_nd, g_ne, g_dropped, g_live, g_low, g_high, g_sites, g_nulls, g_there, g_lanes, g_least, g_most, g_placeLow, g_placeHigh, g_reached, g_mayThrow, .int g_status, .int g_hasRun, .int g_threw, .int g_whereThrown, g_value, g_means, g_laneOf, g_sizeOf, g_cells, g_copied, .long g_state, .long g_joinedLow, .long g_joinedHigh, g_keptLow, g_keptHigh]))] := hD
  have hl := lv_entry ([.ref gh, .int ia, .int ta]) (n := 3) (Nat.le_of_ble_eq_true rfl)
  rw [lg_entry_eq]
  generalize (lg_sl ([.ref gh, .int ia, .int ta]) ++ List.replicate (3 - (lg_sl ([.ref gh, .int ia, .int ta])).length) Slot.unset).toArray = ls at hl ⊢
  replace hl : lv_has ls 3 [(0, .ref gh), (1, .int ia), (2, .int ta)] := hl
  have z_0 : (0 : Int32).toInt = 0 := by decide
  have z_1 : (1 : Int32).toInt = 1 := by decide
  refine lv_aload_n hx hb dX5_fail_0 rfl (lv_at hl 0 rfl) ?_
  refine lv_iload_n hx hb dX5_fail_1 rfl (lv_at hl 2 rfl) ?_
  refine va_put (D := (dC, dI)) (ci := 5) (v := .int ta) (ty := .int) (C := RX5) (T := TX5) (N := 36) hx hb hts inv_X5_fail_X5 tyX5 tyX5_ok nmX5 hown hK hP hD hS 0 rfl rfl 23 (by decide) (hts (.fieldLink RX5 103 "ArraySegmentsModel" "threw" "I") (List.mem_of_getElem? (i := 1) rfl)) (fun _ h9 => h9) rfl (by decide +kernel) rfl rfl (Nat.le_of_ble_eq_true rfl) dX5_fail_2 (fun H_1 locs_1 hP1 hD1 hS1 => ?_)
  replace hP : va_P (dC, dI) vwCl [(gh, .inr (5, [.int g_acts, g_kind, g_na, g_nb, g_nc, g_nd, g_ne, g_dropped, g_live, g_low, g_high, g_sites, g_nulls, g_there, g_lanes, g_least, g_most, g_placeLow, g_placeHigh, g_reached, g_mayThrow, .int g_status, .int g_hasRun, .int ta, .int g_whereThrown, g_value, g_means, g_laneOf, g_sizeOf, g_cells, g_copied, .long g_state, .long g_joinedLow, .long g_joinedHigh, g_keptLow, g_keptHigh]))] H_1 := hP1
  replace hD : va_D A [(gh, .inr (5, [.int g_acts, g_kind, g_na, g_nb, g_nc, g_nd, g_ne, g_dropped, g_live, g_low, g_high, g_sites, g_nulls, g_there, g_lanes, g_least, g_most, g_placeLow, g_placeHigh, g_reached, g_mayThrow, .int g_status, .int g_hasRun, .int ta, .int g_whereThrown, g_value, g_means, g_laneOf, g_sizeOf, g_cells, g_copied, .long g_state, .long g_joinedLow, .long g_joinedHigh, g_keptLow, g_keptHigh]))] := hD1
  replace hS := hS1
  clear hP1 hD1 hS1
  refine lv_aload_n hx hb dX5_fail_5 rfl (lv_at hl 0 rfl) ?_
  refine lv_iload_n hx hb dX5_fail_6 rfl (lv_at hl 1 rfl) ?_
  refine va_put (D := (dC, dI)) (ci := 5) (v := .int ia) (ty := .int) (C := RX5) (T := TX5) (N := 36) hx hb hts inv_X5_fail_X5 tyX5 tyX5_ok nmX5 hown hK hP hD hS 0 rfl rfl 24 (by decide) (hts (.fieldLink RX5 107 "ArraySegmentsModel" "whereThrown" "I") (List.mem_of_getElem? (i := 2) rfl)) (fun _ h9 => h9) rfl (by decide +kernel) rfl rfl (Nat.le_of_ble_eq_true rfl) dX5_fail_7 (fun H_2 locs_2 hP1 hD1 hS1 => ?_)
  replace hP : va_P (dC, dI) vwCl [(gh, .inr (5, [.int g_acts, g_kind, g_na, g_nb, g_nc, g_nd, g_ne, g_dropped, g_live, g_low, g_high, g_sites, g_nulls, g_there, g_lanes, g_least, g_most, g_placeLow, g_placeHigh, g_reached, g_mayThrow, .int g_status, .int g_hasRun, .int ta, .int ia, g_value, g_means, g_laneOf, g_sizeOf, g_cells, g_copied, .long g_state, .long g_joinedLow, .long g_joinedHigh, g_keptLow, g_keptHigh]))] H_2 := hP1
  replace hD : va_D A [(gh, .inr (5, [.int g_acts, g_kind, g_na, g_nb, g_nc, g_nd, g_ne, g_dropped, g_live, g_low, g_high, g_sites, g_nulls, g_there, g_lanes, g_least, g_most, g_placeLow, g_placeHigh, g_reached, g_mayThrow, .int g_status, .int g_hasRun, .int ta, .int ia, g_value, g_means, g_laneOf, g_sizeOf, g_cells, g_copied, .long g_state, .long g_joinedLow, .long g_joinedHigh, g_keptLow, g_keptHigh]))] := hD1
  replace hS := hS1
  clear hP1 hD1 hS1
  have hP9 := hP.sub (ws' := [(gh, .inr (5, [.int g_acts, g_kind, g_na, g_nb, g_nc, g_nd, g_ne, g_dropped, g_live, g_low, g_high, g_sites, g_nulls, g_there, g_lanes, g_least, g_most, g_placeLow, g_placeHigh, g_reached, g_mayThrow, .int g_status, .int g_hasRun, .int ta, .int ia, g_value, g_means, g_laneOf, g_sizeOf, g_cells, g_copied, .long g_state, .long g_joinedLow, .long g_joinedHigh, g_keptLow, g_keptHigh]))]) [0] rfl
  have hD9 := hD.sub (ws' := [(gh, .inr (5, [.int g_acts, g_kind, g_na, g_nb, g_nc, g_nd, g_ne, g_dropped, g_live, g_low, g_high, g_sites, g_nulls, g_there, g_lanes, g_least, g_most, g_placeLow, g_placeHigh, g_reached, g_mayThrow, .int g_status, .int g_hasRun, .int ta, .int ia, g_value, g_means, g_laneOf, g_sizeOf, g_cells, g_copied, .long g_state, .long g_joinedLow, .long g_joinedHigh, g_keptLow, g_keptHigh]))]) [0] (by decide) rfl
  exact W.vret hx hb hr (fun t ht hW => ⟨⟨(ta, ia), rfl, ⟨(show ta.toInt = ta.toInt from rfl), (show ia.toInt = ia.toInt from rfl)⟩, by rw [ht]; exact hP9, va_K.moved hW.alike hK, hD9⟩, hS.F ht⟩) hS.2.2 dX5_fail_10

def v_X5_isPlace : List Cond := .code yX5_isPlace cX5_isPlace 7 (some .boolean) :: ([.fieldLink RX5 75 "ArraySegmentsModel" "means" "[I", .fieldLink RX5 78 "ArraySegmentsModel" "laneOf" "[I", .methodLink RX5 288 yX5_fail, .instanceMethod yX5_fail, .selects RX5 yX5_fail yX5_fail, .initialized RX5, .fieldLink RX5 81 "ArraySegmentsModel" "sizeOf" "[I"] ++ (wsX50 ++ (v_X5_fail)))
theorem inv_X5_isPlace_X5 : ∀ w ∈ wsX50, w ∈ v_X5_isPlace := fun _ h => List.mem_cons_of_mem _ (List.mem_append_right _ (List.mem_append_left _ h))
theorem im_X5_isPlace_X5_fail : ∀ w ∈ v_X5_fail, w ∈ v_X5_isPlace := fun _ h => List.mem_cons_of_mem _ (List.mem_append_right _ (List.mem_append_right _ (h)))
set_option maxRecDepth 20000 in
theorem gd_X5_isPlace : gdL v_X5_isPlace := gdC (gdW (by decide +kernel)) (gdA (gdW (by decide +kernel)) (gdA gd_wsX50 gd_X5_fail))
set_option maxRecDepth 20000 in
theorem h_X5_isPlace_X5_fail_288 : GoodIn v_X5_isPlace (wsV RX5 288 RX5 yX5_fail v_X5_fail) := gdI [3, 4, 5, 6] rfl (by decide +kernel) (im_X5_isPlace_X5_fail) gd_X5_fail
abbrev sw_X5_isPlace (cI cJ cZ : ClassId) (gh : Nat) (g_acts : Int32) (g_kind : Value) (g_na : Value) (g_nb : Value) (g_nc : Value) (g_nd : Value) (g_ne : Value) (g_dropped : Value) (g_live : Value) (g_low : Value) (g_high : Value) (g_sites : Value) (g_nulls : Value) (g_there : Value) (g_lanes : Value) (g_least : Value) (g_most : Value) (g_placeLow : Value) (g_placeHigh : Value) (g_reached : Value) (g_mayThrow : Value) (g_status : Int32) (g_hasRun : Int32) (g_threw : Int32) (g_whereThrown : Int32) (g_value : Value) (ga_means : Nat) (ga_laneOf : Nat) (ga_sizeOf : Nat) (g_cells : Value) (g_copied : Value) (g_state : Int64) (g_joinedLow : Int64) (g_joinedHigh : Int64) (g_keptLow : Value) (g_keptHigh : Value) (gc_means : Nat → Int32) (gc_laneOf : Nat → Int32) (gc_sizeOf : Nat → Int32) (ia : Int32) (ra : Int32) (la : Int32) (pa : Int32) : va_W := [(gh, .inr (5, [.int g_acts, g_kind, g_na, g_nb, g_nc, g_nd, g_ne, g_dropped, g_live, g_low, g_high, g_sites, g_nulls, g_there, g_lanes, g_least, g_most, g_placeLow, g_placeHigh, g_reached, g_mayThrow, .int g_status, .int g_hasRun, .int g_threw, .int g_whereThrown, g_value, .ref ga_means, .ref ga_laneOf, .ref ga_sizeOf, g_cells, g_copied, .long g_state, .long g_joinedLow, .long g_joinedHigh, g_keptLow, g_keptHigh])), (ga_means, .inl (cI, 6, .inl gc_means)), (ga_laneOf, .inl (cI, 40, .inl gc_laneOf)), (ga_sizeOf, .inl (cI, 40, .inl gc_sizeOf))]
set_option maxHeartbeats 8000000 in
set_option maxRecDepth 100000 in
theorem s_X5_isPlace (l : Launch) (dC : Nat → ClassId) (dI : Nat → Nat → Nat) (cI cJ cZ : ClassId) (gh : Nat) (g_acts : Int32) (g_kind : Value) (g_na : Value) (g_nb : Value) (g_nc : Value) (g_nd : Value) (g_ne : Value) (g_dropped : Value) (g_live : Value) (g_low : Value) (g_high : Value) (g_sites : Value) (g_nulls : Value) (g_there : Value) (g_lanes : Value) (g_least : Value) (g_most : Value) (g_placeLow : Value) (g_placeHigh : Value) (g_reached : Value) (g_mayThrow : Value) (g_status : Int32) (g_hasRun : Int32) (g_threw : Int32) (g_whereThrown : Int32) (g_value : Value) (ga_means : Nat) (ga_laneOf : Nat) (ga_sizeOf : Nat) (g_cells : Value) (g_copied : Value) (g_state : Int64) (g_joinedLow : Int64) (g_joinedHigh : Int64) (g_keptLow : Value) (g_keptHigh : Value) (gc_means : Nat → Int32) (gc_laneOf : Nat → Int32) (gc_sizeOf : Nat → Int32) (ia : Int32) (ra : Int32) (la : Int32) (pa : Int32) (sz : Nat) (q_g_hasRun : kZ g_hasRun) (h_gc_means : ∀ j : Nat, kSITE (gc_means j)) (h_gc_sizeOf : ∀ j : Nat, kR012 (gc_sizeOf j)) (hy_ra : V6 ra) : Met l yX5_isPlace v_X5_isPlace ({ frames := 1, cells := 0, slots := 0, locals := 22 }) (va_Pc [.ref gh, .int ia, .int ra, .int la, .int pa] (cPre dC dI cI cJ cZ sz (sw_X5_isPlace cI cJ cZ gh g_acts g_kind g_na g_nb g_nc g_nd g_ne g_dropped g_live g_low g_high g_sites g_nulls g_there g_lanes g_least g_most g_placeLow g_placeHigh g_reached g_mayThrow g_status g_hasRun g_threw g_whereThrown g_value ga_means ga_laneOf ga_sizeOf g_cells g_copied g_state g_joinedLow g_joinedHigh g_keptLow g_keptHigh gc_means gc_laneOf gc_sizeOf ia ra la pa))) (va_Qi (fun (r : Int32) (u : Int32 × Int32) => (kZ r) ∧ ((¬ r.toInt = 0 ∧ (u.1).toInt = g_threw.toInt ∧ (u.2).toInt = g_whereThrown.toInt ∧ 0 ≤ (gc_means (ra).toNatClampNeg).toInt ∧ 0 ≤ pa.toInt ∧ pa.toInt ≤ 11) ∨ (r.toInt = 0 ∧ 1 ≤ (u.1).toInt ∧ (u.2).toInt = ia.toInt))) (fun (u : Int32 × Int32) => cPost dC dI cI cJ cZ (va_A (sw_X5_isPlace cI cJ cZ gh g_acts g_kind g_na g_nb g_nc g_nd g_ne g_dropped g_live g_low g_high g_sites g_nulls g_there g_lanes g_least g_most g_placeLow g_placeHigh g_reached g_mayThrow g_status g_hasRun g_threw g_whereThrown g_value ga_means ga_laneOf ga_sizeOf g_cells g_copied g_state g_joinedLow g_joinedHigh g_keptLow g_keptHigh gc_means gc_laneOf gc_sizeOf ia ra la pa) sz) [(gh, .inr (5, [.int g_acts, g_kind, g_na, g_nb, g_nc, g_nd, g_ne, g_dropped, g_live, g_low, g_high, g_sites, g_nulls, g_there, g_lanes, g_least, g_most, g_placeLow, g_placeHigh, g_reached, g_mayThrow, .int g_status, .int g_hasRun, .int (u.1), .int (u.2), g_value, .ref ga_means, .ref ga_laneOf, .ref ga_sizeOf, g_cells, g_copied, .long g_state, .long g_joinedLow, .long g_joinedHigh, g_keptLow, g_keptHigh])), (ga_means, .inl (cI, 6, .inl gc_means)), (ga_laneOf, .inl (cI, 40, .inl gc_laneOf)), (ga_sizeOf, .inl (cI, 40, .inl gc_sizeOf))]) (va_A (sw_X5_isPlace cI cJ cZ gh g_acts g_kind g_na g_nb g_nc g_nd g_ne g_dropped g_live g_low g_high g_sites g_nulls g_there g_lanes g_least g_most g_placeLow g_placeHigh g_reached g_mayThrow g_status g_hasRun g_threw g_whereThrown g_value ga_means ga_laneOf ga_sizeOf g_cells g_copied g_state g_joinedLow g_joinedHigh g_keptLow g_keptHigh gc_means gc_laneOf gc_sizeOf ia ra la pa) sz)) 0 0 (va_A (sw_X5_isPlace cI cJ cZ gh g_acts g_kind g_na g_nb g_nc g_nd g_ne g_dropped g_live g_low g_high g_sites g_nulls g_there g_lanes g_least g_most g_placeLow g_placeHigh g_reached g_mayThrow g_status g_hasRun g_threw g_whereThrown g_value ga_means ga_laneOf ga_sizeOf g_cells g_copied g_state g_joinedLow g_joinedHigh g_keptLow g_keptHigh gc_means gc_laneOf gc_sizeOf ia ra la pa) sz) := by
  refine Met.ofW (cc := cX5_isPlace) (maxL := 7) (ret := (some .boolean)) (by decide) rfl ?_
  intro p e s m args below meth c s₁ B hml hv
  obtain ⟨rfl, hsz, hP, hK, hD0, hN⟩ := hv
  have hx := B.exec
  have hb := B.bytes
  have hr := B.returns
  have hts := atoms_spec (ws := v_X5_isPlace) B.pre
  have hown : s.vm.findClass RX5 = some m.cls := findClass_of_methodNamed B.named
  have hlocks := B.notSynchronized
  subst hsz
  have hD := hD0.self (sz := s.heap.size)
  generalize hAe : va_A (sw_X5_isPlace cI cJ cZ gh g_acts g_kind g_na g_nb g_nc g_nd g_ne g_dropped g_live g_low g_high g_sites g_nulls g_there g_lanes g_least g_most g_placeLow g_placeHigh g_reached g_mayThrow g_status g_hasRun g_threw g_whereThrown g_value ga_means ga_laneOf ga_sizeOf g_cells g_copied g_state g_joinedLow g_joinedHigh g_keptLow g_keptHigh gc_means gc_laneOf gc_sizeOf ia ra la pa) s.heap.size = A at hD ⊢
  have hA : ∀ q : Nat, s.heap.size ≤ q → A q := fun q h => by rw [← hAe]; exact Or.inr h
  clear hAe hD0
  have hS : va_S A s.heap s.heap [] := va_S.rf
  replace hP : va_P (dC, dI) vwCl [(gh, .inr (5, [.int g_acts, g_kind, g_na, g_nb, g_nc, g_nd, g_ne, g_dropped, g_live, g_low, g_high, g_sites, g_nulls, g_there, g_lanes, g_least, g_most, g_placeLow, g_placeHigh, g_reached, g_mayThrow, .int g_status, .int g_hasRun, .int g_threw, .int g_whereThrown, g_value, .ref ga_means, .ref ga_laneOf, .ref ga_sizeOf, g_cells, g_copied, .long g_state, .long g_joinedLow, .long g_joinedHigh, g_keptLow, g_keptHigh])), (ga_means, .inl (cI, 6, .inl gc_means)), (ga_laneOf, .inl (cI, 40, .inl gc_laneOf)), (ga_sizeOf, .inl (cI, 40, .inl gc_sizeOf))] s.heap := hP
  replace hD : va_D A [(gh, .inr (5, [.int g_acts, g_kind, g_na, g_nb, g_nc, g_nd, g_ne, g_dropped, g_live, g_low, g_high, g_sites, g_nulls, g_there, g_lanes, g_least, g_most, g_placeLow, g_placeHigh, g_reached, g_mayThrow, .int g_status, .int g_hasRun, .int g_threw, .int g_whereThrown, g_value, .ref ga_means, .ref ga_laneOf, .ref ga_sizeOf, g_cells, g_copied, .long g_state, .long g_joinedLow, .long g_joinedHigh, g_keptLow, g_keptHigh])), (ga_means, .inl (cI, 6, .inl gc_means)), (ga_laneOf, .inl (cI, 40, .inl gc_laneOf)), (ga_sizeOf, .inl (cI, 40, .inl gc_sizeOf))] := hD
  have hl := lv_entry ([.ref gh, .int ia, .int ra, .int la, .int pa]) (n := 7) (Nat.le_of_ble_eq_true rfl)
  rw [lg_entry_eq]
  generalize (lg_sl ([.ref gh, .int ia, .int ra, .int la, .int pa]) ++ List.replicate (7 - (lg_sl ([.ref gh, .int ia, .int ra, .int la, .int pa])).length) Slot.unset).toArray = ls at hl ⊢
  replace hl : lv_has ls 7 [(0, .ref gh), (1, .int ia), (2, .int ra), (3, .int la), (4, .int pa)] := hl
  have z_0 : (0 : Int32).toInt = 0 := by decide
  have z_1 : (1 : Int32).toInt = 1 := by decide
  have z_2 : (2 : Int32).toInt = 2 := by decide
  have z_5 : (5 : Int32).toInt = 5 := by decide
  refine lv_aload_n hx hb dX5_isPlace_0 rfl (lv_at hl 0 rfl) ?_
  refine va_get (D := (dC, dI)) (ci := 5) (v := .ref ga_means) (C := RX5) (T := TX5) (N := 36) hx hb hts inv_X5_isPlace_X5 hown hK hP 0 rfl rfl 26 (by decide) (hts (.fieldLink RX5 75 "ArraySegmentsModel" "means" "[I") (List.mem_of_getElem? (i := 1) rfl)) (fun _ h9 => h9) rfl dX5_isPlace_1 ?_
  refine lv_iload_n hx hb dX5_isPlace_4 rfl (lv_at hl 2 rfl) ?_
  refine sf_iald kSITE hx hb hK hP 1 0 rfl rfl h_gc_means (vp_in_iff.mpr ⟨by omega, by omega⟩) dX5_isPlace_5 (fun v_1 q_v_1 e_v_1 => ?_)
  have et_v_1 : v_1.toInt = (gc_means (ra).toNatClampNeg).toInt := by rw [e_v_1]
  refine lv_istore (lv' := [(5, .int v_1), (0, .ref gh), (1, .int ia), (2, .int ra), (3, .int la), (4, .int pa)]) hx hb dX5_isPlace_6 hl (by decide) rfl (fun ls1 hl1 => ?_)
  replace hl := hl1; clear hl1
  refine lv_iload hx hb dX5_isPlace_8 (lv_at hl 0 rfl) ?_
  refine lv_if_ge (tgt := 17) hx hb dX5_isPlace_10 (by decide) (fun c_2 => ?_) (fun c_2 => ?_)
  · -- yes
    have k_2 : (0 : Int32).toInt ≤ v_1.toInt := ci_ge c_2
    refine lv_aload_n hx hb dX5_isPlace_17 rfl (lv_at hl 1 rfl) ?_
    refine va_get (D := (dC, dI)) (ci := 5) (v := .ref ga_laneOf) (C := RX5) (T := TX5) (N := 36) hx hb hts inv_X5_isPlace_X5 hown hK hP 0 rfl rfl 27 (by decide) (hts (.fieldLink RX5 78 "ArraySegmentsModel" "laneOf" "[I") (List.mem_of_getElem? (i := 2) rfl)) (fun _ h9 => h9) rfl dX5_isPlace_18 ?_
    refine lv_iload hx hb dX5_isPlace_21 (lv_at hl 0 rfl) ?_
    refine sf_iald kT hx hb hK hP 2 0 rfl rfl (fun _ => trivial) (vp_in_iff.mpr ⟨by omega, by omega⟩) dX5_isPlace_23 (fun v_3 q_v_3 e_v_3 => ?_)
    have et_v_3 : v_3.toInt = (gc_laneOf (v_1).toNatClampNeg).toInt := by rw [e_v_3]
    refine lv_iload_n hx hb dX5_isPlace_24 rfl (lv_at hl 4 rfl) ?_
    refine lv_icmp_eq (tgt := 32) hx hb dX5_isPlace_25 (by decide) (fun c_4 => ?_) (fun c_4 => ?_)
    · -- yes
      have k_4 : v_3.toInt = la.toInt := ci_eq c_4
      refine lv_iload hx hb dX5_isPlace_32 (lv_at hl 5 rfl) ?_
      refine lv_if_lt (tgt := 49) hx hb dX5_isPlace_34 (by decide) (fun c_5 => ?_) (fun c_5 => ?_)
      · -- yes
        have k_5 : pa.toInt < (0 : Int32).toInt := ci_lt c_5
        refine lv_iconst (v := 5) hx hb dX5_isPlace_49 (by decide) ?_
        refine lv_goto (tgt := 54) hx hb dX5_isPlace_50 (by decide) ?_
        refine lv_istore (lv' := [(6, .int 5), (5, .int v_1), (0, .ref gh), (1, .int ia), (2, .int ra), (3, .int la), (4, .int pa)]) hx hb dX5_isPlace_54 hl (by decide) rfl (fun ls1 hl1 => ?_)
        replace hl := hl1; clear hl1
        refine lv_iload hx hb dX5_isPlace_56 (lv_at hl 0 rfl) ?_
        refine lv_if_le (tgt := 68) hx hb dX5_isPlace_58 (by decide) (fun c_6 => ?_) (fun c_6 => ?_)
        · -- yes
          have k_6 : (5 : Int32).toInt ≤ (0 : Int32).toInt := ci_le c_6
          exfalso; omega
        · -- no
          have k_6 : (0 : Int32).toInt < (5 : Int32).toInt := ci_nle c_6
          refine lv_aload_n hx hb dX5_isPlace_61 rfl (lv_at hl 2 rfl) ?_
          refine lv_iload_n hx hb dX5_isPlace_62 rfl (lv_at hl 3 rfl) ?_
          refine lv_iload hx hb dX5_isPlace_63 (lv_at hl 0 rfl) ?_
          have hPc := hP.sub (ws' := [(gh, .inr (5, [.int g_acts, g_kind, g_na, g_nb, g_nc, g_nd, g_ne, g_dropped, g_live, g_low, g_high, g_sites, g_nulls, g_there, g_lanes, g_least, g_most, g_placeLow, g_placeHigh, g_reached, g_mayThrow, .int g_status, .int g_hasRun, .int g_threw, .int g_whereThrown, g_value, .ref ga_means, .ref ga_laneOf, .ref ga_sizeOf, g_cells, g_copied, .long g_state, .long g_joinedLow, .long g_joinedHigh, g_keptLow, g_keptHigh]))]) [0] rfl
          have hDc := hD.sub (ws' := [(gh, .inr (5, [.int g_acts, g_kind, g_na, g_nb, g_nc, g_nd, g_ne, g_dropped, g_live, g_low, g_high, g_sites, g_nulls, g_there, g_lanes, g_least, g_most, g_placeLow, g_placeHigh, g_reached, g_mayThrow, .int g_status, .int g_hasRun, .int g_threw, .int g_whereThrown, g_value, .ref ga_means, .ref ga_laneOf, .ref ga_sizeOf, g_cells, g_copied, .long g_state, .long g_joinedLow, .long g_joinedHigh, g_keptLow, g_keptHigh]))]) [0] (by decide) rfl
          have hFc := va_free (wc := [(gh, .inr (5, [.int g_acts, g_kind, g_na, g_nb, g_nc, g_nd, g_ne, g_dropped, g_live, g_low, g_high, g_sites, g_nulls, g_there, g_lanes, g_least, g_most, g_placeLow, g_placeHigh, g_reached, g_mayThrow, .int g_status, .int g_hasRun, .int g_threw, .int g_whereThrown, g_value, .ref ga_means, .ref ga_laneOf, .ref ga_sizeOf, g_cells, g_copied, .long g_state, .long g_joinedLow, .long g_joinedHigh, g_keptLow, g_keptHigh]))]) hD hS hA [0] rfl
          refine va_callv (va_runV (As := [.int ia, .int 5]) (rest := []) ⟨hx, hb, hml, hown, hts⟩ (s_X5_fail l dC dI cI cJ cZ gh g_acts g_kind g_na g_nb g_nc g_nd g_ne g_dropped g_live g_low g_high g_sites g_nulls g_there g_lanes g_least g_most g_placeLow g_placeHigh g_reached g_mayThrow g_status g_hasRun g_threw g_whereThrown g_value (.ref ga_means) (.ref ga_laneOf) (.ref ga_sizeOf) g_cells g_copied g_state g_joinedLow g_joinedHigh g_keptLow g_keptHigh ia 5 s.heap.size q_g_hasRun) (cwV 2 hts h_X5_isPlace_X5_fail_288 rfl rfl rfl (by decide +kernel) ⟨Nat.le_of_ble_eq_true rfl, Nat.le_of_ble_eq_true rfl⟩) ⟨cPre_blind, va_recv hK hPc (ci := 5) (q0 := 0) rfl rfl, cPre_of hK hN hPc hDc⟩ rfl rfl hl.1 rfl (lv_room (Nat.le_of_ble_eq_true rfl)) dX5_isPlace_65 ⟨Nat.le_of_ble_eq_true rfl, Nat.le_of_ble_eq_true rfl⟩) hS (fun q _ h => hFc q h) hFc (fun u_7 t_7 H_7 locs_7 ht hvm hw_7 hB hz1 hk1 hS1 => ?_)
          obtain ⟨v_8, v_9⟩ := u_7
          obtain ⟨hP1, hK1, hD1⟩ := hB
          rw [ht] at hP1
          obtain ⟨hP2, hD2⟩ := va_join (wr := [(ga_means, .inl (cI, 6, .inl gc_means)), (ga_laneOf, .inl (cI, 40, .inl gc_laneOf)), (ga_sizeOf, .inl (cI, 40, .inl gc_sizeOf))]) (w1 := [(gh, .inr (5, [.int g_acts, g_kind, g_na, g_nb, g_nc, g_nd, g_ne, g_dropped, g_live, g_low, g_high, g_sites, g_nulls, g_there, g_lanes, g_least, g_most, g_placeLow, g_placeHigh, g_reached, g_mayThrow, .int g_status, .int g_hasRun, .int v_8, .int v_9, g_value, .ref ga_means, .ref ga_laneOf, .ref ga_sizeOf, g_cells, g_copied, .long g_state, .long g_joinedLow, .long g_joinedHigh, g_keptLow, g_keptHigh]))]) hP hD [0] [1, 2, 3] rfl rfl (by decide) (by decide) hk1 hFc hP1 hD1
          clear hPc hDc hFc hP1 hD1 hK1 hk1 hz1 hvm ht
          replace hP : va_P (dC, dI) vwCl [(ga_means, .inl (cI, 6, .inl gc_means)), (ga_laneOf, .inl (cI, 40, .inl gc_laneOf)), (ga_sizeOf, .inl (cI, 40, .inl gc_sizeOf)), (gh, .inr (5, [.int g_acts, g_kind, g_na, g_nb, g_nc, g_nd, g_ne, g_dropped, g_live, g_low, g_high, g_sites, g_nulls, g_there, g_lanes, g_least, g_most, g_placeLow, g_placeHigh, g_reached, g_mayThrow, .int g_status, .int g_hasRun, .int v_8, .int v_9, g_value, .ref ga_means, .ref ga_laneOf, .ref ga_sizeOf, g_cells, g_copied, .long g_state, .long g_joinedLow, .long g_joinedHigh, g_keptLow, g_keptHigh]))] H_7 := hP2
          replace hD : va_D A [(ga_means, .inl (cI, 6, .inl gc_means)), (ga_laneOf, .inl (cI, 40, .inl gc_laneOf)), (ga_sizeOf, .inl (cI, 40, .inl gc_sizeOf)), (gh, .inr (5, [.int g_acts, g_kind, g_na, g_nb, g_nc, g_nd, g_ne, g_dropped, g_live, g_low, g_high, g_sites, g_nulls, g_there, g_lanes, g_least, g_most, g_placeLow, g_placeHigh, g_reached, g_mayThrow, .int g_status, .int g_hasRun, .int v_8, .int v_9, g_value, .ref ga_means, .ref ga_laneOf, .ref ga_sizeOf, g_cells, g_copied, .long g_state, .long g_joinedLow, .long g_joinedHigh, g_keptLow, g_keptHigh]))] := hD2
          replace hS := hS1
          clear hP2 hD2 hS1
          replace hw_7 : (v_8.toInt = (5 : Int32).toInt) ∧ (v_9.toInt = ia.toInt) := hw_7
          obtain ⟨x_7_0, x_7_1⟩ := hw_7
          refine lv_iload hx hb dX5_isPlace_68 (lv_at hl 0 rfl) ?_
          refine lv_if_ne (tgt := 77) hx hb dX5_isPlace_70 (by decide) (fun c_10 => ?_) (fun c_10 => ?_)
          · -- yes
            have k_10 : ¬ (5 : Int32).toInt = (0 : Int32).toInt := ci_ne c_10
            refine lv_iconst (v := 0) hx hb dX5_isPlace_77 (by decide) ?_
            have hP9 := hP.sub (ws' := [(gh, .inr (5, [.int g_acts, g_kind, g_na, g_nb, g_nc, g_nd, g_ne, g_dropped, g_live, g_low, g_high, g_sites, g_nulls, g_there, g_lanes, g_least, g_most, g_placeLow, g_placeHigh, g_reached, g_mayThrow, .int g_status, .int g_hasRun, .int v_8, .int v_9, g_value, .ref ga_means, .ref ga_laneOf, .ref ga_sizeOf, g_cells, g_copied, .long g_state, .long g_joinedLow, .long g_joinedHigh, g_keptLow, g_keptHigh])), (ga_means, .inl (cI, 6, .inl gc_means)), (ga_laneOf, .inl (cI, 40, .inl gc_laneOf)), (ga_sizeOf, .inl (cI, 40, .inl gc_sizeOf))]) [3, 0, 1, 2] rfl
            have hD9 := hD.sub (ws' := [(gh, .inr (5, [.int g_acts, g_kind, g_na, g_nb, g_nc, g_nd, g_ne, g_dropped, g_live, g_low, g_high, g_sites, g_nulls, g_there, g_lanes, g_least, g_most, g_placeLow, g_placeHigh, g_reached, g_mayThrow, .int g_status, .int g_hasRun, .int v_8, .int v_9, g_value, .ref ga_means, .ref ga_laneOf, .ref ga_sizeOf, g_cells, g_copied, .long g_state, .long g_joinedLow, .long g_joinedHigh, g_keptLow, g_keptHigh])), (ga_means, .inl (cI, 6, .inl gc_means)), (ga_laneOf, .inl (cI, 40, .inl gc_laneOf)), (ga_sizeOf, .inl (cI, 40, .inl gc_sizeOf))]) [3, 0, 1, 2] (by decide) rfl
            exact W.zret (v := 0) (ty := .boolean) hx hb hr rfl (fun t ht hW => ⟨⟨0, (v_8, v_9), rfl, ⟨(show kZ (0 : Int32) from (by decide)), (show (¬ (0 : Int32).toInt = 0 ∧ v_8.toInt = g_threw.toInt ∧ v_9.toInt = g_whereThrown.toInt ∧ 0 ≤ (gc_means (ra).toNatClampNeg).toInt ∧ 0 ≤ pa.toInt ∧ pa.toInt ≤ 11) ∨ ((0 : Int32).toInt = 0 ∧ 1 ≤ v_8.toInt ∧ v_9.toInt = ia.toInt) from (by omega))⟩, by rw [ht]; exact hP9, va_K.moved hW.alike hK, hD9⟩, hS.F ht⟩) hS.2.2 dX5_isPlace_78
          · -- no
            have k_10 : (5 : Int32).toInt = (0 : Int32).toInt := ci_eq c_10
            exfalso; omega
      · -- no
        have k_5 : (0 : Int32).toInt ≤ pa.toInt := ci_nlt c_5
        refine lv_iload hx hb dX5_isPlace_37 (lv_at hl 5 rfl) ?_
        refine lv_aload_n hx hb dX5_isPlace_39 rfl (lv_at hl 1 rfl) ?_
        refine va_get (D := (dC, dI)) (ci := 5) (v := .ref ga_sizeOf) (C := RX5) (T := TX5) (N := 36) hx hb hts inv_X5_isPlace_X5 hown hK hP 0 rfl rfl 28 (by decide) (hts (.fieldLink RX5 81 "ArraySegmentsModel" "sizeOf" "[I") (List.mem_of_getElem? (i := 7) rfl)) (fun _ h9 => h9) rfl dX5_isPlace_40 ?_
        refine lv_iload hx hb dX5_isPlace_43 (lv_at hl 0 rfl) ?_
        refine sf_iald kR012 hx hb hK hP 3 0 rfl rfl h_gc_sizeOf (vp_in_iff.mpr ⟨by omega, by omega⟩) dX5_isPlace_45 (fun v_11 q_v_11 e_v_11 => ?_)
        have et_v_11 : v_11.toInt = (gc_sizeOf (v_1).toNatClampNeg).toInt := by rw [e_v_11]
        refine lv_icmp_lt (tgt := 53) hx hb dX5_isPlace_46 (by decide) (fun c_12 => ?_) (fun c_12 => ?_)
        · -- yes
          have k_12 : pa.toInt < v_11.toInt := ci_lt c_12
          refine lv_iconst (v := 0) hx hb dX5_isPlace_53 (by decide) ?_
          refine lv_istore (lv' := [(6, .int 0), (5, .int v_1), (0, .ref gh), (1, .int ia), (2, .int ra), (3, .int la), (4, .int pa)]) hx hb dX5_isPlace_54 hl (by decide) rfl (fun ls1 hl1 => ?_)
          replace hl := hl1; clear hl1
          refine lv_iload hx hb dX5_isPlace_56 (lv_at hl 0 rfl) ?_
          refine lv_if_le (tgt := 68) hx hb dX5_isPlace_58 (by decide) (fun c_13 => ?_) (fun c_13 => ?_)
          · -- yes
            have k_13 : (0 : Int32).toInt ≤ (0 : Int32).toInt := ci_le c_13
            refine lv_iload hx hb dX5_isPlace_68 (lv_at hl 0 rfl) ?_
            refine lv_if_ne (tgt := 77) hx hb dX5_isPlace_70 (by decide) (fun c_14 => ?_) (fun c_14 => ?_)
            · -- yes
              have k_14 : ¬ (0 : Int32).toInt = (0 : Int32).toInt := ci_ne c_14
              exfalso; omega
            · -- no
              have k_14 : (0 : Int32).toInt = (0 : Int32).toInt := ci_eq c_14
              refine lv_iconst (v := 1) hx hb dX5_isPlace_73 (by decide) ?_
              refine lv_goto (tgt := 78) hx hb dX5_isPlace_74 (by decide) ?_
              have hP9 := hP.sub (ws' := [(gh, .inr (5, [.int g_acts, g_kind, g_na, g_nb, g_nc, g_nd, g_ne, g_dropped, g_live, g_low, g_high, g_sites, g_nulls, g_there, g_lanes, g_least, g_most, g_placeLow, g_placeHigh, g_reached, g_mayThrow, .int g_status, .int g_hasRun, .int g_threw, .int g_whereThrown, g_value, .ref ga_means, .ref ga_laneOf, .ref ga_sizeOf, g_cells, g_copied, .long g_state, .long g_joinedLow, .long g_joinedHigh, g_keptLow, g_keptHigh])), (ga_means, .inl (cI, 6, .inl gc_means)), (ga_laneOf, .inl (cI, 40, .inl gc_laneOf)), (ga_sizeOf, .inl (cI, 40, .inl gc_sizeOf))]) [0, 1, 2, 3] rfl
              have hD9 := hD.sub (ws' := [(gh, .inr (5, [.int g_acts, g_kind, g_na, g_nb, g_nc, g_nd, g_ne, g_dropped, g_live, g_low, g_high, g_sites, g_nulls, g_there, g_lanes, g_least, g_most, g_placeLow, g_placeHigh, g_reached, g_mayThrow, .int g_status, .int g_hasRun, .int g_threw, .int g_whereThrown, g_value, .ref ga_means, .ref ga_laneOf, .ref ga_sizeOf, g_cells, g_copied, .long g_state, .long g_joinedLow, .long g_joinedHigh, g_keptLow, g_keptHigh])), (ga_means, .inl (cI, 6, .inl gc_means)), (ga_laneOf, .inl (cI, 40, .inl gc_laneOf)), (ga_sizeOf, .inl (cI, 40, .inl gc_sizeOf))]) [0, 1, 2, 3] (by decide) rfl
              exact W.zret (v := 1) (ty := .boolean) hx hb hr rfl (fun t ht hW => ⟨⟨1, (g_threw, g_whereThrown), rfl, ⟨(show kZ (1 : Int32) from (by decide)), (show (¬ (1 : Int32).toInt = 0 ∧ g_threw.toInt = g_threw.toInt ∧ g_whereThrown.toInt = g_whereThrown.toInt ∧ 0 ≤ (gc_means (ra).toNatClampNeg).toInt ∧ 0 ≤ pa.toInt ∧ pa.toInt ≤ 11) ∨ ((1 : Int32).toInt = 0 ∧ 1 ≤ g_threw.toInt ∧ g_whereThrown.toInt = ia.toInt) from (by omega))⟩, by rw [ht]; exact hP9, va_K.moved hW.alike hK, hD9⟩, hS.F ht⟩) hS.2.2 dX5_isPlace_78
          · -- no
            have k_13 : (0 : Int32).toInt < (0 : Int32).toInt := ci_nle c_13
            exfalso; omega
        · -- no
          have k_12 : v_11.toInt ≤ pa.toInt := ci_nlt c_12
          refine lv_iconst (v := 5) hx hb dX5_isPlace_49 (by decide) ?_
          refine lv_goto (tgt := 54) hx hb dX5_isPlace_50 (by decide) ?_
          refine lv_istore (lv' := [(6, .int 5), (5, .int v_1), (0, .ref gh), (1, .int ia), (2, .int ra), (3, .int la), (4, .int pa)]) hx hb dX5_isPlace_54 hl (by decide) rfl (fun ls1 hl1 => ?_)
          replace hl := hl1; clear hl1
          refine lv_iload hx hb dX5_isPlace_56 (lv_at hl 0 rfl) ?_
          refine lv_if_le (tgt := 68) hx hb dX5_isPlace_58 (by decide) (fun c_15 => ?_) (fun c_15 => ?_)
          · -- yes
            have k_15 : (5 : Int32).toInt ≤ (0 : Int32).toInt := ci_le c_15
            exfalso; omega
          · -- no
            have k_15 : (0 : Int32).toInt < (5 : Int32).toInt := ci_nle c_15
            refine lv_aload_n hx hb dX5_isPlace_61 rfl (lv_at hl 2 rfl) ?_
            refine lv_iload_n hx hb dX5_isPlace_62 rfl (lv_at hl 3 rfl) ?_
            refine lv_iload hx hb dX5_isPlace_63 (lv_at hl 0 rfl) ?_
            have hPc := hP.sub (ws' := [(gh, .inr (5, [.int g_acts, g_kind, g_na, g_nb, g_nc, g_nd, g_ne, g_dropped, g_live, g_low, g_high, g_sites, g_nulls, g_there, g_lanes, g_least, g_most, g_placeLow, g_placeHigh, g_reached, g_mayThrow, .int g_status, .int g_hasRun, .int g_threw, .int g_whereThrown, g_value, .ref ga_means, .ref ga_laneOf, .ref ga_sizeOf, g_cells, g_copied, .long g_state, .long g_joinedLow, .long g_joinedHigh, g_keptLow, g_keptHigh]))]) [0] rfl
            have hDc := hD.sub (ws' := [(gh, .inr (5, [.int g_acts, g_kind, g_na, g_nb, g_nc, g_nd, g_ne, g_dropped, g_live, g_low, g_high, g_sites, g_nulls, g_there, g_lanes, g_least, g_most, g_placeLow, g_placeHigh, g_reached, g_mayThrow, .int g_status, .int g_hasRun, .int g_threw, .int g_whereThrown, g_value, .ref ga_means, .ref ga_laneOf, .ref ga_sizeOf, g_cells, g_copied, .long g_state, .long g_joinedLow, .long g_joinedHigh, g_keptLow, g_keptHigh]))]) [0] (by decide) rfl
            have hFc := va_free (wc := [(gh, .inr (5, [.int g_acts, g_kind, g_na, g_nb, g_nc, g_nd, g_ne, g_dropped, g_live, g_low, g_high, g_sites, g_nulls, g_there, g_lanes, g_least, g_most, g_placeLow, g_placeHigh, g_reached, g_mayThrow, .int g_status, .int g_hasRun, .int g_threw, .int g_whereThrown, g_value, .ref ga_means, .ref ga_laneOf, .ref ga_sizeOf, g_cells, g_copied, .long g_state, .long g_joinedLow, .long g_joinedHigh, g_keptLow, g_keptHigh]))]) hD hS hA [0] rfl
            refine va_callv (va_runV (As := [.int ia, .int 5]) (rest := []) ⟨hx, hb, hml, hown, hts⟩ (s_X5_fail l dC dI cI cJ cZ gh g_acts g_kind g_na g_nb g_nc g_nd g_ne g_dropped g_live g_low g_high g_sites g_nulls g_there g_lanes g_least g_most g_placeLow g_placeHigh g_reached g_mayThrow g_status g_hasRun g_threw g_whereThrown g_value (.ref ga_means) (.ref ga_laneOf) (.ref ga_sizeOf) g_cells g_copied g_state g_joinedLow g_joinedHigh g_keptLow g_keptHigh ia 5 s.heap.size q_g_hasRun) (cwV 2 hts h_X5_isPlace_X5_fail_288 rfl rfl rfl (by decide +kernel) ⟨Nat.le_of_ble_eq_true rfl, Nat.le_of_ble_eq_true rfl⟩) ⟨cPre_blind, va_recv hK hPc (ci := 5) (q0 := 0) rfl rfl, cPre_of hK hN hPc hDc⟩ rfl rfl hl.1 rfl (lv_room (Nat.le_of_ble_eq_true rfl)) dX5_isPlace_65 ⟨Nat.le_of_ble_eq_true rfl, Nat.le_of_ble_eq_true rfl⟩) hS (fun q _ h => hFc q h) hFc (fun u_16 t_16 H_16 locs_16 ht hvm hw_16 hB hz1 hk1 hS1 => ?_)
            obtain ⟨v_17, v_18⟩ := u_16
            obtain ⟨hP1, hK1, hD1⟩ := hB
            rw [ht] at hP1
            obtain ⟨hP2, hD2⟩ := va_join (wr := [(ga_means, .inl (cI, 6, .inl gc_means)), (ga_laneOf, .inl (cI, 40, .inl gc_laneOf)), (ga_sizeOf, .inl (cI, 40, .inl gc_sizeOf))]) (w1 := [(gh, .inr (5, [.int g_acts, g_kind, g_na, g_nb, g_nc, g_nd, g_ne, g_dropped, g_live, g_low, g_high, g_sites, g_nulls, g_there, g_lanes, g_least, g_most, g_placeLow, g_placeHigh, g_reached, g_mayThrow, .int g_status, .int g_hasRun, .int v_17, .int v_18, g_value, .ref ga_means, .ref ga_laneOf, .ref ga_sizeOf, g_cells, g_copied, .long g_state, .long g_joinedLow, .long g_joinedHigh, g_keptLow, g_keptHigh]))]) hP hD [0] [1, 2, 3] rfl rfl (by decide) (by decide) hk1 hFc hP1 hD1
            clear hPc hDc hFc hP1 hD1 hK1 hk1 hz1 hvm ht
            replace hP : va_P (dC, dI) vwCl [(ga_means, .inl (cI, 6, .inl gc_means)), (ga_laneOf, .inl (cI, 40, .inl gc_laneOf)), (ga_sizeOf, .inl (cI, 40, .inl gc_sizeOf)), (gh, .inr (5, [.int g_acts, g_kind, g_na, g_nb, g_nc, g_nd, g_ne, g_dropped, g_live, g_low, g_high, g_sites, g_nulls, g_there, g_lanes, g_least, g_most, g_placeLow, g_placeHigh, g_reached, g_mayThrow, .int g_status, .int g_hasRun, .int v_17, .int v_18, g_value, .ref ga_means, .ref ga_laneOf, .ref ga_sizeOf, g_cells, g_copied, .long g_state, .long g_joinedLow, .long g_joinedHigh, g_keptLow, g_keptHigh]))] H_16 := hP2
            replace hD : va_D A [(ga_means, .inl (cI, 6, .inl gc_means)), (ga_laneOf, .inl (cI, 40, .inl gc_laneOf)), (ga_sizeOf, .inl (cI, 40, .inl gc_sizeOf)), (gh, .inr (5, [.int g_acts, g_kind, g_na, g_nb, g_nc, g_nd, g_ne, g_dropped, g_live, g_low, g_high, g_sites, g_nulls, g_there, g_lanes, g_least, g_most, g_placeLow, g_placeHigh, g_reached, g_mayThrow, .int g_status, .int g_hasRun, .int v_17, .int v_18, g_value, .ref ga_means, .ref ga_laneOf, .ref ga_sizeOf, g_cells, g_copied, .long g_state, .long g_joinedLow, .long g_joinedHigh, g_keptLow, g_keptHigh]))] := hD2
            replace hS := hS1
            clear hP2 hD2 hS1
            replace hw_16 : (v_17.toInt = (5 : Int32).toInt) ∧ (v_18.toInt = ia.toInt) := hw_16
            obtain ⟨x_16_0, x_16_1⟩ := hw_16
            refine lv_iload hx hb dX5_isPlace_68 (lv_at hl 0 rfl) ?_
            refine lv_if_ne (tgt := 77) hx hb dX5_isPlace_70 (by decide) (fun c_19 => ?_) (fun c_19 => ?_)
            · -- yes
              have k_19 : ¬ (5 : Int32).toInt = (0 : Int32).toInt := ci_ne c_19
              refine lv_iconst (v := 0) hx hb dX5_isPlace_77 (by decide) ?_
              have hP9 := hP.sub (ws' := [(gh, .inr (5, [.int g_acts, g_kind, g_na, g_nb, g_nc, g_nd, g_ne, g_dropped, g_live, g_low, g_high, g_sites, g_nulls, g_there, g_lanes, g_least, g_most, g_placeLow, g_placeHigh, g_reached, g_mayThrow, .int g_status, .int g_hasRun, .int v_17, .int v_18, g_value, .ref ga_means, .ref ga_laneOf, .ref ga_sizeOf, g_cells, g_copied, .long g_state, .long g_joinedLow, .long g_joinedHigh, g_keptLow, g_keptHigh])), (ga_means, .inl (cI, 6, .inl gc_means)), (ga_laneOf, .inl (cI, 40, .inl gc_laneOf)), (ga_sizeOf, .inl (cI, 40, .inl gc_sizeOf))]) [3, 0, 1, 2] rfl
              have hD9 := hD.sub (ws' := [(gh, .inr (5, [.int g_acts, g_kind, g_na, g_nb, g_nc, g_nd, g_ne, g_dropped, g_live, g_low, g_high, g_sites, g_nulls, g_there, g_lanes, g_least, g_most, g_placeLow, g_placeHigh, g_reached, g_mayThrow, .int g_status, .int g_hasRun, .int v_17, .int v_18, g_value, .ref ga_means, .ref ga_laneOf, .ref ga_sizeOf, g_cells, g_copied, .long g_state, .long g_joinedLow, .long g_joinedHigh, g_keptLow, g_keptHigh])), (ga_means, .inl (cI, 6, .inl gc_means)), (ga_laneOf, .inl (cI, 40, .inl gc_laneOf)), (ga_sizeOf, .inl (cI, 40, .inl gc_sizeOf))]) [3, 0, 1, 2] (by decide) rfl
              exact W.zret (v := 0) (ty := .boolean) hx hb hr rfl (fun t ht hW => ⟨⟨0, (v_17, v_18), rfl, ⟨(show kZ (0 : Int32) from (by decide)), (show (¬ (0 : Int32).toInt = 0 ∧ v_17.toInt = g_threw.toInt ∧ v_18.toInt = g_whereThrown.toInt ∧ 0 ≤ (gc_means (ra).toNatClampNeg).toInt ∧ 0 ≤ pa.toInt ∧ pa.toInt ≤ 11) ∨ ((0 : Int32).toInt = 0 ∧ 1 ≤ v_17.toInt ∧ v_18.toInt = ia.toInt) from (by omega))⟩, by rw [ht]; exact hP9, va_K.moved hW.alike hK, hD9⟩, hS.F ht⟩) hS.2.2 dX5_isPlace_78
            · -- no
              have k_19 : (5 : Int32).toInt = (0 : Int32).toInt := ci_eq c_19
              exfalso; omega
    · -- no
      have k_4 : ¬ v_3.toInt = la.toInt := ci_ne c_4
      refine lv_iconst (v := 2) hx hb dX5_isPlace_28 (by decide) ?_
      refine lv_goto (tgt := 54) hx hb dX5_isPlace_29 (by decide) ?_
      refine lv_istore (lv' := [(6, .int 2), (5, .int v_1), (0, .ref gh), (1, .int ia), (2, .int ra), (3, .int la), (4, .int pa)]) hx hb dX5_isPlace_54 hl (by decide) rfl (fun ls1 hl1 => ?_)
      replace hl := hl1; clear hl1
      refine lv_iload hx hb dX5_isPlace_56 (lv_at hl 0 rfl) ?_
      refine lv_if_le (tgt := 68) hx hb dX5_isPlace_58 (by decide) (fun c_20 => ?_) (fun c_20 => ?_)
      · -- yes
        have k_20 : (2 : Int32).toInt ≤ (0 : Int32).toInt := ci_le c_20
        exfalso; omega
      · -- no
        have k_20 : (0 : Int32).toInt < (2 : Int32).toInt := ci_nle c_20
        refine lv_aload_n hx hb dX5_isPlace_61 rfl (lv_at hl 2 rfl) ?_
        refine lv_iload_n hx hb dX5_isPlace_62 rfl (lv_at hl 3 rfl) ?_
        refine lv_iload hx hb dX5_isPlace_63 (lv_at hl 0 rfl) ?_
        have hPc := hP.sub (ws' := [(gh, .inr (5, [.int g_acts, g_kind, g_na, g_nb, g_nc, g_nd, g_ne, g_dropped, g_live, g_low, g_high, g_sites, g_nulls, g_there, g_lanes, g_least, g_most, g_placeLow, g_placeHigh, g_reached, g_mayThrow, .int g_status, .int g_hasRun, .int g_threw, .int g_whereThrown, g_value, .ref ga_means, .ref ga_laneOf, .ref ga_sizeOf, g_cells, g_copied, .long g_state, .long g_joinedLow, .long g_joinedHigh, g_keptLow, g_keptHigh]))]) [0] rfl
        have hDc := hD.sub (ws' := [(gh, .inr (5, [.int g_acts, g_kind, g_na, g_nb, g_nc, g_nd, g_ne, g_dropped, g_live, g_low, g_high, g_sites, g_nulls, g_there, g_lanes, g_least, g_most, g_placeLow, g_placeHigh, g_reached, g_mayThrow, .int g_status, .int g_hasRun, .int g_threw, .int g_whereThrown, g_value, .ref ga_means, .ref ga_laneOf, .ref ga_sizeOf, g_cells, g_copied, .long g_state, .long g_joinedLow, .long g_joinedHigh, g_keptLow, g_keptHigh]))]) [0] (by decide) rfl
        have hFc := va_free (wc := [(gh, .inr (5, [.int g_acts, g_kind, g_na, g_nb, g_nc, g_nd, g_ne, g_dropped, g_live, g_low, g_high, g_sites, g_nulls, g_there, g_lanes, g_least, g_most, g_placeLow, g_placeHigh, g_reached, g_mayThrow, .int g_status, .int g_hasRun, .int g_threw, .int g_whereThrown, g_value, .ref ga_means, .ref ga_laneOf, .ref ga_sizeOf, g_cells, g_copied, .long g_state, .long g_joinedLow, .long g_joinedHigh, g_keptLow, g_keptHigh]))]) hD hS hA [0] rfl
        refine va_callv (va_runV (As := [.int ia, .int 2]) (rest := []) ⟨hx, hb, hml, hown, hts⟩ (s_X5_fail l dC dI cI cJ cZ gh g_acts g_kind g_na g_nb g_nc g_nd g_ne g_dropped g_live g_low g_high g_sites g_nulls g_there g_lanes g_least g_most g_placeLow g_placeHigh g_reached g_mayThrow g_status g_hasRun g_threw g_whereThrown g_value (.ref ga_means) (.ref ga_laneOf) (.ref ga_sizeOf) g_cells g_copied g_state g_joinedLow g_joinedHigh g_keptLow g_keptHigh ia 2 s.heap.size q_g_hasRun) (cwV 2 hts h_X5_isPlace_X5_fail_288 rfl rfl rfl (by decide +kernel) ⟨Nat.le_of_ble_eq_true rfl, Nat.le_of_ble_eq_true rfl⟩) ⟨cPre_blind, va_recv hK hPc (ci := 5) (q0 := 0) rfl rfl, cPre_of hK hN hPc hDc⟩ rfl rfl hl.1 rfl (lv_room (Nat.le_of_ble_eq_true rfl)) dX5_isPlace_65 ⟨Nat.le_of_ble_eq_true rfl, Nat.le_of_ble_eq_true rfl⟩) hS (fun q _ h => hFc q h) hFc (fun u_21 t_21 H_21 locs_21 ht hvm hw_21 hB hz1 hk1 hS1 => ?_)
        obtain ⟨v_22, v_23⟩ := u_21
        obtain ⟨hP1, hK1, hD1⟩ := hB
        rw [ht] at hP1
        obtain ⟨hP2, hD2⟩ := va_join (wr := [(ga_means, .inl (cI, 6, .inl gc_means)), (ga_laneOf, .inl (cI, 40, .inl gc_laneOf)), (ga_sizeOf, .inl (cI, 40, .inl gc_sizeOf))]) (w1 := [(gh, .inr (5, [.int g_acts, g_kind, g_na, g_nb, g_nc, g_nd, g_ne, g_dropped, g_live, g_low, g_high, g_sites, g_nulls, g_there, g_lanes, g_least, g_most, g_placeLow, g_placeHigh, g_reached, g_mayThrow, .int g_status, .int g_hasRun, .int v_22, .int v_23, g_value, .ref ga_means, .ref ga_laneOf, .ref ga_sizeOf, g_cells, g_copied, .long g_state, .long g_joinedLow, .long g_joinedHigh, g_keptLow, g_keptHigh]))]) hP hD [0] [1, 2, 3] rfl rfl (by decide) (by decide) hk1 hFc hP1 hD1
        clear hPc hDc hFc hP1 hD1 hK1 hk1 hz1 hvm ht
        replace hP : va_P (dC, dI) vwCl [(ga_means, .inl (cI, 6, .inl gc_means)), (ga_laneOf, .inl (cI, 40, .inl gc_laneOf)), (ga_sizeOf, .inl (cI, 40, .inl gc_sizeOf)), (gh, .inr (5, [.int g_acts, g_kind, g_na, g_nb, g_nc, g_nd, g_ne, g_dropped, g_live, g_low, g_high, g_sites, g_nulls, g_there, g_lanes, g_least, g_most, g_placeLow, g_placeHigh, g_reached, g_mayThrow, .int g_status, .int g_hasRun, .int v_22, .int v_23, g_value, .ref ga_means, .ref ga_laneOf, .ref ga_sizeOf, g_cells, g_copied, .long g_state, .long g_joinedLow, .long g_joinedHigh, g_keptLow, g_keptHigh]))] H_21 := hP2
        replace hD : va_D A [(ga_means, .inl (cI, 6, .inl gc_means)), (ga_laneOf, .inl (cI, 40, .inl gc_laneOf)), (ga_sizeOf, .inl (cI, 40, .inl gc_sizeOf)), (gh, .inr (5, [.int g_acts, g_kind, g_na, g_nb, g_nc, g_nd, g_ne, g_dropped, g_live, g_low, g_high, g_sites, g_nulls, g_there, g_lanes, g_least, g_most, g_placeLow, g_placeHigh, g_reached, g_mayThrow, .int g_status, .int g_hasRun, .int v_22, .int v_23, g_value, .ref ga_means, .ref ga_laneOf, .ref ga_sizeOf, g_cells, g_copied, .long g_state, .long g_joinedLow, .long g_joinedHigh, g_keptLow, g_keptHigh]))] := hD2
        replace hS := hS1
        clear hP2 hD2 hS1
        replace hw_21 : (v_22.toInt = (2 : Int32).toInt) ∧ (v_23.toInt = ia.toInt) := hw_21
        obtain ⟨x_21_0, x_21_1⟩ := hw_21
        refine lv_iload hx hb dX5_isPlace_68 (lv_at hl 0 rfl) ?_
        refine lv_if_ne (tgt := 77) hx hb dX5_isPlace_70 (by decide) (fun c_24 => ?_) (fun c_24 => ?_)
        · -- yes
          have k_24 : ¬ (2 : Int32).toInt = (0 : Int32).toInt := ci_ne c_24
          refine lv_iconst (v := 0) hx hb dX5_isPlace_77 (by decide) ?_
          have hP9 := hP.sub (ws' := [(gh, .inr (5, [.int g_acts, g_kind, g_na, g_nb, g_nc, g_nd, g_ne, g_dropped, g_live, g_low, g_high, g_sites, g_nulls, g_there, g_lanes, g_least, g_most, g_placeLow, g_placeHigh, g_reached, g_mayThrow, .int g_status, .int g_hasRun, .int v_22, .int v_23, g_value, .ref ga_means, .ref ga_laneOf, .ref ga_sizeOf, g_cells, g_copied, .long g_state, .long g_joinedLow, .long g_joinedHigh, g_keptLow, g_keptHigh])), (ga_means, .inl (cI, 6, .inl gc_means)), (ga_laneOf, .inl (cI, 40, .inl gc_laneOf)), (ga_sizeOf, .inl (cI, 40, .inl gc_sizeOf))]) [3, 0, 1, 2] rfl
          have hD9 := hD.sub (ws' := [(gh, .inr (5, [.int g_acts, g_kind, g_na, g_nb, g_nc, g_nd, g_ne, g_dropped, g_live, g_low, g_high, g_sites, g_nulls, g_there, g_lanes, g_least, g_most, g_placeLow, g_placeHigh, g_reached, g_mayThrow, .int g_status, .int g_hasRun, .int v_22, .int v_23, g_value, .ref ga_means, .ref ga_laneOf, .ref ga_sizeOf, g_cells, g_copied, .long g_state, .long g_joinedLow, .long g_joinedHigh, g_keptLow, g_keptHigh])), (ga_means, .inl (cI, 6, .inl gc_means)), (ga_laneOf, .inl (cI, 40, .inl gc_laneOf)), (ga_sizeOf, .inl (cI, 40, .inl gc_sizeOf))]) [3, 0, 1, 2] (by decide) rfl
          exact W.zret (v := 0) (ty := .boolean) hx hb hr rfl (fun t ht hW => ⟨⟨0, (v_22, v_23), rfl, ⟨(show kZ (0 : Int32) from (by decide)), (show (¬ (0 : Int32).toInt = 0 ∧ v_22.toInt = g_threw.toInt ∧ v_23.toInt = g_whereThrown.toInt ∧ 0 ≤ (gc_means (ra).toNatClampNeg).toInt ∧ 0 ≤ pa.toInt ∧ pa.toInt ≤ 11) ∨ ((0 : Int32).toInt = 0 ∧ 1 ≤ v_22.toInt ∧ v_23.toInt = ia.toInt) from (by omega))⟩, by rw [ht]; exact hP9, va_K.moved hW.alike hK, hD9⟩, hS.F ht⟩) hS.2.2 dX5_isPlace_78
        · -- no
          have k_24 : (2 : Int32).toInt = (0 : Int32).toInt := ci_eq c_24
          exfalso; omega
  · -- no
    have k_2 : v_1.toInt < (0 : Int32).toInt := ci_nge c_2
    refine lv_iconst (v := 1) hx hb dX5_isPlace_13 (by decide) ?_
    refine lv_goto (tgt := 54) hx hb dX5_isPlace_14 (by decide) ?_
    refine lv_istore (lv' := [(6, .int 1), (5, .int v_1), (0, .ref gh), (1, .int ia), (2, .int ra), (3, .int la), (4, .int pa)]) hx hb dX5_isPlace_54 hl (by decide) rfl (fun ls1 hl1 => ?_)
    replace hl := hl1; clear hl1
    refine lv_iload hx hb dX5_isPlace_56 (lv_at hl 0 rfl) ?_
    refine lv_if_le (tgt := 68) hx hb dX5_isPlace_58 (by decide) (fun c_25 => ?_) (fun c_25 => ?_)
    · -- yes
      have k_25 : (1 : Int32).toInt ≤ (0 : Int32).toInt := ci_le c_25
      exfalso; omega
    · -- no
      have k_25 : (0 : Int32).toInt < (1 : Int32).toInt := ci_nle c_25
      refine lv_aload_n hx hb dX5_isPlace_61 rfl (lv_at hl 2 rfl) ?_
      refine lv_iload_n hx hb dX5_isPlace_62 rfl (lv_at hl 3 rfl) ?_
      refine lv_iload hx hb dX5_isPlace_63 (lv_at hl 0 rfl) ?_
      have hPc := hP.sub (ws' := [(gh, .inr (5, [.int g_acts, g_kind, g_na, g_nb, g_nc, g_nd, g_ne, g_dropped, g_live, g_low, g_high, g_sites, g_nulls, g_there, g_lanes, g_least, g_most, g_placeLow, g_placeHigh, g_reached, g_mayThrow, .int g_status, .int g_hasRun, .int g_threw, .int g_whereThrown, g_value, .ref ga_means, .ref ga_laneOf, .ref ga_sizeOf, g_cells, g_copied, .long g_state, .long g_joinedLow, .long g_joinedHigh, g_keptLow, g_keptHigh]))]) [0] rfl
      have hDc := hD.sub (ws' := [(gh, .inr (5, [.int g_acts, g_kind, g_na, g_nb, g_nc, g_nd, g_ne, g_dropped, g_live, g_low, g_high, g_sites, g_nulls, g_there, g_lanes, g_least, g_most, g_placeLow, g_placeHigh, g_reached, g_mayThrow, .int g_status, .int g_hasRun, .int g_threw, .int g_whereThrown, g_value, .ref ga_means, .ref ga_laneOf, .ref ga_sizeOf, g_cells, g_copied, .long g_state, .long g_joinedLow, .long g_joinedHigh, g_keptLow, g_keptHigh]))]) [0] (by decide) rfl
      have hFc := va_free (wc := [(gh, .inr (5, [.int g_acts, g_kind, g_na, g_nb, g_nc, g_nd, g_ne, g_dropped, g_live, g_low, g_high, g_sites, g_nulls, g_there, g_lanes, g_least, g_most, g_placeLow, g_placeHigh, g_reached, g_mayThrow, .int g_status, .int g_hasRun, .int g_threw, .int g_whereThrown, g_value, .ref ga_means, .ref ga_laneOf, .ref ga_sizeOf, g_cells, g_copied, .long g_state, .long g_joinedLow, .long g_joinedHigh, g_keptLow, g_keptHigh]))]) hD hS hA [0] rfl
      refine va_callv (va_runV (As := [.int ia, .int 1]) (rest := []) ⟨hx, hb, hml, hown, hts⟩ (s_X5_fail l dC dI cI cJ cZ gh g_acts g_kind g_na g_nb g_nc g_nd g_ne g_dropped g_live g_low g_high g_sites g_nulls g_there g_lanes g_least g_most g_placeLow g_placeHigh g_reached g_mayThrow g_status g_hasRun g_threw g_whereThrown g_value (.ref ga_means) (.ref ga_laneOf) (.ref ga_sizeOf) g_cells g_copied g_state g_joinedLow g_joinedHigh g_keptLow g_keptHigh ia 1 s.heap.size q_g_hasRun) (cwV 2 hts h_X5_isPlace_X5_fail_288 rfl rfl rfl (by decide +kernel) ⟨Nat.le_of_ble_eq_true rfl, Nat.le_of_ble_eq_true rfl⟩) ⟨cPre_blind, va_recv hK hPc (ci := 5) (q0 := 0) rfl rfl, cPre_of hK hN hPc hDc⟩ rfl rfl hl.1 rfl (lv_room (Nat.le_of_ble_eq_true rfl)) dX5_isPlace_65 ⟨Nat.le_of_ble_eq_true rfl, Nat.le_of_ble_eq_true rfl⟩) hS (fun q _ h => hFc q h) hFc (fun u_26 t_26 H_26 locs_26 ht hvm hw_26 hB hz1 hk1 hS1 => ?_)
      obtain ⟨v_27, v_28⟩ := u_26
      obtain ⟨hP1, hK1, hD1⟩ := hB
      rw [ht] at hP1
      obtain ⟨hP2, hD2⟩ := va_join (wr := [(ga_means, .inl (cI, 6, .inl gc_means)), (ga_laneOf, .inl (cI, 40, .inl gc_laneOf)), (ga_sizeOf, .inl (cI, 40, .inl gc_sizeOf))]) (w1 := [(gh, .inr (5, [.int g_acts, g_kind, g_na, g_nb, g_nc, g_nd, g_ne, g_dropped, g_live, g_low, g_high, g_sites, g_nulls, g_there, g_lanes, g_least, g_most, g_placeLow, g_placeHigh, g_reached, g_mayThrow, .int g_status, .int g_hasRun, .int v_27, .int v_28, g_value, .ref ga_means, .ref ga_laneOf, .ref ga_sizeOf, g_cells, g_copied, .long g_state, .long g_joinedLow, .long g_joinedHigh, g_keptLow, g_keptHigh]))]) hP hD [0] [1, 2, 3] rfl rfl (by decide) (by decide) hk1 hFc hP1 hD1
      clear hPc hDc hFc hP1 hD1 hK1 hk1 hz1 hvm ht
      replace hP : va_P (dC, dI) vwCl [(ga_means, .inl (cI, 6, .inl gc_means)), (ga_laneOf, .inl (cI, 40, .inl gc_laneOf)), (ga_sizeOf, .inl (cI, 40, .inl gc_sizeOf)), (gh, .inr (5, [.int g_acts, g_kind, g_na, g_nb, g_nc, g_nd, g_ne, g_dropped, g_live, g_low, g_high, g_sites, g_nulls, g_there, g_lanes, g_least, g_most, g_placeLow, g_placeHigh, g_reached, g_mayThrow, .int g_status, .int g_hasRun, .int v_27, .int v_28, g_value, .ref ga_means, .ref ga_laneOf, .ref ga_sizeOf, g_cells, g_copied, .long g_state, .long g_joinedLow, .long g_joinedHigh, g_keptLow, g_keptHigh]))] H_26 := hP2
      replace hD : va_D A [(ga_means, .inl (cI, 6, .inl gc_means)), (ga_laneOf, .inl (cI, 40, .inl gc_laneOf)), (ga_sizeOf, .inl (cI, 40, .inl gc_sizeOf)), (gh, .inr (5, [.int g_acts, g_kind, g_na, g_nb, g_nc, g_nd, g_ne, g_dropped, g_live, g_low, g_high, g_sites, g_nulls, g_there, g_lanes, g_least, g_most, g_placeLow, g_placeHigh, g_reached, g_mayThrow, .int g_status, .int g_hasRun, .int v_27, .int v_28, g_value, .ref ga_means, .ref ga_laneOf, .ref ga_sizeOf, g_cells, g_copied, .long g_state, .long g_joinedLow, .long g_joinedHigh, g_keptLow, g_keptHigh]))] := hD2
      replace hS := hS1
      clear hP2 hD2 hS1
      replace hw_26 : (v_27.toInt = (1 : Int32).toInt) ∧ (v_28.toInt = ia.toInt) := hw_26
      obtain ⟨x_26_0, x_26_1⟩ := hw_26
      refine lv_iload hx hb dX5_isPlace_68 (lv_at hl 0 rfl) ?_
      refine lv_if_ne (tgt := 77) hx hb dX5_isPlace_70 (by decide) (fun c_29 => ?_) (fun c_29 => ?_)
      · -- yes
        have k_29 : ¬ (1 : Int32).toInt = (0 : Int32).toInt := ci_ne c_29
        refine lv_iconst (v := 0) hx hb dX5_isPlace_77 (by decide) ?_
        have hP9 := hP.sub (ws' := [(gh, .inr (5, [.int g_acts, g_kind, g_na, g_nb, g_nc, g_nd, g_ne, g_dropped, g_live, g_low, g_high, g_sites, g_nulls, g_there, g_lanes, g_least, g_most, g_placeLow, g_placeHigh, g_reached, g_mayThrow, .int g_status, .int g_hasRun, .int v_27, .int v_28, g_value, .ref ga_means, .ref ga_laneOf, .ref ga_sizeOf, g_cells, g_copied, .long g_state, .long g_joinedLow, .long g_joinedHigh, g_keptLow, g_keptHigh])), (ga_means, .inl (cI, 6, .inl gc_means)), (ga_laneOf, .inl (cI, 40, .inl gc_laneOf)), (ga_sizeOf, .inl (cI, 40, .inl gc_sizeOf))]) [3, 0, 1, 2] rfl
        have hD9 := hD.sub (ws' := [(gh, .inr (5, [.int g_acts, g_kind, g_na, g_nb, g_nc, g_nd, g_ne, g_dropped, g_live, g_low, g_high, g_sites, g_nulls, g_there, g_lanes, g_least, g_most, g_placeLow, g_placeHigh, g_reached, g_mayThrow, .int g_status, .int g_hasRun, .int v_27, .int v_28, g_value, .ref ga_means, .ref ga_laneOf, .ref ga_sizeOf, g_cells, g_copied, .long g_state, .long g_joinedLow, .long g_joinedHigh, g_keptLow, g_keptHigh])), (ga_means, .inl (cI, 6, .inl gc_means)), (ga_laneOf, .inl (cI, 40, .inl gc_laneOf)), (ga_sizeOf, .inl (cI, 40, .inl gc_sizeOf))]) [3, 0, 1, 2] (by decide) rfl
        exact W.zret (v := 0) (ty := .boolean) hx hb hr rfl (fun t ht hW => ⟨⟨0, (v_27, v_28), rfl, ⟨(show kZ (0 : Int32) from (by decide)), (show (¬ (0 : Int32).toInt = 0 ∧ v_27.toInt = g_threw.toInt ∧ v_28.toInt = g_whereThrown.toInt ∧ 0 ≤ (gc_means (ra).toNatClampNeg).toInt ∧ 0 ≤ pa.toInt ∧ pa.toInt ≤ 11) ∨ ((0 : Int32).toInt = 0 ∧ 1 ≤ v_27.toInt ∧ v_28.toInt = ia.toInt) from (by omega))⟩, by rw [ht]; exact hP9, va_K.moved hW.alike hK, hD9⟩, hS.F ht⟩) hS.2.2 dX5_isPlace_78
      · -- no
        have k_29 : (1 : Int32).toInt = (0 : Int32).toInt := ci_eq c_29
        exfalso; omega

def v_X5_newArray : List Cond := .code yX5_newArray cX5_newArray 6 none :: ([.fieldLink RX5 78 "ArraySegmentsModel" "laneOf" "[I", .fieldLink RX5 81 "ArraySegmentsModel" "sizeOf" "[I", .fieldLink RX5 84 "ArraySegmentsModel" "cells" "[I", .fieldLink RX5 75 "ArraySegmentsModel" "means" "[I"] ++ (wsX50))
theorem inv_X5_newArray_X5 : ∀ w ∈ wsX50, w ∈ v_X5_newArray := fun _ h => List.mem_cons_of_mem _ (List.mem_append_right _ (h))
set_option maxRecDepth 20000 in
theorem gd_X5_newArray : gdL v_X5_newArray := gdC (gdW (by decide +kernel)) (gdA (gdW (by decide +kernel)) gd_wsX50)
abbrev sw_X5_newArray (cI cJ cZ : ClassId) (gh : Nat) (g_acts : Int32) (g_kind : Value) (g_na : Value) (g_nb : Value) (g_nc : Value) (g_nd : Value) (g_ne : Value) (g_dropped : Value) (g_live : Value) (g_low : Value) (g_high : Value) (g_sites : Value) (g_nulls : Value) (g_there : Value) (g_lanes : Value) (g_least : Value) (g_most : Value) (g_placeLow : Value) (g_placeHigh : Value) (g_reached : Value) (g_mayThrow : Value) (g_status : Int32) (g_hasRun : Int32) (g_threw : Int32) (g_whereThrown : Int32) (g_value : Value) (ga_means : Nat) (ga_laneOf : Nat) (ga_sizeOf : Nat) (ga_cells : Nat) (g_copied : Value) (g_state : Int64) (g_joinedLow : Int64) (g_joinedHigh : Int64) (g_keptLow : Value) (g_keptHigh : Value) (gc_means : Nat → Int32) (gc_laneOf : Nat → Int32) (gc_sizeOf : Nat → Int32) (gc_cells : Nat → Int32) (ia : Int32) (ra : Int32) (la : Int32) (na : Int32) : va_W := [(gh, .inr (5, [.int g_acts, g_kind, g_na, g_nb, g_nc, g_nd, g_ne, g_dropped, g_live, g_low, g_high, g_sites, g_nulls, g_there, g_lanes, g_least, g_most, g_placeLow, g_placeHigh, g_reached, g_mayThrow, .int g_status, .int g_hasRun, .int g_threw, .int g_whereThrown, g_value, .ref ga_means, .ref ga_laneOf, .ref ga_sizeOf, .ref ga_cells, g_copied, .long g_state, .long g_joinedLow, .long g_joinedHigh, g_keptLow, g_keptHigh])), (ga_means, .inl (cI, 6, .inl gc_means)), (ga_laneOf, .inl (cI, 40, .inl gc_laneOf)), (ga_sizeOf, .inl (cI, 40, .inl gc_sizeOf)), (ga_cells, .inl (cI, 480, .inl gc_cells))]
set_option maxHeartbeats 8000000 in
set_option maxRecDepth 100000 in
theorem s_X5_newArray (l : Launch) (dC : Nat → ClassId) (dI : Nat → Nat → Nat) (cI cJ cZ : ClassId) (gh : Nat) (g_acts : Int32) (g_kind : Value) (g_na : Value) (g_nb : Value) (g_nc : Value) (g_nd : Value) (g_ne : Value) (g_dropped : Value) (g_live : Value) (g_low : Value) (g_high : Value) (g_sites : Value) (g_nulls : Value) (g_there : Value) (g_lanes : Value) (g_least : Value) (g_most : Value) (g_placeLow : Value) (g_placeHigh : Value) (g_reached : Value) (g_mayThrow : Value) (g_status : Int32) (g_hasRun : Int32) (g_threw : Int32) (g_whereThrown : Int32) (g_value : Value) (ga_means : Nat) (ga_laneOf : Nat) (ga_sizeOf : Nat) (ga_cells : Nat) (g_copied : Value) (g_state : Int64) (g_joinedLow : Int64) (g_joinedHigh : Int64) (g_keptLow : Value) (g_keptHigh : Value) (gc_means : Nat → Int32) (gc_laneOf : Nat → Int32) (gc_sizeOf : Nat → Int32) (gc_cells : Nat → Int32) (ia : Int32) (ra : Int32) (la : Int32) (na : Int32) (sz : Nat) (q_g_hasRun : kZ g_hasRun) (h_gc_means : ∀ j : Nat, kSITE (gc_means j)) (h_gc_sizeOf : ∀ j : Nat, kR012 (gc_sizeOf j)) (hy_ia : 0 ≤ ia.toInt ∧ ia.toInt ≤ 39) (hy_ra : V6 ra) (hy_na : 0 ≤ na.toInt ∧ na.toInt ≤ 12) : Met l yX5_newArray v_X5_newArray ({ frames := 0, cells := 0, slots := 0, locals := 0 }) (va_Pc [.ref gh, .int ia, .int ra, .int la, .int na] (cPre dC dI cI cJ cZ sz (sw_X5_newArray cI cJ cZ gh g_acts g_kind g_na g_nb g_nc g_nd g_ne g_dropped g_live g_low g_high g_sites g_nulls g_there g_lanes g_least g_most g_placeLow g_placeHigh g_reached g_mayThrow g_status g_hasRun g_threw g_whereThrown g_value ga_means ga_laneOf ga_sizeOf ga_cells g_copied g_state g_joinedLow g_joinedHigh g_keptLow g_keptHigh gc_means gc_laneOf gc_sizeOf gc_cells ia ra la na))) (va_Qv (fun (u : (Nat → Int32) × (Nat → Int32) × (Nat → Int32) × (Nat → Int32)) => (∀ j : Nat, kSITE ((u.1) j)) ∧ (∀ j : Nat, kR012 ((u.2.2.1) j))) (fun (u : (Nat → Int32) × (Nat → Int32) × (Nat → Int32) × (Nat → Int32)) => cPost dC dI cI cJ cZ (va_A (sw_X5_newArray cI cJ cZ gh g_acts g_kind g_na g_nb g_nc g_nd g_ne g_dropped g_live g_low g_high g_sites g_nulls g_there g_lanes g_least g_most g_placeLow g_placeHigh g_reached g_mayThrow g_status g_hasRun g_threw g_whereThrown g_value ga_means ga_laneOf ga_sizeOf ga_cells g_copied g_state g_joinedLow g_joinedHigh g_keptLow g_keptHigh gc_means gc_laneOf gc_sizeOf gc_cells ia ra la na) sz) [(gh, .inr (5, [.int g_acts, g_kind, g_na, g_nb, g_nc, g_nd, g_ne, g_dropped, g_live, g_low, g_high, g_sites, g_nulls, g_there, g_lanes, g_least, g_most, g_placeLow, g_placeHigh, g_reached, g_mayThrow, .int g_status, .int g_hasRun, .int g_threw, .int g_whereThrown, g_value, .ref ga_means, .ref ga_laneOf, .ref ga_sizeOf, .ref ga_cells, g_copied, .long g_state, .long g_joinedLow, .long g_joinedHigh, g_keptLow, g_keptHigh])), (ga_means, .inl (cI, 6, .inl (u.1))), (ga_laneOf, .inl (cI, 40, .inl (u.2.1))), (ga_sizeOf, .inl (cI, 40, .inl (u.2.2.1))), (ga_cells, .inl (cI, 480, .inl (u.2.2.2)))]) (va_A (sw_X5_newArray cI cJ cZ gh g_acts g_kind g_na g_nb g_nc g_nd g_ne g_dropped g_live g_low g_high g_sites g_nulls g_there g_lanes g_least g_most g_placeLow g_placeHigh g_reached g_mayThrow g_status g_hasRun g_threw g_whereThrown g_value ga_means ga_laneOf ga_sizeOf ga_cells g_copied g_state g_joinedLow g_joinedHigh g_keptLow g_keptHigh gc_means gc_laneOf gc_sizeOf gc_cells ia ra la na) sz)) 0 0 (va_A (sw_X5_newArray cI cJ cZ gh g_acts g_kind g_na g_nb g_nc g_nd g_ne g_dropped g_live g_low g_high g_sites g_nulls g_there g_lanes g_least g_most g_placeLow g_placeHigh g_reached g_mayThrow g_status g_hasRun g_threw g_whereThrown g_value ga_means ga_laneOf ga_sizeOf ga_cells g_copied g_state g_joinedLow g_joinedHigh g_keptLow g_keptHigh gc_means gc_laneOf gc_sizeOf gc_cells ia ra la na) sz) := by
  refine Met.ofW (cc := cX5_newArray) (maxL := 6) (ret := none) (by decide) rfl ?_
  intro p e s m args below meth c s₁ B hml hv
  obtain ⟨rfl, hsz, hP, hK, hD0, hN⟩ := hv
  have hx := B.exec
  have hb := B.bytes
  have hr := B.returns
  have hts := atoms_spec (ws := v_X5_newArray) B.pre
  have hown : s.vm.findClass RX5 = some m.cls := findClass_of_methodNamed B.named
  have hlocks := B.notSynchronized
  subst hsz
  have hD := hD0.self (sz := s.heap.size)
  generalize hAe : va_A (sw_X5_newArray cI cJ cZ gh g_acts g_kind g_na g_nb g_nc g_nd g_ne g_dropped g_live g_low g_high g_sites g_nulls g_there g_lanes g_least g_most g_placeLow g_placeHigh g_reached g_mayThrow g_status g_hasRun g_threw g_whereThrown g_value ga_means ga_laneOf ga_sizeOf ga_cells g_copied g_state g_joinedLow g_joinedHigh g_keptLow g_keptHigh gc_means gc_laneOf gc_sizeOf gc_cells ia ra la na) s.heap.size = A at hD ⊢
  have hA : ∀ q : Nat, s.heap.size ≤ q → A q := fun q h => by rw [← hAe]; exact Or.inr h
  clear hAe hD0
  have hS : va_S A s.heap s.heap [] := va_S.rf
  replace hP : va_P (dC, dI) vwCl [(gh, .inr (5, [.int g_acts, g_kind, g_na, g_nb, g_nc, g_nd, g_ne, g_dropped, g_live, g_low, g_high, g_sites, g_nulls, g_there, g_lanes, g_least, g_most, g_placeLow, g_placeHigh, g_reached, g_mayThrow, .int g_status, .int g_hasRun, .int g_threw, .int g_whereThrown, g_value, .ref ga_means, .ref ga_laneOf, .ref ga_sizeOf, .ref ga_cells, g_copied, .long g_state, .long g_joinedLow, .long g_joinedHigh, g_keptLow, g_keptHigh])), (ga_means, .inl (cI, 6, .inl gc_means)), (ga_laneOf, .inl (cI, 40, .inl gc_laneOf)), (ga_sizeOf, .inl (cI, 40, .inl gc_sizeOf)), (ga_cells, .inl (cI, 480, .inl gc_cells))] s.heap := hP
  replace hD : va_D A [(gh, .inr (5, [.int g_acts, g_kind, g_na, g_nb, g_nc, g_nd, g_ne, g_dropped, g_live, g_low, g_high, g_sites, g_nulls, g_there, g_lanes, g_least, g_most, g_placeLow, g_placeHigh, g_reached, g_mayThrow, .int g_status, .int g_hasRun, .int g_threw, .int g_whereThrown, g_value, .ref ga_means, .ref ga_laneOf, .ref ga_sizeOf, .ref ga_cells, g_copied, .long g_state, .long g_joinedLow, .long g_joinedHigh, g_keptLow, g_keptHigh])), (ga_means, .inl (cI, 6, .inl gc_means)), (ga_laneOf, .inl (cI, 40, .inl gc_laneOf)), (ga_sizeOf, .inl (cI, 40, .inl gc_sizeOf)), (ga_cells, .inl (cI, 480, .inl gc_cells))] := hD
  have hl := lv_entry ([.ref gh, .int ia, .int ra, .int la, .int na]) (n := 6) (Nat.le_of_ble_eq_true rfl)
  rw [lg_entry_eq]
  generalize (lg_sl ([.ref gh, .int ia, .int ra, .int la, .int na]) ++ List.replicate (6 - (lg_sl ([.ref gh, .int ia, .int ra, .int la, .int na])).length) Slot.unset).toArray = ls at hl ⊢
  replace hl : lv_has ls 6 [(0, .ref gh), (1, .int ia), (2, .int ra), (3, .int la), (4, .int na)] := hl
  have z_0 : (0 : Int32).toInt = 0 := by decide
  have z_1 : (1 : Int32).toInt = 1 := by decide
  have z_12 : (12 : Int32).toInt = 12 := by decide
  refine lv_aload_n hx hb dX5_newArray_0 rfl (lv_at hl 0 rfl) ?_
  refine va_get (D := (dC, dI)) (ci := 5) (v := .ref ga_laneOf) (C := RX5) (T := TX5) (N := 36) hx hb hts inv_X5_newArray_X5 hown hK hP 0 rfl rfl 27 (by decide) (hts (.fieldLink RX5 78 "ArraySegmentsModel" "laneOf" "[I") (List.mem_of_getElem? (i := 1) rfl)) (fun _ h9 => h9) rfl dX5_newArray_1 ?_
  refine lv_iload_n hx hb dX5_newArray_4 rfl (lv_at hl 1 rfl) ?_
  refine lv_iload_n hx hb dX5_newArray_5 rfl (lv_at hl 3 rfl) ?_
  refine sf_iast kT hx hb hK hP hD hS 2 0 rfl rfl (fun _ => trivial) trivial (vp_in_iff.mpr ⟨by omega, by omega⟩) dX5_newArray_6 (fun f_1 h_f_1 e_f_1 H_2 locs_2 hP1 hD1 hS1 => ?_)
  replace hP : va_P (dC, dI) vwCl [(gh, .inr (5, [.int g_acts, g_kind, g_na, g_nb, g_nc, g_nd, g_ne, g_dropped, g_live, g_low, g_high, g_sites, g_nulls, g_there, g_lanes, g_least, g_most, g_placeLow, g_placeHigh, g_reached, g_mayThrow, .int g_status, .int g_hasRun, .int g_threw, .int g_whereThrown, g_value, .ref ga_means, .ref ga_laneOf, .ref ga_sizeOf, .ref ga_cells, g_copied, .long g_state, .long g_joinedLow, .long g_joinedHigh, g_keptLow, g_keptHigh])), (ga_means, .inl (cI, 6, .inl gc_means)), (ga_laneOf, .inl (cI, 40, .inl f_1)), (ga_sizeOf, .inl (cI, 40, .inl gc_sizeOf)), (ga_cells, .inl (cI, 480, .inl gc_cells))] H_2 := hP1
  replace hD : va_D A [(gh, .inr (5, [.int g_acts, g_kind, g_na, g_nb, g_nc, g_nd, g_ne, g_dropped, g_live, g_low, g_high, g_sites, g_nulls, g_there, g_lanes, g_least, g_most, g_placeLow, g_placeHigh, g_reached, g_mayThrow, .int g_status, .int g_hasRun, .int g_threw, .int g_whereThrown, g_value, .ref ga_means, .ref ga_laneOf, .ref ga_sizeOf, .ref ga_cells, g_copied, .long g_state, .long g_joinedLow, .long g_joinedHigh, g_keptLow, g_keptHigh])), (ga_means, .inl (cI, 6, .inl gc_means)), (ga_laneOf, .inl (cI, 40, .inl f_1)), (ga_sizeOf, .inl (cI, 40, .inl gc_sizeOf)), (ga_cells, .inl (cI, 480, .inl gc_cells))] := hD1
  replace hS := hS1
  clear hP1 hD1 hS1
  refine lv_aload_n hx hb dX5_newArray_7 rfl (lv_at hl 0 rfl) ?_
  refine va_get (D := (dC, dI)) (ci := 5) (v := .ref ga_sizeOf) (C := RX5) (T := TX5) (N := 36) hx hb hts inv_X5_newArray_X5 hown hK hP 0 rfl rfl 28 (by decide) (hts (.fieldLink RX5 81 "ArraySegmentsModel" "sizeOf" "[I") (List.mem_of_getElem? (i := 2) rfl)) (fun _ h9 => h9) rfl dX5_newArray_8 ?_
  refine lv_iload_n hx hb dX5_newArray_11 rfl (lv_at hl 1 rfl) ?_
  refine lv_iload hx hb dX5_newArray_12 (lv_at hl 4 rfl) ?_
  refine sf_iast kR012 hx hb hK hP hD hS 3 0 rfl rfl h_gc_sizeOf (show kR012 na from by omega) (vp_in_iff.mpr ⟨by omega, by omega⟩) dX5_newArray_14 (fun f_3 h_f_3 e_f_3 H_4 locs_4 hP1 hD1 hS1 => ?_)
  replace hP : va_P (dC, dI) vwCl [(gh, .inr (5, [.int g_acts, g_kind, g_na, g_nb, g_nc, g_nd, g_ne, g_dropped, g_live, g_low, g_high, g_sites, g_nulls, g_there, g_lanes, g_least, g_most, g_placeLow, g_placeHigh, g_reached, g_mayThrow, .int g_status, .int g_hasRun, .int g_threw, .int g_whereThrown, g_value, .ref ga_means, .ref ga_laneOf, .ref ga_sizeOf, .ref ga_cells, g_copied, .long g_state, .long g_joinedLow, .long g_joinedHigh, g_keptLow, g_keptHigh])), (ga_means, .inl (cI, 6, .inl gc_means)), (ga_laneOf, .inl (cI, 40, .inl f_1)), (ga_sizeOf, .inl (cI, 40, .inl f_3)), (ga_cells, .inl (cI, 480, .inl gc_cells))] H_4 := hP1
  replace hD : va_D A [(gh, .inr (5, [.int g_acts, g_kind, g_na, g_nb, g_nc, g_nd, g_ne, g_dropped, g_live, g_low, g_high, g_sites, g_nulls, g_there, g_lanes, g_least, g_most, g_placeLow, g_placeHigh, g_reached, g_mayThrow, .int g_status, .int g_hasRun, .int g_threw, .int g_whereThrown, g_value, .ref ga_means, .ref ga_laneOf, .ref ga_sizeOf, .ref ga_cells, g_copied, .long g_state, .long g_joinedLow, .long g_joinedHigh, g_keptLow, g_keptHigh])), (ga_means, .inl (cI, 6, .inl gc_means)), (ga_laneOf, .inl (cI, 40, .inl f_1)), (ga_sizeOf, .inl (cI, 40, .inl f_3)), (ga_cells, .inl (cI, 480, .inl gc_cells))] := hD1
  replace hS := hS1
  clear hP1 hD1 hS1
  refine lv_iconst (v := 0) hx hb dX5_newArray_15 (by decide) ?_
  refine lv_istore (lv' := [(5, .int 0), (0, .ref gh), (1, .int ia), (2, .int ra), (3, .int la), (4, .int na)]) hx hb dX5_newArray_16 hl (by decide) rfl (fun ls1 hl1 => ?_)
  replace hl := hl1; clear hl1
  refine my_wloop (S := Int32 × (Nat → Int32)) (fun u => (0 ≤ (u.1).toInt ∧ (u.1).toInt ≤ 12)) (fun u => (12 - (u.1).toInt).toNat) (fun u => [(gh, .inr (5, [.int g_acts, g_kind, g_na, g_nb, g_nc, g_nd, g_ne, g_dropped, g_live, g_low, g_high, g_sites, g_nulls, g_there, g_lanes, g_least, g_most, g_placeLow, g_placeHigh, g_reached, g_mayThrow, .int g_status, .int g_hasRun, .int g_threw, .int g_whereThrown, g_value, .ref ga_means, .ref ga_laneOf, .ref ga_sizeOf, .ref ga_cells, g_copied, .long g_state, .long g_joinedLow, .long g_joinedHigh, g_keptLow, g_keptHigh])), (ga_means, .inl (cI, 6, .inl gc_means)), (ga_laneOf, .inl (cI, 40, .inl f_1)), (ga_sizeOf, .inl (cI, 40, .inl f_3)), (ga_cells, .inl (cI, 480, .inl (u.2)))]) (fun u => [(5, .int (u.1)), (0, .ref gh), (1, .int ia), (2, .int ra), (3, .int la), (4, .int na)]) (H0 := s.heap) (A := A) (D := (dC, dI)) (cl := vwCl) ((0 : Int32), gc_cells) (show (0 ≤ (0 : Int32).toInt ∧ (0 : Int32).toInt ≤ 12) from ⟨by omega, by omega⟩) (by exact hP) (by exact hD) hS (by exact hl) (fun u_5 hu_5 ih_5 H_5 locs_5 ls1 hP1 hD1 hS1 hl1 => ?_)
  obtain ⟨v_6, f_7⟩ := u_5
  replace hu_5 : (0 ≤ v_6.toInt ∧ v_6.toInt ≤ 12) := hu_5
  have q_v_6 := hu_5
  replace hP : va_P (dC, dI) vwCl [(gh, .inr (5, [.int g_acts, g_kind, g_na, g_nb, g_nc, g_nd, g_ne, g_dropped, g_live, g_low, g_high, g_sites, g_nulls, g_there, g_lanes, g_least, g_most, g_placeLow, g_placeHigh, g_reached, g_mayThrow, .int g_status, .int g_hasRun, .int g_threw, .int g_whereThrown, g_value, .ref ga_means, .ref ga_laneOf, .ref ga_sizeOf, .ref ga_cells, g_copied, .long g_state, .long g_joinedLow, .long g_joinedHigh, g_keptLow, g_keptHigh])), (ga_means, .inl (cI, 6, .inl gc_means)), (ga_laneOf, .inl (cI, 40, .inl f_1)), (ga_sizeOf, .inl (cI, 40, .inl f_3)), (ga_cells, .inl (cI, 480, .inl f_7))] H_5 := hP1
  replace hD : va_D A [(gh, .inr (5, [.int g_acts, g_kind, g_na, g_nb, g_nc, g_nd, g_ne, g_dropped, g_live, g_low, g_high, g_sites, g_nulls, g_there, g_lanes, g_least, g_most, g_placeLow, g_placeHigh, g_reached, g_mayThrow, .int g_status, .int g_hasRun, .int g_threw, .int g_whereThrown, g_value, .ref ga_means, .ref ga_laneOf, .ref ga_sizeOf, .ref ga_cells, g_copied, .long g_state, .long g_joinedLow, .long g_joinedHigh, g_keptLow, g_keptHigh])), (ga_means, .inl (cI, 6, .inl gc_means)), (ga_laneOf, .inl (cI, 40, .inl f_1)), (ga_sizeOf, .inl (cI, 40, .inl f_3)), (ga_cells, .inl (cI, 480, .inl f_7))] := hD1
  replace hS := hS1
  clear hP1 hD1 hS1
  replace hl : lv_has ls1 6 [(5, .int v_6), (0, .ref gh), (1, .int ia), (2, .int ra), (3, .int la), (4, .int na)] := hl1
  clear hl1
  refine lv_iload hx hb dX5_newArray_18 (lv_at hl 0 rfl) ?_
  refine lv_bipush (v := 12) hx hb dX5_newArray_20 (by decide) ?_
  refine lv_icmp_ge (tgt := 44) hx hb dX5_newArray_22 (by decide) (fun c_8 => ?_) (fun c_8 => ?_)
  · -- yes
    have k_8 : (12 : Int32).toInt ≤ v_6.toInt := ci_ge c_8
    refine lv_aload_n hx hb dX5_newArray_44 rfl (lv_at hl 1 rfl) ?_
    refine va_get (D := (dC, dI)) (ci := 5) (v := .ref ga_means) (C := RX5) (T := TX5) (N := 36) hx hb hts inv_X5_newArray_X5 hown hK hP 0 rfl rfl 26 (by decide) (hts (.fieldLink RX5 75 "ArraySegmentsModel" "means" "[I") (List.mem_of_getElem? (i := 4) rfl)) (fun _ h9 => h9) rfl dX5_newArray_45 ?_
    refine lv_iload_n hx hb dX5_newArray_48 rfl (lv_at hl 3 rfl) ?_
    refine lv_iload_n hx hb dX5_newArray_49 rfl (lv_at hl 2 rfl) ?_
    refine sf_iast kSITE hx hb hK hP hD hS 1 0 rfl rfl h_gc_means (show kSITE ia from by omega) (vp_in_iff.mpr ⟨by omega, by omega⟩) dX5_newArray_50 (fun f_9 h_f_9 e_f_9 H_10 locs_10 hP1 hD1 hS1 => ?_)
    replace hP : va_P (dC, dI) vwCl [(gh, .inr (5, [.int g_acts, g_kind, g_na, g_nb, g_nc, g_nd, g_ne, g_dropped, g_live, g_low, g_high, g_sites, g_nulls, g_there, g_lanes, g_least, g_most, g_placeLow, g_placeHigh, g_reached, g_mayThrow, .int g_status, .int g_hasRun, .int g_threw, .int g_whereThrown, g_value, .ref ga_means, .ref ga_laneOf, .ref ga_sizeOf, .ref ga_cells, g_copied, .long g_state, .long g_joinedLow, .long g_joinedHigh, g_keptLow, g_keptHigh])), (ga_means, .inl (cI, 6, .inl f_9)), (ga_laneOf, .inl (cI, 40, .inl f_1)), (ga_sizeOf, .inl (cI, 40, .inl f_3)), (ga_cells, .inl (cI, 480, .inl f_7))] H_10 := hP1
    replace hD : va_D A [(gh, .inr (5, [.int g_acts, g_kind, g_na, g_nb, g_nc, g_nd, g_ne, g_dropped, g_live, g_low, g_high, g_sites, g_nulls, g_there, g_lanes, g_least, g_most, g_placeLow, g_placeHigh, g_reached, g_mayThrow, .int g_status, .int g_hasRun, .int g_threw, .int g_whereThrown, g_value, .ref ga_means, .ref ga_laneOf, .ref ga_sizeOf, .ref ga_cells, g_copied, .long g_state, .long g_joinedLow, .long g_joinedHigh, g_keptLow, g_keptHigh])), (ga_means, .inl (cI, 6, .inl f_9)), (ga_laneOf, .inl (cI, 40, .inl f_1)), (ga_sizeOf, .inl (cI, 40, .inl f_3)), (ga_cells, .inl (cI, 480, .inl f_7))] := hD1
    replace hS := hS1
    clear hP1 hD1 hS1
    have hP9 := hP.sub (ws' := [(gh, .inr (5, [.int g_acts, g_kind, g_na, g_nb, g_nc, g_nd, g_ne, g_dropped, g_live, g_low, g_high, g_sites, g_nulls, g_there, g_lanes, g_least, g_most, g_placeLow, g_placeHigh, g_reached, g_mayThrow, .int g_status, .int g_hasRun, .int g_threw, .int g_whereThrown, g_value, .ref ga_means, .ref ga_laneOf, .ref ga_sizeOf, .ref ga_cells, g_copied, .long g_state, .long g_joinedLow, .long g_joinedHigh, g_keptLow, g_keptHigh])), (ga_means, .inl (cI, 6, .inl f_9)), (ga_laneOf, .inl (cI, 40, .inl f_1)), (ga_sizeOf, .inl (cI, 40, .inl f_3)), (ga_cells, .inl (cI, 480, .inl f_7))]) [0, 1, 2, 3, 4] rfl
    have hD9 := hD.sub (ws' := [(gh, .inr (5, [.int g_acts, g_kind, g_na, g_nb, g_nc, g_nd, g_ne, g_dropped, g_live, g_low, g_high, g_sites, g_nulls, g_there, g_lanes, g_least, g_most, g_placeLow, g_placeHigh, g_reached, g_mayThrow, .int g_status, .int g_hasRun, .int g_threw, .int g_whereThrown, g_value, .ref ga_means, .ref ga_laneOf, .ref ga_sizeOf, .ref ga_cells, g_copied, .long g_state, .long g_joinedLow, .long g_joinedHigh, g_keptLow, g_keptHigh])), (ga_means, .inl (cI, 6, .inl f_9)), (ga_laneOf, .inl (cI, 40, .inl f_1)), (ga_sizeOf, .inl (cI, 40, .inl f_3)), (ga_cells, .inl (cI, 480, .inl f_7))]) [0, 1, 2, 3, 4] (by decide) rfl
    exact W.vret hx hb hr (fun t ht hW => ⟨⟨(f_9, f_1, f_3, f_7), rfl, ⟨(show ∀ j : Nat, kSITE (f_9 j) from h_f_9), (show ∀ j : Nat, kR012 (f_3 j) from h_f_3)⟩, by rw [ht]; exact hP9, va_K.moved hW.alike hK, hD9⟩, hS.F ht⟩) hS.2.2 dX5_newArray_51
  · -- no
    have k_8 : v_6.toInt < (12 : Int32).toInt := ci_nge c_8
    refine lv_aload_n hx hb dX5_newArray_25 rfl (lv_at hl 1 rfl) ?_
    refine va_get (D := (dC, dI)) (ci := 5) (v := .ref ga_cells) (C := RX5) (T := TX5) (N := 36) hx hb hts inv_X5_newArray_X5 hown hK hP 0 rfl rfl 29 (by decide) (hts (.fieldLink RX5 84 "ArraySegmentsModel" "cells" "[I") (List.mem_of_getElem? (i := 3) rfl)) (fun _ h9 => h9) rfl dX5_newArray_26 ?_
    refine lv_bipush (v := 12) hx hb dX5_newArray_29 (by decide) ?_
    refine lv_iload_n hx hb dX5_newArray_31 rfl (lv_at hl 2 rfl) ?_
    refine sf_imul (w := 12) (z := ia.toInt) hx hb dX5_newArray_32 (by decide) rfl ⟨by omega, by omega⟩ (fun v_11 q_v_11 => ?_)
    refine lv_iload hx hb dX5_newArray_33 (lv_at hl 0 rfl) ?_
    refine sf_iadd hx hb dX5_newArray_35 ⟨by omega, by omega⟩ (fun v_12 q_v_12 => ?_)
    refine lv_iconst (v := 0) hx hb dX5_newArray_36 (by decide) ?_
    refine sf_iast kT hx hb hK hP hD hS 4 0 rfl rfl (fun _ => trivial) trivial (vp_in_iff.mpr ⟨by omega, by omega⟩) dX5_newArray_37 (fun f_13 h_f_13 e_f_13 H_14 locs_14 hP1 hD1 hS1 => ?_)
    replace hP : va_P (dC, dI) vwCl [(gh, .inr (5, [.int g_acts, g_kind, g_na, g_nb, g_nc, g_nd, g_ne, g_dropped, g_live, g_low, g_high, g_sites, g_nulls, g_there, g_lanes, g_least, g_most, g_placeLow, g_placeHigh, g_reached, g_mayThrow, .int g_status, .int g_hasRun, .int g_threw, .int g_whereThrown, g_value, .ref ga_means, .ref ga_laneOf, .ref ga_sizeOf, .ref ga_cells, g_copied, .long g_state, .long g_joinedLow, .long g_joinedHigh, g_keptLow, g_keptHigh])), (ga_means, .inl (cI, 6, .inl gc_means)), (ga_laneOf, .inl (cI, 40, .inl f_1)), (ga_sizeOf, .inl (cI, 40, .inl f_3)), (ga_cells, .inl (cI, 480, .inl f_13))] H_14 := hP1
    replace hD : va_D A [(gh, .inr (5, [.int g_acts, g_kind, g_na, g_nb, g_nc, g_nd, g_ne, g_dropped, g_live, g_low, g_high, g_sites, g_nulls, g_there, g_lanes, g_least, g_most, g_placeLow, g_placeHigh, g_reached, g_mayThrow, .int g_status, .int g_hasRun, .int g_threw, .int g_whereThrown, g_value, .ref ga_means, .ref ga_laneOf, .ref ga_sizeOf, .ref ga_cells, g_copied, .long g_state, .long g_joinedLow, .long g_joinedHigh, g_keptLow, g_keptHigh])), (ga_means, .inl (cI, 6, .inl gc_means)), (ga_laneOf, .inl (cI, 40, .inl f_1)), (ga_sizeOf, .inl (cI, 40, .inl f_3)), (ga_cells, .inl (cI, 480, .inl f_13))] := hD1
    replace hS := hS1
    clear hP1 hD1 hS1
    refine sf_iinc hx hb dX5_newArray_38 hl (k := 0) (x := v_6) (w := 1) rfl (by decide) (by decide) ⟨by omega, by omega⟩ (fun v_15 q_v_15 ls1 hl1 => ?_)
    replace hl : lv_has ls1 6 [(5, .int v_15), (0, .ref gh), (1, .int ia), (2, .int ra), (3, .int la), (4, .int na)] := hl1
    clear hl1
    refine lv_goto (tgt := 18) hx hb dX5_newArray_41 (by decide) ?_
    exact ih_5 (v_15, f_13) (show (0 ≤ v_15.toInt ∧ v_15.toInt ≤ 12) from ⟨by omega, by omega⟩) (by show (12 - v_15.toInt).toNat < (12 - v_6.toInt).toNat; omega) _ _ _ (hP.sub [0, 1, 2, 3, 4] rfl) (hD.sub [0, 1, 2, 3, 4] (by decide) rfl) hS (lv_sub hl [0, 1, 2, 3, 4, 5] rfl)
