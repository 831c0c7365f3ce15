def v_X5_isAct : List Cond := .code yX5_isAct cX5_isAct 6 (some .boolean) :: ([.methodLink RX5 115 yX5_isName, .static yX5_isName, .initialized RX5, .methodLink RX5 119 yX5_isNumber, .static yX5_isNumber, .methodLink RX5 122 yX5_isLane, .static yX5_isLane] ++ (v_X5_isName ++ (v_X5_isNumber ++ (v_X5_isLane))))
theorem im_X5_isAct_X5_isName : ∀ w ∈ v_X5_isName, w ∈ v_X5_isAct := fun _ h => List.mem_cons_of_mem _ (List.mem_append_right _ (List.mem_append_left _ h))
theorem im_X5_isAct_X5_isNumber : ∀ w ∈ v_X5_isNumber, w ∈ v_X5_isAct := fun _ h => List.mem_cons_of_mem _ (List.mem_append_right _ (List.mem_append_right _ (List.mem_append_left _ h)))
theorem im_X5_isAct_X5_isLane : ∀ w ∈ v_X5_isLane, w ∈ v_X5_isAct := fun _ h => List.mem_cons_of_mem _ (List.mem_append_right _ (List.mem_append_right _ (List.mem_append_right _ (h))))
set_option maxRecDepth 20000 in
theorem gd_X5_isAct : gdL v_X5_isAct := gdC (gdW (by decide +kernel)) (gdA (gdW (by decide +kernel)) (gdA gd_X5_isName (gdA gd_X5_isNumber gd_X5_isLane)))
set_option maxRecDepth 20000 in
theorem h_X5_isAct_X5_isName_115 : GoodIn v_X5_isAct (va_wsS RX5 115 yX5_isName v_X5_isName) := gdI [1, 2, 3] rfl (by decide +kernel) (im_X5_isAct_X5_isName) gd_X5_isName
set_option maxRecDepth 20000 in
theorem h_X5_isAct_X5_isNumber_119 : GoodIn v_X5_isAct (va_wsS RX5 119 yX5_isNumber v_X5_isNumber) := gdI [4, 5, 3] rfl (by decide +kernel) (im_X5_isAct_X5_isNumber) gd_X5_isNumber
set_option maxRecDepth 20000 in
theorem h_X5_isAct_X5_isLane_122 : GoodIn v_X5_isAct (va_wsS RX5 122 yX5_isLane v_X5_isLane) := gdI [6, 7, 3] rfl (by decide +kernel) (im_X5_isAct_X5_isLane) gd_X5_isLane
set_option maxHeartbeats 8000000 in
set_option maxRecDepth 100000 in
theorem s_X5_isAct (l : Launch) (ka : Int32) (aa : Int32) (ba : Int32) (ca : Int32) (da : Int32) (ea : Int32) : Met l yX5_isAct v_X5_isAct ({ frames := 1, cells := 0, slots := 0, locals := 20 }) (va_Pc [.int ka, .int aa, .int ba, .int ca, .int da, .int ea] (fun _ => True)) (vp_Si (fun (r : Int32) => (two r (okP ka aa ba ca da ea) 1 0))) 0 0 (fun _ => False) := by
  refine Met.ofW (cc := cX5_isAct) (maxL := 6) (ret := (some .boolean)) (by decide) rfl ?_
  intro p e s m args below meth c s₁ B hml hv
  obtain ⟨rfl, -⟩ := hv
  have hx := B.exec
  have hb := B.bytes
  have hr := B.returns
  have hts := atoms_spec (ws := v_X5_isAct) B.pre
  have hown : s.vm.findClass RX5 = some m.cls := findClass_of_methodNamed B.named
  have hlocks := B.notSynchronized
  have hl := lv_entry ([.int ka, .int aa, .int ba, .int ca, .int da, .int ea]) (n := 6) (Nat.le_of_ble_eq_true rfl)
  rw [lg_entry_eq]
  generalize (lg_sl ([.int ka, .int aa, .int ba, .int ca, .int da, .int ea]) ++ List.replicate (6 - (lg_sl ([.int ka, .int aa, .int ba, .int ca, .int da, .int ea])).length) Slot.unset).toArray = ls at hl ⊢
  replace hl : lv_has ls 6 [(0, .int ka), (1, .int aa), (2, .int ba), (3, .int ca), (4, .int da), (5, .int ea)] := hl
  have z_0 : (0 : Int32).toInt = 0 := by decide
  have z_1 : (1 : Int32).toInt = 1 := by decide
  have z_10 : (10 : Int32).toInt = 10 := by decide
  refine lv_iload_n hx hb dX5_isAct_0 rfl (lv_at hl 0 rfl) ?_
  have sw_1 : ka.toInt = 0 ∨ ka.toInt = 1 ∨ ka.toInt = 2 ∨ ka.toInt = 3 ∨ ka.toInt = 4 ∨ ka.toInt = 5 ∨ ka.toInt = 6 ∨ ka.toInt = 7 ∨ ka.toInt = 8 ∨ ka.toInt = 9 ∨ ka.toInt = 10 ∨ ka.toInt = 11 ∨ ka.toInt = 12 ∨ ka.toInt = 13 ∨ ka.toInt = 14 ∨ (ka.toInt < 0 ∨ 14 < ka.toInt) := by omega
  rcases sw_1 with sv_1 | sv_1 | sv_1 | sv_1 | sv_1 | sv_1 | sv_1 | sv_1 | sv_1 | sv_1 | sv_1 | sv_1 | sv_1 | sv_1 | sv_1 | sv_1
  · -- case 0
    refine lv_tableIn (tgt := 76) (off := 75) hx hb dX5_isAct_1 (by omega) (by omega) (by rw [sv_1]; rfl) (by decide) ?_
    refine lv_iload_n hx hb dX5_isAct_76 rfl (lv_at hl 1 rfl) ?_
    refine vp_callSi (va_runS (As := [.int aa]) (rest := []) ⟨hx, hb, hml, hown, hts⟩ (s_X5_isName l aa) (va_cwS 1 hts h_X5_isAct_X5_isName_115 rfl rfl rfl (by decide +kernel) ⟨Nat.le_of_ble_eq_true rfl, Nat.le_of_ble_eq_true rfl⟩) ⟨fun _ _ _ _ q => q, fun _ _ _ => ⟨rfl, trivial⟩⟩ rfl rfl hl.1 rfl (lv_room (Nat.le_of_ble_eq_true rfl)) dX5_isAct_77 ⟨Nat.le_of_ble_eq_true rfl, Nat.le_of_ble_eq_true rfl⟩).run (fun r_2 hw_2 => ?_)
    replace hw_2 : (two r_2 (V6 aa) 1 0) := hw_2
    have q_r_2 := hw_2
    refine lv_if_eq (tgt := 94) hx hb dX5_isAct_80 (by decide) (fun c_3 => ?_) (fun c_3 => ?_)
    · -- yes
      have k_3 : r_2.toInt = (0 : Int32).toInt := ci_eq c_3
      have kt_3 : ¬ (V6 aa) := two_z q_r_2 c_3
      refine lv_iconst (v := 0) hx hb dX5_isAct_94 (by decide) ?_
      exact W.zret (v := 0) (ty := .boolean) hx hb hr rfl (fun t ht hW => ⟨0, rfl, (show two (0 : Int32) (okP ka aa ba ca da ea) 1 0 from (Or.inr ⟨rfl, fun h9 => by have h8 := (okP_0 sv_1).mp h9; omega⟩)), ht⟩) (by intro q hq; cases hq) dX5_isAct_95
    · -- no
      have k_3 : ¬ r_2.toInt = (0 : Int32).toInt := ci_ne c_3
      have kt_3 : V6 aa := two_nz q_r_2 c_3
      refine lv_iload_n hx hb dX5_isAct_83 rfl (lv_at hl 2 rfl) ?_
      refine vp_callSi (va_runS (As := [.int ba]) (rest := []) ⟨hx, hb, hml, hown, hts⟩ (s_X5_isNumber l ba) (va_cwS 1 hts h_X5_isAct_X5_isNumber_119 rfl rfl rfl (by decide +kernel) ⟨Nat.le_of_ble_eq_true rfl, Nat.le_of_ble_eq_true rfl⟩) ⟨fun _ _ _ _ q => q, fun _ _ _ => ⟨rfl, trivial⟩⟩ rfl rfl hl.1 rfl (lv_room (Nat.le_of_ble_eq_true rfl)) dX5_isAct_84 ⟨Nat.le_of_ble_eq_true rfl, Nat.le_of_ble_eq_true rfl⟩).run (fun r_4 hw_4 => ?_)
      replace hw_4 : (two r_4 (VN ba) 1 0) := hw_4
      have q_r_4 := hw_4
      refine lv_if_eq (tgt := 94) hx hb dX5_isAct_87 (by decide) (fun c_5 => ?_) (fun c_5 => ?_)
      · -- yes
        have k_5 : r_4.toInt = (0 : Int32).toInt := ci_eq c_5
        have kt_5 : ¬ (VN ba) := two_z q_r_4 c_5
        refine lv_iconst (v := 0) hx hb dX5_isAct_94 (by decide) ?_
        exact W.zret (v := 0) (ty := .boolean) hx hb hr rfl (fun t ht hW => ⟨0, rfl, (show two (0 : Int32) (okP ka aa ba ca da ea) 1 0 from (Or.inr ⟨rfl, fun h9 => by have h8 := (okP_0 sv_1).mp h9; omega⟩)), ht⟩) (by intro q hq; cases hq) dX5_isAct_95
      · -- no
        have k_5 : ¬ r_4.toInt = (0 : Int32).toInt := ci_ne c_5
        have kt_5 : VN ba := two_nz q_r_4 c_5
        refine lv_iconst (v := 1) hx hb dX5_isAct_90 (by decide) ?_
        refine lv_goto (tgt := 95) hx hb dX5_isAct_91 (by decide) ?_
        exact W.zret (v := 1) (ty := .boolean) hx hb hr rfl (fun t ht hW => ⟨1, rfl, (show two (1 : Int32) (okP ka aa ba ca da ea) 1 0 from (Or.inl ⟨rfl, (okP_0 sv_1).mpr (by omega)⟩)), ht⟩) (by intro q hq; cases hq) dX5_isAct_95
  · -- case 1
    refine lv_tableIn (tgt := 96) (off := 95) hx hb dX5_isAct_1 (by omega) (by omega) (by rw [sv_1]; rfl) (by decide) ?_
    refine lv_iload_n hx hb dX5_isAct_96 rfl (lv_at hl 1 rfl) ?_
    refine vp_callSi (va_runS (As := [.int aa]) (rest := []) ⟨hx, hb, hml, hown, hts⟩ (s_X5_isName l aa) (va_cwS 1 hts h_X5_isAct_X5_isName_115 rfl rfl rfl (by decide +kernel) ⟨Nat.le_of_ble_eq_true rfl, Nat.le_of_ble_eq_true rfl⟩) ⟨fun _ _ _ _ q => q, fun _ _ _ => ⟨rfl, trivial⟩⟩ rfl rfl hl.1 rfl (lv_room (Nat.le_of_ble_eq_true rfl)) dX5_isAct_97 ⟨Nat.le_of_ble_eq_true rfl, Nat.le_of_ble_eq_true rfl⟩).run (fun r_6 hw_6 => ?_)
    replace hw_6 : (two r_6 (V6 aa) 1 0) := hw_6
    have q_r_6 := hw_6
    refine lv_if_eq (tgt := 126) hx hb dX5_isAct_100 (by decide) (fun c_7 => ?_) (fun c_7 => ?_)
    · -- yes
      have k_7 : r_6.toInt = (0 : Int32).toInt := ci_eq c_7
      have kt_7 : ¬ (V6 aa) := two_z q_r_6 c_7
      refine lv_iconst (v := 0) hx hb dX5_isAct_126 (by decide) ?_
      exact W.zret (v := 0) (ty := .boolean) hx hb hr rfl (fun t ht hW => ⟨0, rfl, (show two (0 : Int32) (okP ka aa ba ca da ea) 1 0 from (Or.inr ⟨rfl, fun h9 => by have h8 := (okP_1 sv_1).mp h9; omega⟩)), ht⟩) (by intro q hq; cases hq) dX5_isAct_127
    · -- no
      have k_7 : ¬ r_6.toInt = (0 : Int32).toInt := ci_ne c_7
      have kt_7 : V6 aa := two_nz q_r_6 c_7
      refine lv_iload_n hx hb dX5_isAct_103 rfl (lv_at hl 2 rfl) ?_
      refine vp_callSi (va_runS (As := [.int ba]) (rest := []) ⟨hx, hb, hml, hown, hts⟩ (s_X5_isNumber l ba) (va_cwS 1 hts h_X5_isAct_X5_isNumber_119 rfl rfl rfl (by decide +kernel) ⟨Nat.le_of_ble_eq_true rfl, Nat.le_of_ble_eq_true rfl⟩) ⟨fun _ _ _ _ q => q, fun _ _ _ => ⟨rfl, trivial⟩⟩ rfl rfl hl.1 rfl (lv_room (Nat.le_of_ble_eq_true rfl)) dX5_isAct_104 ⟨Nat.le_of_ble_eq_true rfl, Nat.le_of_ble_eq_true rfl⟩).run (fun r_8 hw_8 => ?_)
      replace hw_8 : (two r_8 (VN ba) 1 0) := hw_8
      have q_r_8 := hw_8
      refine lv_if_eq (tgt := 126) hx hb dX5_isAct_107 (by decide) (fun c_9 => ?_) (fun c_9 => ?_)
      · -- yes
        have k_9 : r_8.toInt = (0 : Int32).toInt := ci_eq c_9
        have kt_9 : ¬ (VN ba) := two_z q_r_8 c_9
        refine lv_iconst (v := 0) hx hb dX5_isAct_126 (by decide) ?_
        exact W.zret (v := 0) (ty := .boolean) hx hb hr rfl (fun t ht hW => ⟨0, rfl, (show two (0 : Int32) (okP ka aa ba ca da ea) 1 0 from (Or.inr ⟨rfl, fun h9 => by have h8 := (okP_1 sv_1).mp h9; omega⟩)), ht⟩) (by intro q hq; cases hq) dX5_isAct_127
      · -- no
        have k_9 : ¬ r_8.toInt = (0 : Int32).toInt := ci_ne c_9
        have kt_9 : VN ba := two_nz q_r_8 c_9
        refine lv_iload_n hx hb dX5_isAct_110 rfl (lv_at hl 3 rfl) ?_
        refine vp_callSi (va_runS (As := [.int ca]) (rest := []) ⟨hx, hb, hml, hown, hts⟩ (s_X5_isNumber l ca) (va_cwS 1 hts h_X5_isAct_X5_isNumber_119 rfl rfl rfl (by decide +kernel) ⟨Nat.le_of_ble_eq_true rfl, Nat.le_of_ble_eq_true rfl⟩) ⟨fun _ _ _ _ q => q, fun _ _ _ => ⟨rfl, trivial⟩⟩ rfl rfl hl.1 rfl (lv_room (Nat.le_of_ble_eq_true rfl)) dX5_isAct_111 ⟨Nat.le_of_ble_eq_true rfl, Nat.le_of_ble_eq_true rfl⟩).run (fun r_10 hw_10 => ?_)
        replace hw_10 : (two r_10 (VN ca) 1 0) := hw_10
        have q_r_10 := hw_10
        refine lv_if_eq (tgt := 126) hx hb dX5_isAct_114 (by decide) (fun c_11 => ?_) (fun c_11 => ?_)
        · -- yes
          have k_11 : r_10.toInt = (0 : Int32).toInt := ci_eq c_11
          have kt_11 : ¬ (VN ca) := two_z q_r_10 c_11
          refine lv_iconst (v := 0) hx hb dX5_isAct_126 (by decide) ?_
          exact W.zret (v := 0) (ty := .boolean) hx hb hr rfl (fun t ht hW => ⟨0, rfl, (show two (0 : Int32) (okP ka aa ba ca da ea) 1 0 from (Or.inr ⟨rfl, fun h9 => by have h8 := (okP_1 sv_1).mp h9; omega⟩)), ht⟩) (by intro q hq; cases hq) dX5_isAct_127
        · -- no
          have k_11 : ¬ r_10.toInt = (0 : Int32).toInt := ci_ne c_11
          have kt_11 : VN ca := two_nz q_r_10 c_11
          refine lv_iload_n hx hb dX5_isAct_117 rfl (lv_at hl 2 rfl) ?_
          refine lv_iload_n hx hb dX5_isAct_118 rfl (lv_at hl 3 rfl) ?_
          refine lv_icmp_gt (tgt := 126) hx hb dX5_isAct_119 (by decide) (fun c_12 => ?_) (fun c_12 => ?_)
          · -- yes
            have k_12 : ca.toInt < ba.toInt := ci_gt c_12
            refine lv_iconst (v := 0) hx hb dX5_isAct_126 (by decide) ?_
            exact W.zret (v := 0) (ty := .boolean) hx hb hr rfl (fun t ht hW => ⟨0, rfl, (show two (0 : Int32) (okP ka aa ba ca da ea) 1 0 from (Or.inr ⟨rfl, fun h9 => by have h8 := (okP_1 sv_1).mp h9; omega⟩)), ht⟩) (by intro q hq; cases hq) dX5_isAct_127
          · -- no
            have k_12 : ba.toInt ≤ ca.toInt := ci_ngt c_12
            refine lv_iconst (v := 1) hx hb dX5_isAct_122 (by decide) ?_
            refine lv_goto (tgt := 127) hx hb dX5_isAct_123 (by decide) ?_
            exact W.zret (v := 1) (ty := .boolean) hx hb hr rfl (fun t ht hW => ⟨1, rfl, (show two (1 : Int32) (okP ka aa ba ca da ea) 1 0 from (Or.inl ⟨rfl, (okP_1 sv_1).mpr (by omega)⟩)), ht⟩) (by intro q hq; cases hq) dX5_isAct_127
  · -- case 2
    refine lv_tableIn (tgt := 128) (off := 127) hx hb dX5_isAct_1 (by omega) (by omega) (by rw [sv_1]; rfl) (by decide) ?_
    refine lv_iload_n hx hb dX5_isAct_128 rfl (lv_at hl 1 rfl) ?_
    refine vp_callSi (va_runS (As := [.int aa]) (rest := []) ⟨hx, hb, hml, hown, hts⟩ (s_X5_isName l aa) (va_cwS 1 hts h_X5_isAct_X5_isName_115 rfl rfl rfl (by decide +kernel) ⟨Nat.le_of_ble_eq_true rfl, Nat.le_of_ble_eq_true rfl⟩) ⟨fun _ _ _ _ q => q, fun _ _ _ => ⟨rfl, trivial⟩⟩ rfl rfl hl.1 rfl (lv_room (Nat.le_of_ble_eq_true rfl)) dX5_isAct_129 ⟨Nat.le_of_ble_eq_true rfl, Nat.le_of_ble_eq_true rfl⟩).run (fun r_13 hw_13 => ?_)
    replace hw_13 : (two r_13 (V6 aa) 1 0) := hw_13
    have q_r_13 := hw_13
    refine lv_if_eq (tgt := 153) hx hb dX5_isAct_132 (by decide) (fun c_14 => ?_) (fun c_14 => ?_)
    · -- yes
      have k_14 : r_13.toInt = (0 : Int32).toInt := ci_eq c_14
      have kt_14 : ¬ (V6 aa) := two_z q_r_13 c_14
      refine lv_iconst (v := 0) hx hb dX5_isAct_153 (by decide) ?_
      exact W.zret (v := 0) (ty := .boolean) hx hb hr rfl (fun t ht hW => ⟨0, rfl, (show two (0 : Int32) (okP ka aa ba ca da ea) 1 0 from (Or.inr ⟨rfl, fun h9 => by have h8 := (okP_2 sv_1).mp h9; omega⟩)), ht⟩) (by intro q hq; cases hq) dX5_isAct_154
    · -- no
      have k_14 : ¬ r_13.toInt = (0 : Int32).toInt := ci_ne c_14
      have kt_14 : V6 aa := two_nz q_r_13 c_14
      refine lv_iload_n hx hb dX5_isAct_135 rfl (lv_at hl 2 rfl) ?_
      refine vp_callSi (va_runS (As := [.int ba]) (rest := []) ⟨hx, hb, hml, hown, hts⟩ (s_X5_isName l ba) (va_cwS 1 hts h_X5_isAct_X5_isName_115 rfl rfl rfl (by decide +kernel) ⟨Nat.le_of_ble_eq_true rfl, Nat.le_of_ble_eq_true rfl⟩) ⟨fun _ _ _ _ q => q, fun _ _ _ => ⟨rfl, trivial⟩⟩ rfl rfl hl.1 rfl (lv_room (Nat.le_of_ble_eq_true rfl)) dX5_isAct_136 ⟨Nat.le_of_ble_eq_true rfl, Nat.le_of_ble_eq_true rfl⟩).run (fun r_15 hw_15 => ?_)
      replace hw_15 : (two r_15 (V6 ba) 1 0) := hw_15
      have q_r_15 := hw_15
      refine lv_if_eq (tgt := 153) hx hb dX5_isAct_139 (by decide) (fun c_16 => ?_) (fun c_16 => ?_)
      · -- yes
        have k_16 : r_15.toInt = (0 : Int32).toInt := ci_eq c_16
        have kt_16 : ¬ (V6 ba) := two_z q_r_15 c_16
        refine lv_iconst (v := 0) hx hb dX5_isAct_153 (by decide) ?_
        exact W.zret (v := 0) (ty := .boolean) hx hb hr rfl (fun t ht hW => ⟨0, rfl, (show two (0 : Int32) (okP ka aa ba ca da ea) 1 0 from (Or.inr ⟨rfl, fun h9 => by have h8 := (okP_2 sv_1).mp h9; omega⟩)), ht⟩) (by intro q hq; cases hq) dX5_isAct_154
      · -- no
        have k_16 : ¬ r_15.toInt = (0 : Int32).toInt := ci_ne c_16
        have kt_16 : V6 ba := two_nz q_r_15 c_16
        refine lv_iload_n hx hb dX5_isAct_142 rfl (lv_at hl 3 rfl) ?_
        refine vp_callSi (va_runS (As := [.int ca]) (rest := []) ⟨hx, hb, hml, hown, hts⟩ (s_X5_isName l ca) (va_cwS 1 hts h_X5_isAct_X5_isName_115 rfl rfl rfl (by decide +kernel) ⟨Nat.le_of_ble_eq_true rfl, Nat.le_of_ble_eq_true rfl⟩) ⟨fun _ _ _ _ q => q, fun _ _ _ => ⟨rfl, trivial⟩⟩ rfl rfl hl.1 rfl (lv_room (Nat.le_of_ble_eq_true rfl)) dX5_isAct_143 ⟨Nat.le_of_ble_eq_true rfl, Nat.le_of_ble_eq_true rfl⟩).run (fun r_17 hw_17 => ?_)
        replace hw_17 : (two r_17 (V6 ca) 1 0) := hw_17
        have q_r_17 := hw_17
        refine lv_if_eq (tgt := 153) hx hb dX5_isAct_146 (by decide) (fun c_18 => ?_) (fun c_18 => ?_)
        · -- yes
          have k_18 : r_17.toInt = (0 : Int32).toInt := ci_eq c_18
          have kt_18 : ¬ (V6 ca) := two_z q_r_17 c_18
          refine lv_iconst (v := 0) hx hb dX5_isAct_153 (by decide) ?_
          exact W.zret (v := 0) (ty := .boolean) hx hb hr rfl (fun t ht hW => ⟨0, rfl, (show two (0 : Int32) (okP ka aa ba ca da ea) 1 0 from (Or.inr ⟨rfl, fun h9 => by have h8 := (okP_2 sv_1).mp h9; omega⟩)), ht⟩) (by intro q hq; cases hq) dX5_isAct_154
        · -- no
          have k_18 : ¬ r_17.toInt = (0 : Int32).toInt := ci_ne c_18
          have kt_18 : V6 ca := two_nz q_r_17 c_18
          refine lv_iconst (v := 1) hx hb dX5_isAct_149 (by decide) ?_
          refine lv_goto (tgt := 154) hx hb dX5_isAct_150 (by decide) ?_
          exact W.zret (v := 1) (ty := .boolean) hx hb hr rfl (fun t ht hW => ⟨1, rfl, (show two (1 : Int32) (okP ka aa ba ca da ea) 1 0 from (Or.inl ⟨rfl, (okP_2 sv_1).mpr (by omega)⟩)), ht⟩) (by intro q hq; cases hq) dX5_isAct_154
  · -- case 3
    refine lv_tableIn (tgt := 128) (off := 127) hx hb dX5_isAct_1 (by omega) (by omega) (by rw [sv_1]; rfl) (by decide) ?_
    refine lv_iload_n hx hb dX5_isAct_128 rfl (lv_at hl 1 rfl) ?_
    refine vp_callSi (va_runS (As := [.int aa]) (rest := []) ⟨hx, hb, hml, hown, hts⟩ (s_X5_isName l aa) (va_cwS 1 hts h_X5_isAct_X5_isName_115 rfl rfl rfl (by decide +kernel) ⟨Nat.le_of_ble_eq_true rfl, Nat.le_of_ble_eq_true rfl⟩) ⟨fun _ _ _ _ q => q, fun _ _ _ => ⟨rfl, trivial⟩⟩ rfl rfl hl.1 rfl (lv_room (Nat.le_of_ble_eq_true rfl)) dX5_isAct_129 ⟨Nat.le_of_ble_eq_true rfl, Nat.le_of_ble_eq_true rfl⟩).run (fun r_19 hw_19 => ?_)
    replace hw_19 : (two r_19 (V6 aa) 1 0) := hw_19
    have q_r_19 := hw_19
    refine lv_if_eq (tgt := 153) hx hb dX5_isAct_132 (by decide) (fun c_20 => ?_) (fun c_20 => ?_)
    · -- yes
      have k_20 : r_19.toInt = (0 : Int32).toInt := ci_eq c_20
      have kt_20 : ¬ (V6 aa) := two_z q_r_19 c_20
      refine lv_iconst (v := 0) hx hb dX5_isAct_153 (by decide) ?_
      exact W.zret (v := 0) (ty := .boolean) hx hb hr rfl (fun t ht hW => ⟨0, rfl, (show two (0 : Int32) (okP ka aa ba ca da ea) 1 0 from (Or.inr ⟨rfl, fun h9 => by have h8 := (okP_3 sv_1).mp h9; omega⟩)), ht⟩) (by intro q hq; cases hq) dX5_isAct_154
    · -- no
      have k_20 : ¬ r_19.toInt = (0 : Int32).toInt := ci_ne c_20
      have kt_20 : V6 aa := two_nz q_r_19 c_20
      refine lv_iload_n hx hb dX5_isAct_135 rfl (lv_at hl 2 rfl) ?_
      refine vp_callSi (va_runS (As := [.int ba]) (rest := []) ⟨hx, hb, hml, hown, hts⟩ (s_X5_isName l ba) (va_cwS 1 hts h_X5_isAct_X5_isName_115 rfl rfl rfl (by decide +kernel) ⟨Nat.le_of_ble_eq_true rfl, Nat.le_of_ble_eq_true rfl⟩) ⟨fun _ _ _ _ q => q, fun _ _ _ => ⟨rfl, trivial⟩⟩ rfl rfl hl.1 rfl (lv_room (Nat.le_of_ble_eq_true rfl)) dX5_isAct_136 ⟨Nat.le_of_ble_eq_true rfl, Nat.le_of_ble_eq_true rfl⟩).run (fun r_21 hw_21 => ?_)
      replace hw_21 : (two r_21 (V6 ba) 1 0) := hw_21
      have q_r_21 := hw_21
      refine lv_if_eq (tgt := 153) hx hb dX5_isAct_139 (by decide) (fun c_22 => ?_) (fun c_22 => ?_)
      · -- yes
        have k_22 : r_21.toInt = (0 : Int32).toInt := ci_eq c_22
        have kt_22 : ¬ (V6 ba) := two_z q_r_21 c_22
        refine lv_iconst (v := 0) hx hb dX5_isAct_153 (by decide) ?_
        exact W.zret (v := 0) (ty := .boolean) hx hb hr rfl (fun t ht hW => ⟨0, rfl, (show two (0 : Int32) (okP ka aa ba ca da ea) 1 0 from (Or.inr ⟨rfl, fun h9 => by have h8 := (okP_3 sv_1).mp h9; omega⟩)), ht⟩) (by intro q hq; cases hq) dX5_isAct_154
      · -- no
        have k_22 : ¬ r_21.toInt = (0 : Int32).toInt := ci_ne c_22
        have kt_22 : V6 ba := two_nz q_r_21 c_22
        refine lv_iload_n hx hb dX5_isAct_142 rfl (lv_at hl 3 rfl) ?_
        refine vp_callSi (va_runS (As := [.int ca]) (rest := []) ⟨hx, hb, hml, hown, hts⟩ (s_X5_isName l ca) (va_cwS 1 hts h_X5_isAct_X5_isName_115 rfl rfl rfl (by decide +kernel) ⟨Nat.le_of_ble_eq_true rfl, Nat.le_of_ble_eq_true rfl⟩) ⟨fun _ _ _ _ q => q, fun _ _ _ => ⟨rfl, trivial⟩⟩ rfl rfl hl.1 rfl (lv_room (Nat.le_of_ble_eq_true rfl)) dX5_isAct_143 ⟨Nat.le_of_ble_eq_true rfl, Nat.le_of_ble_eq_true rfl⟩).run (fun r_23 hw_23 => ?_)
        replace hw_23 : (two r_23 (V6 ca) 1 0) := hw_23
        have q_r_23 := hw_23
        refine lv_if_eq (tgt := 153) hx hb dX5_isAct_146 (by decide) (fun c_24 => ?_) (fun c_24 => ?_)
        · -- yes
          have k_24 : r_23.toInt = (0 : Int32).toInt := ci_eq c_24
          have kt_24 : ¬ (V6 ca) := two_z q_r_23 c_24
          refine lv_iconst (v := 0) hx hb dX5_isAct_153 (by decide) ?_
          exact W.zret (v := 0) (ty := .boolean) hx hb hr rfl (fun t ht hW => ⟨0, rfl, (show two (0 : Int32) (okP ka aa ba ca da ea) 1 0 from (Or.inr ⟨rfl, fun h9 => by have h8 := (okP_3 sv_1).mp h9; omega⟩)), ht⟩) (by intro q hq; cases hq) dX5_isAct_154
        · -- no
          have k_24 : ¬ r_23.toInt = (0 : Int32).toInt := ci_ne c_24
          have kt_24 : V6 ca := two_nz q_r_23 c_24
          refine lv_iconst (v := 1) hx hb dX5_isAct_149 (by decide) ?_
          refine lv_goto (tgt := 154) hx hb dX5_isAct_150 (by decide) ?_
          exact W.zret (v := 1) (ty := .boolean) hx hb hr rfl (fun t ht hW => ⟨1, rfl, (show two (1 : Int32) (okP ka aa ba ca da ea) 1 0 from (Or.inl ⟨rfl, (okP_3 sv_1).mpr (by omega)⟩)), ht⟩) (by intro q hq; cases hq) dX5_isAct_154
  · -- case 4
    refine lv_tableIn (tgt := 155) (off := 154) hx hb dX5_isAct_1 (by omega) (by omega) (by rw [sv_1]; rfl) (by decide) ?_
    refine lv_iload_n hx hb dX5_isAct_155 rfl (lv_at hl 1 rfl) ?_
    refine vp_callSi (va_runS (As := [.int aa]) (rest := []) ⟨hx, hb, hml, hown, hts⟩ (s_X5_isName l aa) (va_cwS 1 hts h_X5_isAct_X5_isName_115 rfl rfl rfl (by decide +kernel) ⟨Nat.le_of_ble_eq_true rfl, Nat.le_of_ble_eq_true rfl⟩) ⟨fun _ _ _ _ q => q, fun _ _ _ => ⟨rfl, trivial⟩⟩ rfl rfl hl.1 rfl (lv_room (Nat.le_of_ble_eq_true rfl)) dX5_isAct_156 ⟨Nat.le_of_ble_eq_true rfl, Nat.le_of_ble_eq_true rfl⟩).run (fun r_25 hw_25 => ?_)
    replace hw_25 : (two r_25 (V6 aa) 1 0) := hw_25
    have q_r_25 := hw_25
    refine lv_if_eq (tgt := 180) hx hb dX5_isAct_159 (by decide) (fun c_26 => ?_) (fun c_26 => ?_)
    · -- yes
      have k_26 : r_25.toInt = (0 : Int32).toInt := ci_eq c_26
      have kt_26 : ¬ (V6 aa) := two_z q_r_25 c_26
      refine lv_iconst (v := 0) hx hb dX5_isAct_180 (by decide) ?_
      exact W.zret (v := 0) (ty := .boolean) hx hb hr rfl (fun t ht hW => ⟨0, rfl, (show two (0 : Int32) (okP ka aa ba ca da ea) 1 0 from (Or.inr ⟨rfl, fun h9 => by have h8 := (okP_4 sv_1).mp h9; omega⟩)), ht⟩) (by intro q hq; cases hq) dX5_isAct_181
    · -- no
      have k_26 : ¬ r_25.toInt = (0 : Int32).toInt := ci_ne c_26
      have kt_26 : V6 aa := two_nz q_r_25 c_26
      refine lv_iload_n hx hb dX5_isAct_162 rfl (lv_at hl 2 rfl) ?_
      refine vp_callSi (va_runS (As := [.int ba]) (rest := []) ⟨hx, hb, hml, hown, hts⟩ (s_X5_isLane l ba) (va_cwS 1 hts h_X5_isAct_X5_isLane_122 rfl rfl rfl (by decide +kernel) ⟨Nat.le_of_ble_eq_true rfl, Nat.le_of_ble_eq_true rfl⟩) ⟨fun _ _ _ _ q => q, fun _ _ _ => ⟨rfl, trivial⟩⟩ rfl rfl hl.1 rfl (lv_room (Nat.le_of_ble_eq_true rfl)) dX5_isAct_163 ⟨Nat.le_of_ble_eq_true rfl, Nat.le_of_ble_eq_true rfl⟩).run (fun r_27 hw_27 => ?_)
      replace hw_27 : (two r_27 (V3 ba) 1 0) := hw_27
      have q_r_27 := hw_27
      refine lv_if_eq (tgt := 180) hx hb dX5_isAct_166 (by decide) (fun c_28 => ?_) (fun c_28 => ?_)
      · -- yes
        have k_28 : r_27.toInt = (0 : Int32).toInt := ci_eq c_28
        have kt_28 : ¬ (V3 ba) := two_z q_r_27 c_28
        refine lv_iconst (v := 0) hx hb dX5_isAct_180 (by decide) ?_
        exact W.zret (v := 0) (ty := .boolean) hx hb hr rfl (fun t ht hW => ⟨0, rfl, (show two (0 : Int32) (okP ka aa ba ca da ea) 1 0 from (Or.inr ⟨rfl, fun h9 => by have h8 := (okP_4 sv_1).mp h9; omega⟩)), ht⟩) (by intro q hq; cases hq) dX5_isAct_181
      · -- no
        have k_28 : ¬ r_27.toInt = (0 : Int32).toInt := ci_ne c_28
        have kt_28 : V3 ba := two_nz q_r_27 c_28
        refine lv_iload_n hx hb dX5_isAct_169 rfl (lv_at hl 3 rfl) ?_
        refine vp_callSi (va_runS (As := [.int ca]) (rest := []) ⟨hx, hb, hml, hown, hts⟩ (s_X5_isName l ca) (va_cwS 1 hts h_X5_isAct_X5_isName_115 rfl rfl rfl (by decide +kernel) ⟨Nat.le_of_ble_eq_true rfl, Nat.le_of_ble_eq_true rfl⟩) ⟨fun _ _ _ _ q => q, fun _ _ _ => ⟨rfl, trivial⟩⟩ rfl rfl hl.1 rfl (lv_room (Nat.le_of_ble_eq_true rfl)) dX5_isAct_170 ⟨Nat.le_of_ble_eq_true rfl, Nat.le_of_ble_eq_true rfl⟩).run (fun r_29 hw_29 => ?_)
        replace hw_29 : (two r_29 (V6 ca) 1 0) := hw_29
        have q_r_29 := hw_29
        refine lv_if_eq (tgt := 180) hx hb dX5_isAct_173 (by decide) (fun c_30 => ?_) (fun c_30 => ?_)
        · -- yes
          have k_30 : r_29.toInt = (0 : Int32).toInt := ci_eq c_30
          have kt_30 : ¬ (V6 ca) := two_z q_r_29 c_30
          refine lv_iconst (v := 0) hx hb dX5_isAct_180 (by decide) ?_
          exact W.zret (v := 0) (ty := .boolean) hx hb hr rfl (fun t ht hW => ⟨0, rfl, (show two (0 : Int32) (okP ka aa ba ca da ea) 1 0 from (Or.inr ⟨rfl, fun h9 => by have h8 := (okP_4 sv_1).mp h9; omega⟩)), ht⟩) (by intro q hq; cases hq) dX5_isAct_181
        · -- no
          have k_30 : ¬ r_29.toInt = (0 : Int32).toInt := ci_ne c_30
          have kt_30 : V6 ca := two_nz q_r_29 c_30
          refine lv_iconst (v := 1) hx hb dX5_isAct_176 (by decide) ?_
          refine lv_goto (tgt := 181) hx hb dX5_isAct_177 (by decide) ?_
          exact W.zret (v := 1) (ty := .boolean) hx hb hr rfl (fun t ht hW => ⟨1, rfl, (show two (1 : Int32) (okP ka aa ba ca da ea) 1 0 from (Or.inl ⟨rfl, (okP_4 sv_1).mpr (by omega)⟩)), ht⟩) (by intro q hq; cases hq) dX5_isAct_181
  · -- case 5
    refine lv_tableIn (tgt := 182) (off := 181) hx hb dX5_isAct_1 (by omega) (by omega) (by rw [sv_1]; rfl) (by decide) ?_
    refine lv_iload_n hx hb dX5_isAct_182 rfl (lv_at hl 1 rfl) ?_
    refine vp_callSi (va_runS (As := [.int aa]) (rest := []) ⟨hx, hb, hml, hown, hts⟩ (s_X5_isName l aa) (va_cwS 1 hts h_X5_isAct_X5_isName_115 rfl rfl rfl (by decide +kernel) ⟨Nat.le_of_ble_eq_true rfl, Nat.le_of_ble_eq_true rfl⟩) ⟨fun _ _ _ _ q => q, fun _ _ _ => ⟨rfl, trivial⟩⟩ rfl rfl hl.1 rfl (lv_room (Nat.le_of_ble_eq_true rfl)) dX5_isAct_183 ⟨Nat.le_of_ble_eq_true rfl, Nat.le_of_ble_eq_true rfl⟩).run (fun r_31 hw_31 => ?_)
    replace hw_31 : (two r_31 (V6 aa) 1 0) := hw_31
    have q_r_31 := hw_31
    rcases q_r_31 with ⟨rfl, k_32⟩ | ⟨rfl, k_32⟩
    · -- answer 1
      exact W.zret (v := 1) (ty := .boolean) hx hb hr rfl (fun t ht hW => ⟨1, rfl, (show two (1 : Int32) (okP ka aa ba ca da ea) 1 0 from (Or.inl ⟨rfl, (okP_5 sv_1).mpr (by omega)⟩)), ht⟩) (by intro q hq; cases hq) dX5_isAct_186
    · -- answer 0
      exact W.zret (v := 0) (ty := .boolean) hx hb hr rfl (fun t ht hW => ⟨0, rfl, (show two (0 : Int32) (okP ka aa ba ca da ea) 1 0 from (Or.inr ⟨rfl, fun h9 => by have h8 := (okP_5 sv_1).mp h9; omega⟩)), ht⟩) (by intro q hq; cases hq) dX5_isAct_186
  · -- case 6
    refine lv_tableIn (tgt := 187) (off := 186) hx hb dX5_isAct_1 (by omega) (by omega) (by rw [sv_1]; rfl) (by decide) ?_
    refine lv_iload_n hx hb dX5_isAct_187 rfl (lv_at hl 1 rfl) ?_
    refine vp_callSi (va_runS (As := [.int aa]) (rest := []) ⟨hx, hb, hml, hown, hts⟩ (s_X5_isName l aa) (va_cwS 1 hts h_X5_isAct_X5_isName_115 rfl rfl rfl (by decide +kernel) ⟨Nat.le_of_ble_eq_true rfl, Nat.le_of_ble_eq_true rfl⟩) ⟨fun _ _ _ _ q => q, fun _ _ _ => ⟨rfl, trivial⟩⟩ rfl rfl hl.1 rfl (lv_room (Nat.le_of_ble_eq_true rfl)) dX5_isAct_188 ⟨Nat.le_of_ble_eq_true rfl, Nat.le_of_ble_eq_true rfl⟩).run (fun r_33 hw_33 => ?_)
    replace hw_33 : (two r_33 (V6 aa) 1 0) := hw_33
    have q_r_33 := hw_33
    refine lv_if_eq (tgt := 205) hx hb dX5_isAct_191 (by decide) (fun c_34 => ?_) (fun c_34 => ?_)
    · -- yes
      have k_34 : r_33.toInt = (0 : Int32).toInt := ci_eq c_34
      have kt_34 : ¬ (V6 aa) := two_z q_r_33 c_34
      refine lv_iconst (v := 0) hx hb dX5_isAct_205 (by decide) ?_
      exact W.zret (v := 0) (ty := .boolean) hx hb hr rfl (fun t ht hW => ⟨0, rfl, (show two (0 : Int32) (okP ka aa ba ca da ea) 1 0 from (Or.inr ⟨rfl, fun h9 => by have h8 := (okP_6 sv_1).mp h9; omega⟩)), ht⟩) (by intro q hq; cases hq) dX5_isAct_206
    · -- no
      have k_34 : ¬ r_33.toInt = (0 : Int32).toInt := ci_ne c_34
      have kt_34 : V6 aa := two_nz q_r_33 c_34
      refine lv_iload_n hx hb dX5_isAct_194 rfl (lv_at hl 2 rfl) ?_
      refine vp_callSi (va_runS (As := [.int ba]) (rest := []) ⟨hx, hb, hml, hown, hts⟩ (s_X5_isName l ba) (va_cwS 1 hts h_X5_isAct_X5_isName_115 rfl rfl rfl (by decide +kernel) ⟨Nat.le_of_ble_eq_true rfl, Nat.le_of_ble_eq_true rfl⟩) ⟨fun _ _ _ _ q => q, fun _ _ _ => ⟨rfl, trivial⟩⟩ rfl rfl hl.1 rfl (lv_room (Nat.le_of_ble_eq_true rfl)) dX5_isAct_195 ⟨Nat.le_of_ble_eq_true rfl, Nat.le_of_ble_eq_true rfl⟩).run (fun r_35 hw_35 => ?_)
      replace hw_35 : (two r_35 (V6 ba) 1 0) := hw_35
      have q_r_35 := hw_35
      refine lv_if_eq (tgt := 205) hx hb dX5_isAct_198 (by decide) (fun c_36 => ?_) (fun c_36 => ?_)
      · -- yes
        have k_36 : r_35.toInt = (0 : Int32).toInt := ci_eq c_36
        have kt_36 : ¬ (V6 ba) := two_z q_r_35 c_36
        refine lv_iconst (v := 0) hx hb dX5_isAct_205 (by decide) ?_
        exact W.zret (v := 0) (ty := .boolean) hx hb hr rfl (fun t ht hW => ⟨0, rfl, (show two (0 : Int32) (okP ka aa ba ca da ea) 1 0 from (Or.inr ⟨rfl, fun h9 => by have h8 := (okP_6 sv_1).mp h9; omega⟩)), ht⟩) (by intro q hq; cases hq) dX5_isAct_206
      · -- no
        have k_36 : ¬ r_35.toInt = (0 : Int32).toInt := ci_ne c_36
        have kt_36 : V6 ba := two_nz q_r_35 c_36
        refine lv_iconst (v := 1) hx hb dX5_isAct_201 (by decide) ?_
        refine lv_goto (tgt := 206) hx hb dX5_isAct_202 (by decide) ?_
        exact W.zret (v := 1) (ty := .boolean) hx hb hr rfl (fun t ht hW => ⟨1, rfl, (show two (1 : Int32) (okP ka aa ba ca da ea) 1 0 from (Or.inl ⟨rfl, (okP_6 sv_1).mpr (by omega)⟩)), ht⟩) (by intro q hq; cases hq) dX5_isAct_206
  · -- case 7
    refine lv_tableIn (tgt := 128) (off := 127) hx hb dX5_isAct_1 (by omega) (by omega) (by rw [sv_1]; rfl) (by decide) ?_
    refine lv_iload_n hx hb dX5_isAct_128 rfl (lv_at hl 1 rfl) ?_
    refine vp_callSi (va_runS (As := [.int aa]) (rest := []) ⟨hx, hb, hml, hown, hts⟩ (s_X5_isName l aa) (va_cwS 1 hts h_X5_isAct_X5_isName_115 rfl rfl rfl (by decide +kernel) ⟨Nat.le_of_ble_eq_true rfl, Nat.le_of_ble_eq_true rfl⟩) ⟨fun _ _ _ _ q => q, fun _ _ _ => ⟨rfl, trivial⟩⟩ rfl rfl hl.1 rfl (lv_room (Nat.le_of_ble_eq_true rfl)) dX5_isAct_129 ⟨Nat.le_of_ble_eq_true rfl, Nat.le_of_ble_eq_true rfl⟩).run (fun r_37 hw_37 => ?_)
    replace hw_37 : (two r_37 (V6 aa) 1 0) := hw_37
    have q_r_37 := hw_37
    refine lv_if_eq (tgt := 153) hx hb dX5_isAct_132 (by decide) (fun c_38 => ?_) (fun c_38 => ?_)
    · -- yes
      have k_38 : r_37.toInt = (0 : Int32).toInt := ci_eq c_38
      have kt_38 : ¬ (V6 aa) := two_z q_r_37 c_38
      refine lv_iconst (v := 0) hx hb dX5_isAct_153 (by decide) ?_
      exact W.zret (v := 0) (ty := .boolean) hx hb hr rfl (fun t ht hW => ⟨0, rfl, (show two (0 : Int32) (okP ka aa ba ca da ea) 1 0 from (Or.inr ⟨rfl, fun h9 => by have h8 := (okP_7 sv_1).mp h9; omega⟩)), ht⟩) (by intro q hq; cases hq) dX5_isAct_154
    · -- no
      have k_38 : ¬ r_37.toInt = (0 : Int32).toInt := ci_ne c_38
      have kt_38 : V6 aa := two_nz q_r_37 c_38
      refine lv_iload_n hx hb dX5_isAct_135 rfl (lv_at hl 2 rfl) ?_
      refine vp_callSi (va_runS (As := [.int ba]) (rest := []) ⟨hx, hb, hml, hown, hts⟩ (s_X5_isName l ba) (va_cwS 1 hts h_X5_isAct_X5_isName_115 rfl rfl rfl (by decide +kernel) ⟨Nat.le_of_ble_eq_true rfl, Nat.le_of_ble_eq_true rfl⟩) ⟨fun _ _ _ _ q => q, fun _ _ _ => ⟨rfl, trivial⟩⟩ rfl rfl hl.1 rfl (lv_room (Nat.le_of_ble_eq_true rfl)) dX5_isAct_136 ⟨Nat.le_of_ble_eq_true rfl, Nat.le_of_ble_eq_true rfl⟩).run (fun r_39 hw_39 => ?_)
      replace hw_39 : (two r_39 (V6 ba) 1 0) := hw_39
      have q_r_39 := hw_39
      refine lv_if_eq (tgt := 153) hx hb dX5_isAct_139 (by decide) (fun c_40 => ?_) (fun c_40 => ?_)
      · -- yes
        have k_40 : r_39.toInt = (0 : Int32).toInt := ci_eq c_40
        have kt_40 : ¬ (V6 ba) := two_z q_r_39 c_40
        refine lv_iconst (v := 0) hx hb dX5_isAct_153 (by decide) ?_
        exact W.zret (v := 0) (ty := .boolean) hx hb hr rfl (fun t ht hW => ⟨0, rfl, (show two (0 : Int32) (okP ka aa ba ca da ea) 1 0 from (Or.inr ⟨rfl, fun h9 => by have h8 := (okP_7 sv_1).mp h9; omega⟩)), ht⟩) (by intro q hq; cases hq) dX5_isAct_154
      · -- no
        have k_40 : ¬ r_39.toInt = (0 : Int32).toInt := ci_ne c_40
        have kt_40 : V6 ba := two_nz q_r_39 c_40
        refine lv_iload_n hx hb dX5_isAct_142 rfl (lv_at hl 3 rfl) ?_
        refine vp_callSi (va_runS (As := [.int ca]) (rest := []) ⟨hx, hb, hml, hown, hts⟩ (s_X5_isName l ca) (va_cwS 1 hts h_X5_isAct_X5_isName_115 rfl rfl rfl (by decide +kernel) ⟨Nat.le_of_ble_eq_true rfl, Nat.le_of_ble_eq_true rfl⟩) ⟨fun _ _ _ _ q => q, fun _ _ _ => ⟨rfl, trivial⟩⟩ rfl rfl hl.1 rfl (lv_room (Nat.le_of_ble_eq_true rfl)) dX5_isAct_143 ⟨Nat.le_of_ble_eq_true rfl, Nat.le_of_ble_eq_true rfl⟩).run (fun r_41 hw_41 => ?_)
        replace hw_41 : (two r_41 (V6 ca) 1 0) := hw_41
        have q_r_41 := hw_41
        refine lv_if_eq (tgt := 153) hx hb dX5_isAct_146 (by decide) (fun c_42 => ?_) (fun c_42 => ?_)
        · -- yes
          have k_42 : r_41.toInt = (0 : Int32).toInt := ci_eq c_42
          have kt_42 : ¬ (V6 ca) := two_z q_r_41 c_42
          refine lv_iconst (v := 0) hx hb dX5_isAct_153 (by decide) ?_
          exact W.zret (v := 0) (ty := .boolean) hx hb hr rfl (fun t ht hW => ⟨0, rfl, (show two (0 : Int32) (okP ka aa ba ca da ea) 1 0 from (Or.inr ⟨rfl, fun h9 => by have h8 := (okP_7 sv_1).mp h9; omega⟩)), ht⟩) (by intro q hq; cases hq) dX5_isAct_154
        · -- no
          have k_42 : ¬ r_41.toInt = (0 : Int32).toInt := ci_ne c_42
          have kt_42 : V6 ca := two_nz q_r_41 c_42
          refine lv_iconst (v := 1) hx hb dX5_isAct_149 (by decide) ?_
          refine lv_goto (tgt := 154) hx hb dX5_isAct_150 (by decide) ?_
          exact W.zret (v := 1) (ty := .boolean) hx hb hr rfl (fun t ht hW => ⟨1, rfl, (show two (1 : Int32) (okP ka aa ba ca da ea) 1 0 from (Or.inl ⟨rfl, (okP_7 sv_1).mpr (by omega)⟩)), ht⟩) (by intro q hq; cases hq) dX5_isAct_154
  · -- case 8
    refine lv_tableIn (tgt := 187) (off := 186) hx hb dX5_isAct_1 (by omega) (by omega) (by rw [sv_1]; rfl) (by decide) ?_
    refine lv_iload_n hx hb dX5_isAct_187 rfl (lv_at hl 1 rfl) ?_
    refine vp_callSi (va_runS (As := [.int aa]) (rest := []) ⟨hx, hb, hml, hown, hts⟩ (s_X5_isName l aa) (va_cwS 1 hts h_X5_isAct_X5_isName_115 rfl rfl rfl (by decide +kernel) ⟨Nat.le_of_ble_eq_true rfl, Nat.le_of_ble_eq_true rfl⟩) ⟨fun _ _ _ _ q => q, fun _ _ _ => ⟨rfl, trivial⟩⟩ rfl rfl hl.1 rfl (lv_room (Nat.le_of_ble_eq_true rfl)) dX5_isAct_188 ⟨Nat.le_of_ble_eq_true rfl, Nat.le_of_ble_eq_true rfl⟩).run (fun r_43 hw_43 => ?_)
    replace hw_43 : (two r_43 (V6 aa) 1 0) := hw_43
    have q_r_43 := hw_43
    refine lv_if_eq (tgt := 205) hx hb dX5_isAct_191 (by decide) (fun c_44 => ?_) (fun c_44 => ?_)
    · -- yes
      have k_44 : r_43.toInt = (0 : Int32).toInt := ci_eq c_44
      have kt_44 : ¬ (V6 aa) := two_z q_r_43 c_44
      refine lv_iconst (v := 0) hx hb dX5_isAct_205 (by decide) ?_
      exact W.zret (v := 0) (ty := .boolean) hx hb hr rfl (fun t ht hW => ⟨0, rfl, (show two (0 : Int32) (okP ka aa ba ca da ea) 1 0 from (Or.inr ⟨rfl, fun h9 => by have h8 := (okP_8 sv_1).mp h9; omega⟩)), ht⟩) (by intro q hq; cases hq) dX5_isAct_206
    · -- no
      have k_44 : ¬ r_43.toInt = (0 : Int32).toInt := ci_ne c_44
      have kt_44 : V6 aa := two_nz q_r_43 c_44
      refine lv_iload_n hx hb dX5_isAct_194 rfl (lv_at hl 2 rfl) ?_
      refine vp_callSi (va_runS (As := [.int ba]) (rest := []) ⟨hx, hb, hml, hown, hts⟩ (s_X5_isName l ba) (va_cwS 1 hts h_X5_isAct_X5_isName_115 rfl rfl rfl (by decide +kernel) ⟨Nat.le_of_ble_eq_true rfl, Nat.le_of_ble_eq_true rfl⟩) ⟨fun _ _ _ _ q => q, fun _ _ _ => ⟨rfl, trivial⟩⟩ rfl rfl hl.1 rfl (lv_room (Nat.le_of_ble_eq_true rfl)) dX5_isAct_195 ⟨Nat.le_of_ble_eq_true rfl, Nat.le_of_ble_eq_true rfl⟩).run (fun r_45 hw_45 => ?_)
      replace hw_45 : (two r_45 (V6 ba) 1 0) := hw_45
      have q_r_45 := hw_45
      refine lv_if_eq (tgt := 205) hx hb dX5_isAct_198 (by decide) (fun c_46 => ?_) (fun c_46 => ?_)
      · -- yes
        have k_46 : r_45.toInt = (0 : Int32).toInt := ci_eq c_46
        have kt_46 : ¬ (V6 ba) := two_z q_r_45 c_46
        refine lv_iconst (v := 0) hx hb dX5_isAct_205 (by decide) ?_
        exact W.zret (v := 0) (ty := .boolean) hx hb hr rfl (fun t ht hW => ⟨0, rfl, (show two (0 : Int32) (okP ka aa ba ca da ea) 1 0 from (Or.inr ⟨rfl, fun h9 => by have h8 := (okP_8 sv_1).mp h9; omega⟩)), ht⟩) (by intro q hq; cases hq) dX5_isAct_206
      · -- no
        have k_46 : ¬ r_45.toInt = (0 : Int32).toInt := ci_ne c_46
        have kt_46 : V6 ba := two_nz q_r_45 c_46
        refine lv_iconst (v := 1) hx hb dX5_isAct_201 (by decide) ?_
        refine lv_goto (tgt := 206) hx hb dX5_isAct_202 (by decide) ?_
        exact W.zret (v := 1) (ty := .boolean) hx hb hr rfl (fun t ht hW => ⟨1, rfl, (show two (1 : Int32) (okP ka aa ba ca da ea) 1 0 from (Or.inl ⟨rfl, (okP_8 sv_1).mpr (by omega)⟩)), ht⟩) (by intro q hq; cases hq) dX5_isAct_206
  · -- case 9
    refine lv_tableIn (tgt := 207) (off := 206) hx hb dX5_isAct_1 (by omega) (by omega) (by rw [sv_1]; rfl) (by decide) ?_
    refine lv_iload_n hx hb dX5_isAct_207 rfl (lv_at hl 1 rfl) ?_
    refine vp_callSi (va_runS (As := [.int aa]) (rest := []) ⟨hx, hb, hml, hown, hts⟩ (s_X5_isName l aa) (va_cwS 1 hts h_X5_isAct_X5_isName_115 rfl rfl rfl (by decide +kernel) ⟨Nat.le_of_ble_eq_true rfl, Nat.le_of_ble_eq_true rfl⟩) ⟨fun _ _ _ _ q => q, fun _ _ _ => ⟨rfl, trivial⟩⟩ rfl rfl hl.1 rfl (lv_room (Nat.le_of_ble_eq_true rfl)) dX5_isAct_208 ⟨Nat.le_of_ble_eq_true rfl, Nat.le_of_ble_eq_true rfl⟩).run (fun r_47 hw_47 => ?_)
    replace hw_47 : (two r_47 (V6 aa) 1 0) := hw_47
    have q_r_47 := hw_47
    refine lv_if_eq (tgt := 240) hx hb dX5_isAct_211 (by decide) (fun c_48 => ?_) (fun c_48 => ?_)
    · -- yes
      have k_48 : r_47.toInt = (0 : Int32).toInt := ci_eq c_48
      have kt_48 : ¬ (V6 aa) := two_z q_r_47 c_48
      refine lv_iconst (v := 0) hx hb dX5_isAct_240 (by decide) ?_
      exact W.zret (v := 0) (ty := .boolean) hx hb hr rfl (fun t ht hW => ⟨0, rfl, (show two (0 : Int32) (okP ka aa ba ca da ea) 1 0 from (Or.inr ⟨rfl, fun h9 => by have h8 := (okP_9 sv_1).mp h9; omega⟩)), ht⟩) (by intro q hq; cases hq) dX5_isAct_241
    · -- no
      have k_48 : ¬ r_47.toInt = (0 : Int32).toInt := ci_ne c_48
      have kt_48 : V6 aa := two_nz q_r_47 c_48
      refine lv_iload_n hx hb dX5_isAct_214 rfl (lv_at hl 2 rfl) ?_
      refine vp_callSi (va_runS (As := [.int ba]) (rest := []) ⟨hx, hb, hml, hown, hts⟩ (s_X5_isLane l ba) (va_cwS 1 hts h_X5_isAct_X5_isLane_122 rfl rfl rfl (by decide +kernel) ⟨Nat.le_of_ble_eq_true rfl, Nat.le_of_ble_eq_true rfl⟩) ⟨fun _ _ _ _ q => q, fun _ _ _ => ⟨rfl, trivial⟩⟩ rfl rfl hl.1 rfl (lv_room (Nat.le_of_ble_eq_true rfl)) dX5_isAct_215 ⟨Nat.le_of_ble_eq_true rfl, Nat.le_of_ble_eq_true rfl⟩).run (fun r_49 hw_49 => ?_)
      replace hw_49 : (two r_49 (V3 ba) 1 0) := hw_49
      have q_r_49 := hw_49
      refine lv_if_eq (tgt := 240) hx hb dX5_isAct_218 (by decide) (fun c_50 => ?_) (fun c_50 => ?_)
      · -- yes
        have k_50 : r_49.toInt = (0 : Int32).toInt := ci_eq c_50
        have kt_50 : ¬ (V3 ba) := two_z q_r_49 c_50
        refine lv_iconst (v := 0) hx hb dX5_isAct_240 (by decide) ?_
        exact W.zret (v := 0) (ty := .boolean) hx hb hr rfl (fun t ht hW => ⟨0, rfl, (show two (0 : Int32) (okP ka aa ba ca da ea) 1 0 from (Or.inr ⟨rfl, fun h9 => by have h8 := (okP_9 sv_1).mp h9; omega⟩)), ht⟩) (by intro q hq; cases hq) dX5_isAct_241
      · -- no
        have k_50 : ¬ r_49.toInt = (0 : Int32).toInt := ci_ne c_50
        have kt_50 : V3 ba := two_nz q_r_49 c_50
        refine lv_iload_n hx hb dX5_isAct_221 rfl (lv_at hl 3 rfl) ?_
        refine vp_callSi (va_runS (As := [.int ca]) (rest := []) ⟨hx, hb, hml, hown, hts⟩ (s_X5_isName l ca) (va_cwS 1 hts h_X5_isAct_X5_isName_115 rfl rfl rfl (by decide +kernel) ⟨Nat.le_of_ble_eq_true rfl, Nat.le_of_ble_eq_true rfl⟩) ⟨fun _ _ _ _ q => q, fun _ _ _ => ⟨rfl, trivial⟩⟩ rfl rfl hl.1 rfl (lv_room (Nat.le_of_ble_eq_true rfl)) dX5_isAct_222 ⟨Nat.le_of_ble_eq_true rfl, Nat.le_of_ble_eq_true rfl⟩).run (fun r_51 hw_51 => ?_)
        replace hw_51 : (two r_51 (V6 ca) 1 0) := hw_51
        have q_r_51 := hw_51
        refine lv_if_eq (tgt := 240) hx hb dX5_isAct_225 (by decide) (fun c_52 => ?_) (fun c_52 => ?_)
        · -- yes
          have k_52 : r_51.toInt = (0 : Int32).toInt := ci_eq c_52
          have kt_52 : ¬ (V6 ca) := two_z q_r_51 c_52
          refine lv_iconst (v := 0) hx hb dX5_isAct_240 (by decide) ?_
          exact W.zret (v := 0) (ty := .boolean) hx hb hr rfl (fun t ht hW => ⟨0, rfl, (show two (0 : Int32) (okP ka aa ba ca da ea) 1 0 from (Or.inr ⟨rfl, fun h9 => by have h8 := (okP_9 sv_1).mp h9; omega⟩)), ht⟩) (by intro q hq; cases hq) dX5_isAct_241
        · -- no
          have k_52 : ¬ r_51.toInt = (0 : Int32).toInt := ci_ne c_52
          have kt_52 : V6 ca := two_nz q_r_51 c_52
          refine lv_iload hx hb dX5_isAct_228 (lv_at hl 4 rfl) ?_
          refine vp_callSi (va_runS (As := [.int da]) (rest := []) ⟨hx, hb, hml, hown, hts⟩ (s_X5_isName l da) (va_cwS 1 hts h_X5_isAct_X5_isName_115 rfl rfl rfl (by decide +kernel) ⟨Nat.le_of_ble_eq_true rfl, Nat.le_of_ble_eq_true rfl⟩) ⟨fun _ _ _ _ q => q, fun _ _ _ => ⟨rfl, trivial⟩⟩ rfl rfl hl.1 rfl (lv_room (Nat.le_of_ble_eq_true rfl)) dX5_isAct_230 ⟨Nat.le_of_ble_eq_true rfl, Nat.le_of_ble_eq_true rfl⟩).run (fun r_53 hw_53 => ?_)
          replace hw_53 : (two r_53 (V6 da) 1 0) := hw_53
          have q_r_53 := hw_53
          refine lv_if_eq (tgt := 240) hx hb dX5_isAct_233 (by decide) (fun c_54 => ?_) (fun c_54 => ?_)
          · -- yes
            have k_54 : r_53.toInt = (0 : Int32).toInt := ci_eq c_54
            have kt_54 : ¬ (V6 da) := two_z q_r_53 c_54
            refine lv_iconst (v := 0) hx hb dX5_isAct_240 (by decide) ?_
            exact W.zret (v := 0) (ty := .boolean) hx hb hr rfl (fun t ht hW => ⟨0, rfl, (show two (0 : Int32) (okP ka aa ba ca da ea) 1 0 from (Or.inr ⟨rfl, fun h9 => by have h8 := (okP_9 sv_1).mp h9; omega⟩)), ht⟩) (by intro q hq; cases hq) dX5_isAct_241
          · -- no
            have k_54 : ¬ r_53.toInt = (0 : Int32).toInt := ci_ne c_54
            have kt_54 : V6 da := two_nz q_r_53 c_54
            refine lv_iconst (v := 1) hx hb dX5_isAct_236 (by decide) ?_
            refine lv_goto (tgt := 241) hx hb dX5_isAct_237 (by decide) ?_
            exact W.zret (v := 1) (ty := .boolean) hx hb hr rfl (fun t ht hW => ⟨1, rfl, (show two (1 : Int32) (okP ka aa ba ca da ea) 1 0 from (Or.inl ⟨rfl, (okP_9 sv_1).mpr (by omega)⟩)), ht⟩) (by intro q hq; cases hq) dX5_isAct_241
  · -- case 10
    refine lv_tableIn (tgt := 242) (off := 241) hx hb dX5_isAct_1 (by omega) (by omega) (by rw [sv_1]; rfl) (by decide) ?_
    refine lv_iload_n hx hb dX5_isAct_242 rfl (lv_at hl 1 rfl) ?_
    refine vp_callSi (va_runS (As := [.int aa]) (rest := []) ⟨hx, hb, hml, hown, hts⟩ (s_X5_isName l aa) (va_cwS 1 hts h_X5_isAct_X5_isName_115 rfl rfl rfl (by decide +kernel) ⟨Nat.le_of_ble_eq_true rfl, Nat.le_of_ble_eq_true rfl⟩) ⟨fun _ _ _ _ q => q, fun _ _ _ => ⟨rfl, trivial⟩⟩ rfl rfl hl.1 rfl (lv_room (Nat.le_of_ble_eq_true rfl)) dX5_isAct_243 ⟨Nat.le_of_ble_eq_true rfl, Nat.le_of_ble_eq_true rfl⟩).run (fun r_55 hw_55 => ?_)
    replace hw_55 : (two r_55 (V6 aa) 1 0) := hw_55
    have q_r_55 := hw_55
    refine lv_if_eq (tgt := 275) hx hb dX5_isAct_246 (by decide) (fun c_56 => ?_) (fun c_56 => ?_)
    · -- yes
      have k_56 : r_55.toInt = (0 : Int32).toInt := ci_eq c_56
      have kt_56 : ¬ (V6 aa) := two_z q_r_55 c_56
      refine lv_iconst (v := 0) hx hb dX5_isAct_275 (by decide) ?_
      exact W.zret (v := 0) (ty := .boolean) hx hb hr rfl (fun t ht hW => ⟨0, rfl, (show two (0 : Int32) (okP ka aa ba ca da ea) 1 0 from (Or.inr ⟨rfl, fun h9 => by have h8 := (okP_10 sv_1).mp h9; omega⟩)), ht⟩) (by intro q hq; cases hq) dX5_isAct_276
    · -- no
      have k_56 : ¬ r_55.toInt = (0 : Int32).toInt := ci_ne c_56
      have kt_56 : V6 aa := two_nz q_r_55 c_56
      refine lv_iload_n hx hb dX5_isAct_249 rfl (lv_at hl 2 rfl) ?_
      refine vp_callSi (va_runS (As := [.int ba]) (rest := []) ⟨hx, hb, hml, hown, hts⟩ (s_X5_isName l ba) (va_cwS 1 hts h_X5_isAct_X5_isName_115 rfl rfl rfl (by decide +kernel) ⟨Nat.le_of_ble_eq_true rfl, Nat.le_of_ble_eq_true rfl⟩) ⟨fun _ _ _ _ q => q, fun _ _ _ => ⟨rfl, trivial⟩⟩ rfl rfl hl.1 rfl (lv_room (Nat.le_of_ble_eq_true rfl)) dX5_isAct_250 ⟨Nat.le_of_ble_eq_true rfl, Nat.le_of_ble_eq_true rfl⟩).run (fun r_57 hw_57 => ?_)
      replace hw_57 : (two r_57 (V6 ba) 1 0) := hw_57
      have q_r_57 := hw_57
      refine lv_if_eq (tgt := 275) hx hb dX5_isAct_253 (by decide) (fun c_58 => ?_) (fun c_58 => ?_)
      · -- yes
        have k_58 : r_57.toInt = (0 : Int32).toInt := ci_eq c_58
        have kt_58 : ¬ (V6 ba) := two_z q_r_57 c_58
        refine lv_iconst (v := 0) hx hb dX5_isAct_275 (by decide) ?_
        exact W.zret (v := 0) (ty := .boolean) hx hb hr rfl (fun t ht hW => ⟨0, rfl, (show two (0 : Int32) (okP ka aa ba ca da ea) 1 0 from (Or.inr ⟨rfl, fun h9 => by have h8 := (okP_10 sv_1).mp h9; omega⟩)), ht⟩) (by intro q hq; cases hq) dX5_isAct_276
      · -- no
        have k_58 : ¬ r_57.toInt = (0 : Int32).toInt := ci_ne c_58
        have kt_58 : V6 ba := two_nz q_r_57 c_58
        refine lv_iload_n hx hb dX5_isAct_256 rfl (lv_at hl 3 rfl) ?_
        refine vp_callSi (va_runS (As := [.int ca]) (rest := []) ⟨hx, hb, hml, hown, hts⟩ (s_X5_isLane l ca) (va_cwS 1 hts h_X5_isAct_X5_isLane_122 rfl rfl rfl (by decide +kernel) ⟨Nat.le_of_ble_eq_true rfl, Nat.le_of_ble_eq_true rfl⟩) ⟨fun _ _ _ _ q => q, fun _ _ _ => ⟨rfl, trivial⟩⟩ rfl rfl hl.1 rfl (lv_room (Nat.le_of_ble_eq_true rfl)) dX5_isAct_257 ⟨Nat.le_of_ble_eq_true rfl, Nat.le_of_ble_eq_true rfl⟩).run (fun r_59 hw_59 => ?_)
        replace hw_59 : (two r_59 (V3 ca) 1 0) := hw_59
        have q_r_59 := hw_59
        refine lv_if_eq (tgt := 275) hx hb dX5_isAct_260 (by decide) (fun c_60 => ?_) (fun c_60 => ?_)
        · -- yes
          have k_60 : r_59.toInt = (0 : Int32).toInt := ci_eq c_60
          have kt_60 : ¬ (V3 ca) := two_z q_r_59 c_60
          refine lv_iconst (v := 0) hx hb dX5_isAct_275 (by decide) ?_
          exact W.zret (v := 0) (ty := .boolean) hx hb hr rfl (fun t ht hW => ⟨0, rfl, (show two (0 : Int32) (okP ka aa ba ca da ea) 1 0 from (Or.inr ⟨rfl, fun h9 => by have h8 := (okP_10 sv_1).mp h9; omega⟩)), ht⟩) (by intro q hq; cases hq) dX5_isAct_276
        · -- no
          have k_60 : ¬ r_59.toInt = (0 : Int32).toInt := ci_ne c_60
          have kt_60 : V3 ca := two_nz q_r_59 c_60
          refine lv_iload hx hb dX5_isAct_263 (lv_at hl 4 rfl) ?_
          refine vp_callSi (va_runS (As := [.int da]) (rest := []) ⟨hx, hb, hml, hown, hts⟩ (s_X5_isName l da) (va_cwS 1 hts h_X5_isAct_X5_isName_115 rfl rfl rfl (by decide +kernel) ⟨Nat.le_of_ble_eq_true rfl, Nat.le_of_ble_eq_true rfl⟩) ⟨fun _ _ _ _ q => q, fun _ _ _ => ⟨rfl, trivial⟩⟩ rfl rfl hl.1 rfl (lv_room (Nat.le_of_ble_eq_true rfl)) dX5_isAct_265 ⟨Nat.le_of_ble_eq_true rfl, Nat.le_of_ble_eq_true rfl⟩).run (fun r_61 hw_61 => ?_)
          replace hw_61 : (two r_61 (V6 da) 1 0) := hw_61
          have q_r_61 := hw_61
          refine lv_if_eq (tgt := 275) hx hb dX5_isAct_268 (by decide) (fun c_62 => ?_) (fun c_62 => ?_)
          · -- yes
            have k_62 : r_61.toInt = (0 : Int32).toInt := ci_eq c_62
            have kt_62 : ¬ (V6 da) := two_z q_r_61 c_62
            refine lv_iconst (v := 0) hx hb dX5_isAct_275 (by decide) ?_
            exact W.zret (v := 0) (ty := .boolean) hx hb hr rfl (fun t ht hW => ⟨0, rfl, (show two (0 : Int32) (okP ka aa ba ca da ea) 1 0 from (Or.inr ⟨rfl, fun h9 => by have h8 := (okP_10 sv_1).mp h9; omega⟩)), ht⟩) (by intro q hq; cases hq) dX5_isAct_276
          · -- no
            have k_62 : ¬ r_61.toInt = (0 : Int32).toInt := ci_ne c_62
            have kt_62 : V6 da := two_nz q_r_61 c_62
            refine lv_iconst (v := 1) hx hb dX5_isAct_271 (by decide) ?_
            refine lv_goto (tgt := 276) hx hb dX5_isAct_272 (by decide) ?_
            exact W.zret (v := 1) (ty := .boolean) hx hb hr rfl (fun t ht hW => ⟨1, rfl, (show two (1 : Int32) (okP ka aa ba ca da ea) 1 0 from (Or.inl ⟨rfl, (okP_10 sv_1).mpr (by omega)⟩)), ht⟩) (by intro q hq; cases hq) dX5_isAct_276
  · -- case 11
    refine lv_tableIn (tgt := 277) (off := 276) hx hb dX5_isAct_1 (by omega) (by omega) (by rw [sv_1]; rfl) (by decide) ?_
    refine lv_iload_n hx hb dX5_isAct_277 rfl (lv_at hl 1 rfl) ?_
    refine vp_callSi (va_runS (As := [.int aa]) (rest := []) ⟨hx, hb, hml, hown, hts⟩ (s_X5_isName l aa) (va_cwS 1 hts h_X5_isAct_X5_isName_115 rfl rfl rfl (by decide +kernel) ⟨Nat.le_of_ble_eq_true rfl, Nat.le_of_ble_eq_true rfl⟩) ⟨fun _ _ _ _ q => q, fun _ _ _ => ⟨rfl, trivial⟩⟩ rfl rfl hl.1 rfl (lv_room (Nat.le_of_ble_eq_true rfl)) dX5_isAct_278 ⟨Nat.le_of_ble_eq_true rfl, Nat.le_of_ble_eq_true rfl⟩).run (fun r_63 hw_63 => ?_)
    replace hw_63 : (two r_63 (V6 aa) 1 0) := hw_63
    have q_r_63 := hw_63
    refine lv_if_eq (tgt := 318) hx hb dX5_isAct_281 (by decide) (fun c_64 => ?_) (fun c_64 => ?_)
    · -- yes
      have k_64 : r_63.toInt = (0 : Int32).toInt := ci_eq c_64
      have kt_64 : ¬ (V6 aa) := two_z q_r_63 c_64
      refine lv_iconst (v := 0) hx hb dX5_isAct_318 (by decide) ?_
      exact W.zret (v := 0) (ty := .boolean) hx hb hr rfl (fun t ht hW => ⟨0, rfl, (show two (0 : Int32) (okP ka aa ba ca da ea) 1 0 from (Or.inr ⟨rfl, fun h9 => by have h8 := (okP_11 sv_1).mp h9; omega⟩)), ht⟩) (by intro q hq; cases hq) dX5_isAct_319
    · -- no
      have k_64 : ¬ r_63.toInt = (0 : Int32).toInt := ci_ne c_64
      have kt_64 : V6 aa := two_nz q_r_63 c_64
      refine lv_iload_n hx hb dX5_isAct_284 rfl (lv_at hl 2 rfl) ?_
      refine vp_callSi (va_runS (As := [.int ba]) (rest := []) ⟨hx, hb, hml, hown, hts⟩ (s_X5_isName l ba) (va_cwS 1 hts h_X5_isAct_X5_isName_115 rfl rfl rfl (by decide +kernel) ⟨Nat.le_of_ble_eq_true rfl, Nat.le_of_ble_eq_true rfl⟩) ⟨fun _ _ _ _ q => q, fun _ _ _ => ⟨rfl, trivial⟩⟩ rfl rfl hl.1 rfl (lv_room (Nat.le_of_ble_eq_true rfl)) dX5_isAct_285 ⟨Nat.le_of_ble_eq_true rfl, Nat.le_of_ble_eq_true rfl⟩).run (fun r_65 hw_65 => ?_)
      replace hw_65 : (two r_65 (V6 ba) 1 0) := hw_65
      have q_r_65 := hw_65
      refine lv_if_eq (tgt := 318) hx hb dX5_isAct_288 (by decide) (fun c_66 => ?_) (fun c_66 => ?_)
      · -- yes
        have k_66 : r_65.toInt = (0 : Int32).toInt := ci_eq c_66
        have kt_66 : ¬ (V6 ba) := two_z q_r_65 c_66
        refine lv_iconst (v := 0) hx hb dX5_isAct_318 (by decide) ?_
        exact W.zret (v := 0) (ty := .boolean) hx hb hr rfl (fun t ht hW => ⟨0, rfl, (show two (0 : Int32) (okP ka aa ba ca da ea) 1 0 from (Or.inr ⟨rfl, fun h9 => by have h8 := (okP_11 sv_1).mp h9; omega⟩)), ht⟩) (by intro q hq; cases hq) dX5_isAct_319
      · -- no
        have k_66 : ¬ r_65.toInt = (0 : Int32).toInt := ci_ne c_66
        have kt_66 : V6 ba := two_nz q_r_65 c_66
        refine lv_iload_n hx hb dX5_isAct_291 rfl (lv_at hl 3 rfl) ?_
        refine vp_callSi (va_runS (As := [.int ca]) (rest := []) ⟨hx, hb, hml, hown, hts⟩ (s_X5_isName l ca) (va_cwS 1 hts h_X5_isAct_X5_isName_115 rfl rfl rfl (by decide +kernel) ⟨Nat.le_of_ble_eq_true rfl, Nat.le_of_ble_eq_true rfl⟩) ⟨fun _ _ _ _ q => q, fun _ _ _ => ⟨rfl, trivial⟩⟩ rfl rfl hl.1 rfl (lv_room (Nat.le_of_ble_eq_true rfl)) dX5_isAct_292 ⟨Nat.le_of_ble_eq_true rfl, Nat.le_of_ble_eq_true rfl⟩).run (fun r_67 hw_67 => ?_)
        replace hw_67 : (two r_67 (V6 ca) 1 0) := hw_67
        have q_r_67 := hw_67
        refine lv_if_eq (tgt := 318) hx hb dX5_isAct_295 (by decide) (fun c_68 => ?_) (fun c_68 => ?_)
        · -- yes
          have k_68 : r_67.toInt = (0 : Int32).toInt := ci_eq c_68
          have kt_68 : ¬ (V6 ca) := two_z q_r_67 c_68
          refine lv_iconst (v := 0) hx hb dX5_isAct_318 (by decide) ?_
          exact W.zret (v := 0) (ty := .boolean) hx hb hr rfl (fun t ht hW => ⟨0, rfl, (show two (0 : Int32) (okP ka aa ba ca da ea) 1 0 from (Or.inr ⟨rfl, fun h9 => by have h8 := (okP_11 sv_1).mp h9; omega⟩)), ht⟩) (by intro q hq; cases hq) dX5_isAct_319
        · -- no
          have k_68 : ¬ r_67.toInt = (0 : Int32).toInt := ci_ne c_68
          have kt_68 : V6 ca := two_nz q_r_67 c_68
          refine lv_iload hx hb dX5_isAct_298 (lv_at hl 4 rfl) ?_
          refine vp_callSi (va_runS (As := [.int da]) (rest := []) ⟨hx, hb, hml, hown, hts⟩ (s_X5_isName l da) (va_cwS 1 hts h_X5_isAct_X5_isName_115 rfl rfl rfl (by decide +kernel) ⟨Nat.le_of_ble_eq_true rfl, Nat.le_of_ble_eq_true rfl⟩) ⟨fun _ _ _ _ q => q, fun _ _ _ => ⟨rfl, trivial⟩⟩ rfl rfl hl.1 rfl (lv_room (Nat.le_of_ble_eq_true rfl)) dX5_isAct_300 ⟨Nat.le_of_ble_eq_true rfl, Nat.le_of_ble_eq_true rfl⟩).run (fun r_69 hw_69 => ?_)
          replace hw_69 : (two r_69 (V6 da) 1 0) := hw_69
          have q_r_69 := hw_69
          refine lv_if_eq (tgt := 318) hx hb dX5_isAct_303 (by decide) (fun c_70 => ?_) (fun c_70 => ?_)
          · -- yes
            have k_70 : r_69.toInt = (0 : Int32).toInt := ci_eq c_70
            have kt_70 : ¬ (V6 da) := two_z q_r_69 c_70
            refine lv_iconst (v := 0) hx hb dX5_isAct_318 (by decide) ?_
            exact W.zret (v := 0) (ty := .boolean) hx hb hr rfl (fun t ht hW => ⟨0, rfl, (show two (0 : Int32) (okP ka aa ba ca da ea) 1 0 from (Or.inr ⟨rfl, fun h9 => by have h8 := (okP_11 sv_1).mp h9; omega⟩)), ht⟩) (by intro q hq; cases hq) dX5_isAct_319
          · -- no
            have k_70 : ¬ r_69.toInt = (0 : Int32).toInt := ci_ne c_70
            have kt_70 : V6 da := two_nz q_r_69 c_70
            refine lv_iload hx hb dX5_isAct_306 (lv_at hl 5 rfl) ?_
            refine vp_callSi (va_runS (As := [.int ea]) (rest := []) ⟨hx, hb, hml, hown, hts⟩ (s_X5_isName l ea) (va_cwS 1 hts h_X5_isAct_X5_isName_115 rfl rfl rfl (by decide +kernel) ⟨Nat.le_of_ble_eq_true rfl, Nat.le_of_ble_eq_true rfl⟩) ⟨fun _ _ _ _ q => q, fun _ _ _ => ⟨rfl, trivial⟩⟩ rfl rfl hl.1 rfl (lv_room (Nat.le_of_ble_eq_true rfl)) dX5_isAct_308 ⟨Nat.le_of_ble_eq_true rfl, Nat.le_of_ble_eq_true rfl⟩).run (fun r_71 hw_71 => ?_)
            replace hw_71 : (two r_71 (V6 ea) 1 0) := hw_71
            have q_r_71 := hw_71
            refine lv_if_eq (tgt := 318) hx hb dX5_isAct_311 (by decide) (fun c_72 => ?_) (fun c_72 => ?_)
            · -- yes
              have k_72 : r_71.toInt = (0 : Int32).toInt := ci_eq c_72
              have kt_72 : ¬ (V6 ea) := two_z q_r_71 c_72
              refine lv_iconst (v := 0) hx hb dX5_isAct_318 (by decide) ?_
              exact W.zret (v := 0) (ty := .boolean) hx hb hr rfl (fun t ht hW => ⟨0, rfl, (show two (0 : Int32) (okP ka aa ba ca da ea) 1 0 from (Or.inr ⟨rfl, fun h9 => by have h8 := (okP_11 sv_1).mp h9; omega⟩)), ht⟩) (by intro q hq; cases hq) dX5_isAct_319
            · -- no
              have k_72 : ¬ r_71.toInt = (0 : Int32).toInt := ci_ne c_72
              have kt_72 : V6 ea := two_nz q_r_71 c_72
              refine lv_iconst (v := 1) hx hb dX5_isAct_314 (by decide) ?_
              refine lv_goto (tgt := 319) hx hb dX5_isAct_315 (by decide) ?_
              exact W.zret (v := 1) (ty := .boolean) hx hb hr rfl (fun t ht hW => ⟨1, rfl, (show two (1 : Int32) (okP ka aa ba ca da ea) 1 0 from (Or.inl ⟨rfl, (okP_11 sv_1).mpr (by omega)⟩)), ht⟩) (by intro q hq; cases hq) dX5_isAct_319
  · -- case 12
    refine lv_tableIn (tgt := 320) (off := 319) hx hb dX5_isAct_1 (by omega) (by omega) (by rw [sv_1]; rfl) (by decide) ?_
    refine lv_iload_n hx hb dX5_isAct_320 rfl (lv_at hl 1 rfl) ?_
    refine vp_callSi (va_runS (As := [.int aa]) (rest := []) ⟨hx, hb, hml, hown, hts⟩ (s_X5_isName l aa) (va_cwS 1 hts h_X5_isAct_X5_isName_115 rfl rfl rfl (by decide +kernel) ⟨Nat.le_of_ble_eq_true rfl, Nat.le_of_ble_eq_true rfl⟩) ⟨fun _ _ _ _ q => q, fun _ _ _ => ⟨rfl, trivial⟩⟩ rfl rfl hl.1 rfl (lv_room (Nat.le_of_ble_eq_true rfl)) dX5_isAct_321 ⟨Nat.le_of_ble_eq_true rfl, Nat.le_of_ble_eq_true rfl⟩).run (fun r_73 hw_73 => ?_)
    replace hw_73 : (two r_73 (V6 aa) 1 0) := hw_73
    have q_r_73 := hw_73
    refine lv_if_eq (tgt := 361) hx hb dX5_isAct_324 (by decide) (fun c_74 => ?_) (fun c_74 => ?_)
    · -- yes
      have k_74 : r_73.toInt = (0 : Int32).toInt := ci_eq c_74
      have kt_74 : ¬ (V6 aa) := two_z q_r_73 c_74
      refine lv_iconst (v := 0) hx hb dX5_isAct_361 (by decide) ?_
      exact W.zret (v := 0) (ty := .boolean) hx hb hr rfl (fun t ht hW => ⟨0, rfl, (show two (0 : Int32) (okP ka aa ba ca da ea) 1 0 from (Or.inr ⟨rfl, fun h9 => by have h8 := (okP_12 sv_1).mp h9; omega⟩)), ht⟩) (by intro q hq; cases hq) dX5_isAct_362
    · -- no
      have k_74 : ¬ r_73.toInt = (0 : Int32).toInt := ci_ne c_74
      have kt_74 : V6 aa := two_nz q_r_73 c_74
      refine lv_iload_n hx hb dX5_isAct_327 rfl (lv_at hl 2 rfl) ?_
      refine vp_callSi (va_runS (As := [.int ba]) (rest := []) ⟨hx, hb, hml, hown, hts⟩ (s_X5_isLane l ba) (va_cwS 1 hts h_X5_isAct_X5_isLane_122 rfl rfl rfl (by decide +kernel) ⟨Nat.le_of_ble_eq_true rfl, Nat.le_of_ble_eq_true rfl⟩) ⟨fun _ _ _ _ q => q, fun _ _ _ => ⟨rfl, trivial⟩⟩ rfl rfl hl.1 rfl (lv_room (Nat.le_of_ble_eq_true rfl)) dX5_isAct_328 ⟨Nat.le_of_ble_eq_true rfl, Nat.le_of_ble_eq_true rfl⟩).run (fun r_75 hw_75 => ?_)
      replace hw_75 : (two r_75 (V3 ba) 1 0) := hw_75
      have q_r_75 := hw_75
      refine lv_if_eq (tgt := 361) hx hb dX5_isAct_331 (by decide) (fun c_76 => ?_) (fun c_76 => ?_)
      · -- yes
        have k_76 : r_75.toInt = (0 : Int32).toInt := ci_eq c_76
        have kt_76 : ¬ (V3 ba) := two_z q_r_75 c_76
        refine lv_iconst (v := 0) hx hb dX5_isAct_361 (by decide) ?_
        exact W.zret (v := 0) (ty := .boolean) hx hb hr rfl (fun t ht hW => ⟨0, rfl, (show two (0 : Int32) (okP ka aa ba ca da ea) 1 0 from (Or.inr ⟨rfl, fun h9 => by have h8 := (okP_12 sv_1).mp h9; omega⟩)), ht⟩) (by intro q hq; cases hq) dX5_isAct_362
      · -- no
        have k_76 : ¬ r_75.toInt = (0 : Int32).toInt := ci_ne c_76
        have kt_76 : V3 ba := two_nz q_r_75 c_76
        refine lv_iload_n hx hb dX5_isAct_334 rfl (lv_at hl 3 rfl) ?_
        refine vp_callSi (va_runS (As := [.int ca]) (rest := []) ⟨hx, hb, hml, hown, hts⟩ (s_X5_isName l ca) (va_cwS 1 hts h_X5_isAct_X5_isName_115 rfl rfl rfl (by decide +kernel) ⟨Nat.le_of_ble_eq_true rfl, Nat.le_of_ble_eq_true rfl⟩) ⟨fun _ _ _ _ q => q, fun _ _ _ => ⟨rfl, trivial⟩⟩ rfl rfl hl.1 rfl (lv_room (Nat.le_of_ble_eq_true rfl)) dX5_isAct_335 ⟨Nat.le_of_ble_eq_true rfl, Nat.le_of_ble_eq_true rfl⟩).run (fun r_77 hw_77 => ?_)
        replace hw_77 : (two r_77 (V6 ca) 1 0) := hw_77
        have q_r_77 := hw_77
        refine lv_if_eq (tgt := 361) hx hb dX5_isAct_338 (by decide) (fun c_78 => ?_) (fun c_78 => ?_)
        · -- yes
          have k_78 : r_77.toInt = (0 : Int32).toInt := ci_eq c_78
          have kt_78 : ¬ (V6 ca) := two_z q_r_77 c_78
          refine lv_iconst (v := 0) hx hb dX5_isAct_361 (by decide) ?_
          exact W.zret (v := 0) (ty := .boolean) hx hb hr rfl (fun t ht hW => ⟨0, rfl, (show two (0 : Int32) (okP ka aa ba ca da ea) 1 0 from (Or.inr ⟨rfl, fun h9 => by have h8 := (okP_12 sv_1).mp h9; omega⟩)), ht⟩) (by intro q hq; cases hq) dX5_isAct_362
        · -- no
          have k_78 : ¬ r_77.toInt = (0 : Int32).toInt := ci_ne c_78
          have kt_78 : V6 ca := two_nz q_r_77 c_78
          refine lv_iload hx hb dX5_isAct_341 (lv_at hl 4 rfl) ?_
          refine vp_callSi (va_runS (As := [.int da]) (rest := []) ⟨hx, hb, hml, hown, hts⟩ (s_X5_isName l da) (va_cwS 1 hts h_X5_isAct_X5_isName_115 rfl rfl rfl (by decide +kernel) ⟨Nat.le_of_ble_eq_true rfl, Nat.le_of_ble_eq_true rfl⟩) ⟨fun _ _ _ _ q => q, fun _ _ _ => ⟨rfl, trivial⟩⟩ rfl rfl hl.1 rfl (lv_room (Nat.le_of_ble_eq_true rfl)) dX5_isAct_343 ⟨Nat.le_of_ble_eq_true rfl, Nat.le_of_ble_eq_true rfl⟩).run (fun r_79 hw_79 => ?_)
          replace hw_79 : (two r_79 (V6 da) 1 0) := hw_79
          have q_r_79 := hw_79
          refine lv_if_eq (tgt := 361) hx hb dX5_isAct_346 (by decide) (fun c_80 => ?_) (fun c_80 => ?_)
          · -- yes
            have k_80 : r_79.toInt = (0 : Int32).toInt := ci_eq c_80
            have kt_80 : ¬ (V6 da) := two_z q_r_79 c_80
            refine lv_iconst (v := 0) hx hb dX5_isAct_361 (by decide) ?_
            exact W.zret (v := 0) (ty := .boolean) hx hb hr rfl (fun t ht hW => ⟨0, rfl, (show two (0 : Int32) (okP ka aa ba ca da ea) 1 0 from (Or.inr ⟨rfl, fun h9 => by have h8 := (okP_12 sv_1).mp h9; omega⟩)), ht⟩) (by intro q hq; cases hq) dX5_isAct_362
          · -- no
            have k_80 : ¬ r_79.toInt = (0 : Int32).toInt := ci_ne c_80
            have kt_80 : V6 da := two_nz q_r_79 c_80
            refine lv_iload hx hb dX5_isAct_349 (lv_at hl 5 rfl) ?_
            refine vp_callSi (va_runS (As := [.int ea]) (rest := []) ⟨hx, hb, hml, hown, hts⟩ (s_X5_isName l ea) (va_cwS 1 hts h_X5_isAct_X5_isName_115 rfl rfl rfl (by decide +kernel) ⟨Nat.le_of_ble_eq_true rfl, Nat.le_of_ble_eq_true rfl⟩) ⟨fun _ _ _ _ q => q, fun _ _ _ => ⟨rfl, trivial⟩⟩ rfl rfl hl.1 rfl (lv_room (Nat.le_of_ble_eq_true rfl)) dX5_isAct_351 ⟨Nat.le_of_ble_eq_true rfl, Nat.le_of_ble_eq_true rfl⟩).run (fun r_81 hw_81 => ?_)
            replace hw_81 : (two r_81 (V6 ea) 1 0) := hw_81
            have q_r_81 := hw_81
            refine lv_if_eq (tgt := 361) hx hb dX5_isAct_354 (by decide) (fun c_82 => ?_) (fun c_82 => ?_)
            · -- yes
              have k_82 : r_81.toInt = (0 : Int32).toInt := ci_eq c_82
              have kt_82 : ¬ (V6 ea) := two_z q_r_81 c_82
              refine lv_iconst (v := 0) hx hb dX5_isAct_361 (by decide) ?_
              exact W.zret (v := 0) (ty := .boolean) hx hb hr rfl (fun t ht hW => ⟨0, rfl, (show two (0 : Int32) (okP ka aa ba ca da ea) 1 0 from (Or.inr ⟨rfl, fun h9 => by have h8 := (okP_12 sv_1).mp h9; omega⟩)), ht⟩) (by intro q hq; cases hq) dX5_isAct_362
            · -- no
              have k_82 : ¬ r_81.toInt = (0 : Int32).toInt := ci_ne c_82
              have kt_82 : V6 ea := two_nz q_r_81 c_82
              refine lv_iconst (v := 1) hx hb dX5_isAct_357 (by decide) ?_
              refine lv_goto (tgt := 362) hx hb dX5_isAct_358 (by decide) ?_
              exact W.zret (v := 1) (ty := .boolean) hx hb hr rfl (fun t ht hW => ⟨1, rfl, (show two (1 : Int32) (okP ka aa ba ca da ea) 1 0 from (Or.inl ⟨rfl, (okP_12 sv_1).mpr (by omega)⟩)), ht⟩) (by intro q hq; cases hq) dX5_isAct_362
  · -- case 13
    refine lv_tableIn (tgt := 187) (off := 186) hx hb dX5_isAct_1 (by omega) (by omega) (by rw [sv_1]; rfl) (by decide) ?_
    refine lv_iload_n hx hb dX5_isAct_187 rfl (lv_at hl 1 rfl) ?_
    refine vp_callSi (va_runS (As := [.int aa]) (rest := []) ⟨hx, hb, hml, hown, hts⟩ (s_X5_isName l aa) (va_cwS 1 hts h_X5_isAct_X5_isName_115 rfl rfl rfl (by decide +kernel) ⟨Nat.le_of_ble_eq_true rfl, Nat.le_of_ble_eq_true rfl⟩) ⟨fun _ _ _ _ q => q, fun _ _ _ => ⟨rfl, trivial⟩⟩ rfl rfl hl.1 rfl (lv_room (Nat.le_of_ble_eq_true rfl)) dX5_isAct_188 ⟨Nat.le_of_ble_eq_true rfl, Nat.le_of_ble_eq_true rfl⟩).run (fun r_83 hw_83 => ?_)
    replace hw_83 : (two r_83 (V6 aa) 1 0) := hw_83
    have q_r_83 := hw_83
    refine lv_if_eq (tgt := 205) hx hb dX5_isAct_191 (by decide) (fun c_84 => ?_) (fun c_84 => ?_)
    · -- yes
      have k_84 : r_83.toInt = (0 : Int32).toInt := ci_eq c_84
      have kt_84 : ¬ (V6 aa) := two_z q_r_83 c_84
      refine lv_iconst (v := 0) hx hb dX5_isAct_205 (by decide) ?_
      exact W.zret (v := 0) (ty := .boolean) hx hb hr rfl (fun t ht hW => ⟨0, rfl, (show two (0 : Int32) (okP ka aa ba ca da ea) 1 0 from (Or.inr ⟨rfl, fun h9 => by have h8 := (okP_13 sv_1).mp h9; omega⟩)), ht⟩) (by intro q hq; cases hq) dX5_isAct_206
    · -- no
      have k_84 : ¬ r_83.toInt = (0 : Int32).toInt := ci_ne c_84
      have kt_84 : V6 aa := two_nz q_r_83 c_84
      refine lv_iload_n hx hb dX5_isAct_194 rfl (lv_at hl 2 rfl) ?_
      refine vp_callSi (va_runS (As := [.int ba]) (rest := []) ⟨hx, hb, hml, hown, hts⟩ (s_X5_isName l ba) (va_cwS 1 hts h_X5_isAct_X5_isName_115 rfl rfl rfl (by decide +kernel) ⟨Nat.le_of_ble_eq_true rfl, Nat.le_of_ble_eq_true rfl⟩) ⟨fun _ _ _ _ q => q, fun _ _ _ => ⟨rfl, trivial⟩⟩ rfl rfl hl.1 rfl (lv_room (Nat.le_of_ble_eq_true rfl)) dX5_isAct_195 ⟨Nat.le_of_ble_eq_true rfl, Nat.le_of_ble_eq_true rfl⟩).run (fun r_85 hw_85 => ?_)
      replace hw_85 : (two r_85 (V6 ba) 1 0) := hw_85
      have q_r_85 := hw_85
      refine lv_if_eq (tgt := 205) hx hb dX5_isAct_198 (by decide) (fun c_86 => ?_) (fun c_86 => ?_)
      · -- yes
        have k_86 : r_85.toInt = (0 : Int32).toInt := ci_eq c_86
        have kt_86 : ¬ (V6 ba) := two_z q_r_85 c_86
        refine lv_iconst (v := 0) hx hb dX5_isAct_205 (by decide) ?_
        exact W.zret (v := 0) (ty := .boolean) hx hb hr rfl (fun t ht hW => ⟨0, rfl, (show two (0 : Int32) (okP ka aa ba ca da ea) 1 0 from (Or.inr ⟨rfl, fun h9 => by have h8 := (okP_13 sv_1).mp h9; omega⟩)), ht⟩) (by intro q hq; cases hq) dX5_isAct_206
      · -- no
        have k_86 : ¬ r_85.toInt = (0 : Int32).toInt := ci_ne c_86
        have kt_86 : V6 ba := two_nz q_r_85 c_86
        refine lv_iconst (v := 1) hx hb dX5_isAct_201 (by decide) ?_
        refine lv_goto (tgt := 206) hx hb dX5_isAct_202 (by decide) ?_
        exact W.zret (v := 1) (ty := .boolean) hx hb hr rfl (fun t ht hW => ⟨1, rfl, (show two (1 : Int32) (okP ka aa ba ca da ea) 1 0 from (Or.inl ⟨rfl, (okP_13 sv_1).mpr (by omega)⟩)), ht⟩) (by intro q hq; cases hq) dX5_isAct_206
  · -- case 14
    refine lv_tableIn (tgt := 363) (off := 362) hx hb dX5_isAct_1 (by omega) (by omega) (by rw [sv_1]; rfl) (by decide) ?_
    refine lv_iload_n hx hb dX5_isAct_363 rfl (lv_at hl 2 rfl) ?_
    refine lv_iconst (v := 1) hx hb dX5_isAct_364 (by decide) ?_
    refine lv_icmp_lt (tgt := 378) hx hb dX5_isAct_365 (by decide) (fun c_87 => ?_) (fun c_87 => ?_)
    · -- yes
      have k_87 : ba.toInt < (1 : Int32).toInt := ci_lt c_87
      refine lv_iconst (v := 0) hx hb dX5_isAct_378 (by decide) ?_
      exact W.zret (v := 0) (ty := .boolean) hx hb hr rfl (fun t ht hW => ⟨0, rfl, (show two (0 : Int32) (okP ka aa ba ca da ea) 1 0 from (Or.inr ⟨rfl, fun h9 => by have h8 := (okP_14 sv_1).mp h9; omega⟩)), ht⟩) (by intro q hq; cases hq) dX5_isAct_379
    · -- no
      have k_87 : (1 : Int32).toInt ≤ ba.toInt := ci_nlt c_87
      refine lv_iload_n hx hb dX5_isAct_368 rfl (lv_at hl 2 rfl) ?_
      refine lv_bipush (v := 10) hx hb dX5_isAct_369 (by decide) ?_
      refine lv_icmp_gt (tgt := 378) hx hb dX5_isAct_371 (by decide) (fun c_88 => ?_) (fun c_88 => ?_)
      · -- yes
        have k_88 : (10 : Int32).toInt < ba.toInt := ci_gt c_88
        refine lv_iconst (v := 0) hx hb dX5_isAct_378 (by decide) ?_
        exact W.zret (v := 0) (ty := .boolean) hx hb hr rfl (fun t ht hW => ⟨0, rfl, (show two (0 : Int32) (okP ka aa ba ca da ea) 1 0 from (Or.inr ⟨rfl, fun h9 => by have h8 := (okP_14 sv_1).mp h9; omega⟩)), ht⟩) (by intro q hq; cases hq) dX5_isAct_379
      · -- no
        have k_88 : ba.toInt ≤ (10 : Int32).toInt := ci_ngt c_88
        refine lv_iconst (v := 1) hx hb dX5_isAct_374 (by decide) ?_
        refine lv_goto (tgt := 379) hx hb dX5_isAct_375 (by decide) ?_
        exact W.zret (v := 1) (ty := .boolean) hx hb hr rfl (fun t ht hW => ⟨1, rfl, (show two (1 : Int32) (okP ka aa ba ca da ea) 1 0 from (Or.inl ⟨rfl, (okP_14 sv_1).mpr (by omega)⟩)), ht⟩) (by intro q hq; cases hq) dX5_isAct_379
  · -- case None
    refine lv_tableOut (tgt := 380) hx hb dX5_isAct_1 sv_1 (by decide) ?_
    refine lv_iconst (v := 0) hx hb dX5_isAct_380 (by decide) ?_
    exact W.zret (v := 0) (ty := .boolean) hx hb hr rfl (fun t ht hW => ⟨0, rfl, (show two (0 : Int32) (okP ka aa ba ca da ea) 1 0 from (Or.inr ⟨rfl, okP_out sv_1⟩)), ht⟩) (by intro q hq; cases hq) dX5_isAct_381
