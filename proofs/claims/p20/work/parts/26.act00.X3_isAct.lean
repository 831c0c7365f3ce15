def v_X3_isAct : List Cond := .code yX3_isAct cX3_isAct 6 (some .boolean) :: ([.initialized RX4, .static yX4_isVariable, .static yX4_isNumber, .static yX4_isReference, .static yX4_isLane] ++ (v_X4_isVariable ++ (v_X4_isNumber ++ (v_X4_isReference ++ (v_X4_isLane)))))
theorem im_X3_isAct_X4_isVariable : ∀ w ∈ v_X4_isVariable, w ∈ v_X3_isAct := fun _ h => List.mem_cons_of_mem _ (List.mem_append_right _ (List.mem_append_left _ h))
theorem im_X3_isAct_X4_isNumber : ∀ w ∈ v_X4_isNumber, w ∈ v_X3_isAct := fun _ h => List.mem_cons_of_mem _ (List.mem_append_right _ (List.mem_append_right _ (List.mem_append_left _ h)))
theorem im_X3_isAct_X4_isReference : ∀ w ∈ v_X4_isReference, w ∈ v_X3_isAct := fun _ h => List.mem_cons_of_mem _ (List.mem_append_right _ (List.mem_append_right _ (List.mem_append_right _ (List.mem_append_left _ h))))
theorem im_X3_isAct_X4_isLane : ∀ w ∈ v_X4_isLane, w ∈ v_X3_isAct := fun _ h => List.mem_cons_of_mem _ (List.mem_append_right _ (List.mem_append_right _ (List.mem_append_right _ (List.mem_append_right _ (h)))))
set_option maxRecDepth 20000 in
theorem gd_X3_isAct : gdL v_X3_isAct := gdC (gdW (by decide +kernel)) (gdA (gdW (by decide +kernel)) (gdA gd_X4_isVariable (gdA gd_X4_isNumber (gdA gd_X4_isReference gd_X4_isLane))))
theorem h_X3_isAct_X4_isVariable_23 : GoodIn v_X3_isAct (v_X4_isVariable) := fun w h => ⟨im_X3_isAct_X4_isVariable w h, gd_X4_isVariable w h⟩
theorem h_X3_isAct_X4_isNumber_27 : GoodIn v_X3_isAct (v_X4_isNumber) := fun w h => ⟨im_X3_isAct_X4_isNumber w h, gd_X4_isNumber w h⟩
theorem h_X3_isAct_X4_isReference_30 : GoodIn v_X3_isAct (v_X4_isReference) := fun w h => ⟨im_X3_isAct_X4_isReference w h, gd_X4_isReference w h⟩
theorem h_X3_isAct_X4_isLane_33 : GoodIn v_X3_isAct (v_X4_isLane) := fun w h => ⟨im_X3_isAct_X4_isLane w h, gd_X4_isLane w h⟩
abbrev sw_X3_isAct (cI cJ cZ : ClassId) (ka : Int32) (aa : Int32) (ba : Int32) (ca : Int32) (da : Int32) (ea : Int32) : va_W := []
set_option maxHeartbeats 8000000 in
set_option maxRecDepth 100000 in
theorem s_X3_isAct (l : Launch) (dC : Nat → ClassId) (dI : Nat → Nat → Nat) (cI cJ cZ : ClassId) (ka : Int32) (aa : Int32) (ba : Int32) (ca : Int32) (da : Int32) (ea : Int32) (sz : Nat) : Met l yX3_isAct v_X3_isAct ({ frames := 1, cells := 0, slots := 0, locals := 20 }) (va_Pc [.int ka, .int aa, .int ba, .int ca, .int da, .int ea] (cPre dC dI cI cJ cZ sz (sw_X3_isAct cI cJ cZ ka aa ba ca da ea))) (va_Qi (fun (r : Int32) (u : Unit) => (two r (okP ka aa ba ca da ea) 1 0)) (fun (u : Unit) => cPost dC dI cI cJ cZ (va_A (sw_X3_isAct cI cJ cZ ka aa ba ca da ea) sz) []) (va_A (sw_X3_isAct cI cJ cZ ka aa ba ca da ea) sz)) 0 0 (va_A (sw_X3_isAct cI cJ cZ ka aa ba ca da ea) sz) := by
  refine Met.ofW (cc := cX3_isAct) (maxL := 6) (ret := (some .boolean)) (by decide) rfl ?_
  intro p e s m args below meth c s₁ B hml hv
  obtain ⟨rfl, hsz, hP, hK, hD0, hN⟩ := hv
  have hx := B.exec
  have hb := B.bytes
  have hr := B.returns
  have hts := atoms_spec (ws := v_X3_isAct) B.pre
  have hown : s.vm.findClass RX3 = some m.cls := findClass_of_methodNamed B.named
  have hlocks := B.notSynchronized
  subst hsz
  have hD := hD0.self (sz := s.heap.size)
  generalize hAe : va_A (sw_X3_isAct cI cJ cZ ka aa ba ca da ea) s.heap.size = A at hD ⊢
  have hA : ∀ q : Nat, s.heap.size ≤ q → A q := fun q h => by rw [← hAe]; exact Or.inr h
  clear hAe hD0
  have hS : va_S A s.heap s.heap [] := va_S.rf
  replace hP : va_P (dC, dI) vwCl [] s.heap := hP
  replace hD : va_D A [] := hD
  have hl := lv_entry ([.int ka, .int aa, .int ba, .int ca, .int da, .int ea]) (n := 6) (Nat.le_of_ble_eq_true rfl)
  rw [lg_entry_eq]
  generalize (lg_sl ([.int ka, .int aa, .int ba, .int ca, .int da, .int ea]) ++ List.replicate (6 - (lg_sl ([.int ka, .int aa, .int ba, .int ca, .int da, .int ea])).length) Slot.unset).toArray = ls at hl ⊢
  replace hl : lv_has ls 6 [(0, .int ka), (1, .int aa), (2, .int ba), (3, .int ca), (4, .int da), (5, .int ea)] := hl
  have z_0 : (0 : Int32).toInt = 0 := by decide
  have z_1 : (1 : Int32).toInt = 1 := by decide
  have z_10 : (10 : Int32).toInt = 10 := by decide
  refine lv_iload_n hx hb dX3_isAct_0 rfl (lv_at hl 0 rfl) ?_
  have sw_1 : ka.toInt = 0 ∨ ka.toInt = 1 ∨ ka.toInt = 2 ∨ ka.toInt = 3 ∨ ka.toInt = 4 ∨ ka.toInt = 5 ∨ ka.toInt = 6 ∨ ka.toInt = 7 ∨ ka.toInt = 8 ∨ ka.toInt = 9 ∨ ka.toInt = 10 ∨ ka.toInt = 11 ∨ ka.toInt = 12 ∨ ka.toInt = 13 ∨ ka.toInt = 14 ∨ (ka.toInt < 0 ∨ 14 < ka.toInt) := by omega
  rcases sw_1 with sv_1 | sv_1 | sv_1 | sv_1 | sv_1 | sv_1 | sv_1 | sv_1 | sv_1 | sv_1 | sv_1 | sv_1 | sv_1 | sv_1 | sv_1 | sv_1
  · -- case 0
    refine lv_tableIn (tgt := 76) (off := 75) hx hb dX3_isAct_1 (by omega) (by omega) (by rw [sv_1]; rfl) (by decide) ?_
    refine lv_iload_n hx hb dX3_isAct_76 rfl (lv_at hl 1 rfl) ?_
    refine vp_callSi (va_runSN (As := [.int aa]) (rest := []) ⟨hx, hb, hml, hown, hts⟩ (s_X4_isVariable l aa) (⟨va_cnB 1 hts h_X3_isAct_X4_isVariable_23 rfl rfl rfl (hN.2.2.2.1) (hts (.initialized RX4) (List.mem_of_getElem? (i := 1) rfl)) (by decide +kernel) ⟨Nat.le_of_ble_eq_true rfl, Nat.le_of_ble_eq_true rfl⟩, hts (.static yX4_isVariable) (List.mem_of_getElem? (i := 2) rfl), trivial⟩) ⟨fun _ _ _ _ q => q, fun _ _ _ => ⟨rfl, trivial⟩⟩ rfl rfl hl.1 rfl (lv_room (Nat.le_of_ble_eq_true rfl)) dX3_isAct_77 ⟨Nat.le_of_ble_eq_true rfl, Nat.le_of_ble_eq_true rfl⟩).run (fun r_2 hw_2 => ?_)
    replace hw_2 : (two r_2 (V6 aa) 1 0) := hw_2
    have q_r_2 := hw_2
    refine lv_if_eq (tgt := 94) hx hb dX3_isAct_80 (by decide) (fun c_3 => ?_) (fun c_3 => ?_)
    · -- yes
      have k_3 : r_2.toInt = (0 : Int32).toInt := ci_eq c_3
      have kt_3 : ¬ (V6 aa) := two_z q_r_2 c_3
      refine lv_iconst (v := 0) hx hb dX3_isAct_94 (by decide) ?_
      have hP9 := hP.sub (ws' := []) [] rfl
      have hD9 := hD.sub (ws' := []) [] (by decide) rfl
      exact W.zret (v := 0) (ty := .boolean) hx hb hr rfl (fun t ht hW => ⟨⟨0, (), rfl, (show two (0 : Int32) (okP ka aa ba ca da ea) 1 0 from (Or.inr ⟨rfl, fun h9 => by have h8 := (okP_0 sv_1).mp h9; omega⟩)), by rw [ht]; exact hP9, va_K.moved hW.alike hK, hD9⟩, hS.F ht⟩) hS.2.2 dX3_isAct_95
    · -- no
      have k_3 : ¬ r_2.toInt = (0 : Int32).toInt := ci_ne c_3
      have kt_3 : V6 aa := two_nz q_r_2 c_3
      refine lv_iload_n hx hb dX3_isAct_83 rfl (lv_at hl 2 rfl) ?_
      refine vp_callSi (va_runSN (As := [.int ba]) (rest := []) ⟨hx, hb, hml, hown, hts⟩ (s_X4_isNumber l ba) (⟨va_cnB 1 hts h_X3_isAct_X4_isNumber_27 rfl rfl rfl (hN.2.2.2.2.1) (hts (.initialized RX4) (List.mem_of_getElem? (i := 1) rfl)) (by decide +kernel) ⟨Nat.le_of_ble_eq_true rfl, Nat.le_of_ble_eq_true rfl⟩, hts (.static yX4_isNumber) (List.mem_of_getElem? (i := 3) rfl), trivial⟩) ⟨fun _ _ _ _ q => q, fun _ _ _ => ⟨rfl, trivial⟩⟩ rfl rfl hl.1 rfl (lv_room (Nat.le_of_ble_eq_true rfl)) dX3_isAct_84 ⟨Nat.le_of_ble_eq_true rfl, Nat.le_of_ble_eq_true rfl⟩).run (fun r_4 hw_4 => ?_)
      replace hw_4 : (two r_4 (VN ba) 1 0) := hw_4
      have q_r_4 := hw_4
      refine lv_if_eq (tgt := 94) hx hb dX3_isAct_87 (by decide) (fun c_5 => ?_) (fun c_5 => ?_)
      · -- yes
        have k_5 : r_4.toInt = (0 : Int32).toInt := ci_eq c_5
        have kt_5 : ¬ (VN ba) := two_z q_r_4 c_5
        refine lv_iconst (v := 0) hx hb dX3_isAct_94 (by decide) ?_
        have hP9 := hP.sub (ws' := []) [] rfl
        have hD9 := hD.sub (ws' := []) [] (by decide) rfl
        exact W.zret (v := 0) (ty := .boolean) hx hb hr rfl (fun t ht hW => ⟨⟨0, (), rfl, (show two (0 : Int32) (okP ka aa ba ca da ea) 1 0 from (Or.inr ⟨rfl, fun h9 => by have h8 := (okP_0 sv_1).mp h9; omega⟩)), by rw [ht]; exact hP9, va_K.moved hW.alike hK, hD9⟩, hS.F ht⟩) hS.2.2 dX3_isAct_95
      · -- no
        have k_5 : ¬ r_4.toInt = (0 : Int32).toInt := ci_ne c_5
        have kt_5 : VN ba := two_nz q_r_4 c_5
        refine lv_iconst (v := 1) hx hb dX3_isAct_90 (by decide) ?_
        refine lv_goto (tgt := 95) hx hb dX3_isAct_91 (by decide) ?_
        have hP9 := hP.sub (ws' := []) [] rfl
        have hD9 := hD.sub (ws' := []) [] (by decide) rfl
        exact W.zret (v := 1) (ty := .boolean) hx hb hr rfl (fun t ht hW => ⟨⟨1, (), rfl, (show two (1 : Int32) (okP ka aa ba ca da ea) 1 0 from (Or.inl ⟨rfl, (okP_0 sv_1).mpr (by omega)⟩)), by rw [ht]; exact hP9, va_K.moved hW.alike hK, hD9⟩, hS.F ht⟩) hS.2.2 dX3_isAct_95
  · -- case 1
    refine lv_tableIn (tgt := 96) (off := 95) hx hb dX3_isAct_1 (by omega) (by omega) (by rw [sv_1]; rfl) (by decide) ?_
    refine lv_iload_n hx hb dX3_isAct_96 rfl (lv_at hl 1 rfl) ?_
    refine vp_callSi (va_runSN (As := [.int aa]) (rest := []) ⟨hx, hb, hml, hown, hts⟩ (s_X4_isVariable l aa) (⟨va_cnB 1 hts h_X3_isAct_X4_isVariable_23 rfl rfl rfl (hN.2.2.2.1) (hts (.initialized RX4) (List.mem_of_getElem? (i := 1) rfl)) (by decide +kernel) ⟨Nat.le_of_ble_eq_true rfl, Nat.le_of_ble_eq_true rfl⟩, hts (.static yX4_isVariable) (List.mem_of_getElem? (i := 2) rfl), trivial⟩) ⟨fun _ _ _ _ q => q, fun _ _ _ => ⟨rfl, trivial⟩⟩ rfl rfl hl.1 rfl (lv_room (Nat.le_of_ble_eq_true rfl)) dX3_isAct_97 ⟨Nat.le_of_ble_eq_true rfl, Nat.le_of_ble_eq_true rfl⟩).run (fun r_6 hw_6 => ?_)
    replace hw_6 : (two r_6 (V6 aa) 1 0) := hw_6
    have q_r_6 := hw_6
    refine lv_if_eq (tgt := 126) hx hb dX3_isAct_100 (by decide) (fun c_7 => ?_) (fun c_7 => ?_)
    · -- yes
      have k_7 : r_6.toInt = (0 : Int32).toInt := ci_eq c_7
      have kt_7 : ¬ (V6 aa) := two_z q_r_6 c_7
      refine lv_iconst (v := 0) hx hb dX3_isAct_126 (by decide) ?_
      have hP9 := hP.sub (ws' := []) [] rfl
      have hD9 := hD.sub (ws' := []) [] (by decide) rfl
      exact W.zret (v := 0) (ty := .boolean) hx hb hr rfl (fun t ht hW => ⟨⟨0, (), rfl, (show two (0 : Int32) (okP ka aa ba ca da ea) 1 0 from (Or.inr ⟨rfl, fun h9 => by have h8 := (okP_1 sv_1).mp h9; omega⟩)), by rw [ht]; exact hP9, va_K.moved hW.alike hK, hD9⟩, hS.F ht⟩) hS.2.2 dX3_isAct_127
    · -- no
      have k_7 : ¬ r_6.toInt = (0 : Int32).toInt := ci_ne c_7
      have kt_7 : V6 aa := two_nz q_r_6 c_7
      refine lv_iload_n hx hb dX3_isAct_103 rfl (lv_at hl 2 rfl) ?_
      refine vp_callSi (va_runSN (As := [.int ba]) (rest := []) ⟨hx, hb, hml, hown, hts⟩ (s_X4_isNumber l ba) (⟨va_cnB 1 hts h_X3_isAct_X4_isNumber_27 rfl rfl rfl (hN.2.2.2.2.1) (hts (.initialized RX4) (List.mem_of_getElem? (i := 1) rfl)) (by decide +kernel) ⟨Nat.le_of_ble_eq_true rfl, Nat.le_of_ble_eq_true rfl⟩, hts (.static yX4_isNumber) (List.mem_of_getElem? (i := 3) rfl), trivial⟩) ⟨fun _ _ _ _ q => q, fun _ _ _ => ⟨rfl, trivial⟩⟩ rfl rfl hl.1 rfl (lv_room (Nat.le_of_ble_eq_true rfl)) dX3_isAct_104 ⟨Nat.le_of_ble_eq_true rfl, Nat.le_of_ble_eq_true rfl⟩).run (fun r_8 hw_8 => ?_)
      replace hw_8 : (two r_8 (VN ba) 1 0) := hw_8
      have q_r_8 := hw_8
      refine lv_if_eq (tgt := 126) hx hb dX3_isAct_107 (by decide) (fun c_9 => ?_) (fun c_9 => ?_)
      · -- yes
        have k_9 : r_8.toInt = (0 : Int32).toInt := ci_eq c_9
        have kt_9 : ¬ (VN ba) := two_z q_r_8 c_9
        refine lv_iconst (v := 0) hx hb dX3_isAct_126 (by decide) ?_
        have hP9 := hP.sub (ws' := []) [] rfl
        have hD9 := hD.sub (ws' := []) [] (by decide) rfl
        exact W.zret (v := 0) (ty := .boolean) hx hb hr rfl (fun t ht hW => ⟨⟨0, (), rfl, (show two (0 : Int32) (okP ka aa ba ca da ea) 1 0 from (Or.inr ⟨rfl, fun h9 => by have h8 := (okP_1 sv_1).mp h9; omega⟩)), by rw [ht]; exact hP9, va_K.moved hW.alike hK, hD9⟩, hS.F ht⟩) hS.2.2 dX3_isAct_127
      · -- no
        have k_9 : ¬ r_8.toInt = (0 : Int32).toInt := ci_ne c_9
        have kt_9 : VN ba := two_nz q_r_8 c_9
        refine lv_iload_n hx hb dX3_isAct_110 rfl (lv_at hl 3 rfl) ?_
        refine vp_callSi (va_runSN (As := [.int ca]) (rest := []) ⟨hx, hb, hml, hown, hts⟩ (s_X4_isNumber l ca) (⟨va_cnB 1 hts h_X3_isAct_X4_isNumber_27 rfl rfl rfl (hN.2.2.2.2.1) (hts (.initialized RX4) (List.mem_of_getElem? (i := 1) rfl)) (by decide +kernel) ⟨Nat.le_of_ble_eq_true rfl, Nat.le_of_ble_eq_true rfl⟩, hts (.static yX4_isNumber) (List.mem_of_getElem? (i := 3) rfl), trivial⟩) ⟨fun _ _ _ _ q => q, fun _ _ _ => ⟨rfl, trivial⟩⟩ rfl rfl hl.1 rfl (lv_room (Nat.le_of_ble_eq_true rfl)) dX3_isAct_111 ⟨Nat.le_of_ble_eq_true rfl, Nat.le_of_ble_eq_true rfl⟩).run (fun r_10 hw_10 => ?_)
        replace hw_10 : (two r_10 (VN ca) 1 0) := hw_10
        have q_r_10 := hw_10
        refine lv_if_eq (tgt := 126) hx hb dX3_isAct_114 (by decide) (fun c_11 => ?_) (fun c_11 => ?_)
        · -- yes
          have k_11 : r_10.toInt = (0 : Int32).toInt := ci_eq c_11
          have kt_11 : ¬ (VN ca) := two_z q_r_10 c_11
          refine lv_iconst (v := 0) hx hb dX3_isAct_126 (by decide) ?_
          have hP9 := hP.sub (ws' := []) [] rfl
          have hD9 := hD.sub (ws' := []) [] (by decide) rfl
          exact W.zret (v := 0) (ty := .boolean) hx hb hr rfl (fun t ht hW => ⟨⟨0, (), rfl, (show two (0 : Int32) (okP ka aa ba ca da ea) 1 0 from (Or.inr ⟨rfl, fun h9 => by have h8 := (okP_1 sv_1).mp h9; omega⟩)), by rw [ht]; exact hP9, va_K.moved hW.alike hK, hD9⟩, hS.F ht⟩) hS.2.2 dX3_isAct_127
        · -- no
          have k_11 : ¬ r_10.toInt = (0 : Int32).toInt := ci_ne c_11
          have kt_11 : VN ca := two_nz q_r_10 c_11
          refine lv_iload_n hx hb dX3_isAct_117 rfl (lv_at hl 2 rfl) ?_
          refine lv_iload_n hx hb dX3_isAct_118 rfl (lv_at hl 3 rfl) ?_
          refine lv_icmp_gt (tgt := 126) hx hb dX3_isAct_119 (by decide) (fun c_12 => ?_) (fun c_12 => ?_)
          · -- yes
            have k_12 : ca.toInt < ba.toInt := ci_gt c_12
            refine lv_iconst (v := 0) hx hb dX3_isAct_126 (by decide) ?_
            have hP9 := hP.sub (ws' := []) [] rfl
            have hD9 := hD.sub (ws' := []) [] (by decide) rfl
            exact W.zret (v := 0) (ty := .boolean) hx hb hr rfl (fun t ht hW => ⟨⟨0, (), rfl, (show two (0 : Int32) (okP ka aa ba ca da ea) 1 0 from (Or.inr ⟨rfl, fun h9 => by have h8 := (okP_1 sv_1).mp h9; omega⟩)), by rw [ht]; exact hP9, va_K.moved hW.alike hK, hD9⟩, hS.F ht⟩) hS.2.2 dX3_isAct_127
          · -- no
            have k_12 : ba.toInt ≤ ca.toInt := ci_ngt c_12
            refine lv_iconst (v := 1) hx hb dX3_isAct_122 (by decide) ?_
            refine lv_goto (tgt := 127) hx hb dX3_isAct_123 (by decide) ?_
            have hP9 := hP.sub (ws' := []) [] rfl
            have hD9 := hD.sub (ws' := []) [] (by decide) rfl
            exact W.zret (v := 1) (ty := .boolean) hx hb hr rfl (fun t ht hW => ⟨⟨1, (), rfl, (show two (1 : Int32) (okP ka aa ba ca da ea) 1 0 from (Or.inl ⟨rfl, (okP_1 sv_1).mpr (by omega)⟩)), by rw [ht]; exact hP9, va_K.moved hW.alike hK, hD9⟩, hS.F ht⟩) hS.2.2 dX3_isAct_127
  · -- case 2
    refine lv_tableIn (tgt := 128) (off := 127) hx hb dX3_isAct_1 (by omega) (by omega) (by rw [sv_1]; rfl) (by decide) ?_
    refine lv_iload_n hx hb dX3_isAct_128 rfl (lv_at hl 1 rfl) ?_
    refine vp_callSi (va_runSN (As := [.int aa]) (rest := []) ⟨hx, hb, hml, hown, hts⟩ (s_X4_isVariable l aa) (⟨va_cnB 1 hts h_X3_isAct_X4_isVariable_23 rfl rfl rfl (hN.2.2.2.1) (hts (.initialized RX4) (List.mem_of_getElem? (i := 1) rfl)) (by decide +kernel) ⟨Nat.le_of_ble_eq_true rfl, Nat.le_of_ble_eq_true rfl⟩, hts (.static yX4_isVariable) (List.mem_of_getElem? (i := 2) rfl), trivial⟩) ⟨fun _ _ _ _ q => q, fun _ _ _ => ⟨rfl, trivial⟩⟩ rfl rfl hl.1 rfl (lv_room (Nat.le_of_ble_eq_true rfl)) dX3_isAct_129 ⟨Nat.le_of_ble_eq_true rfl, Nat.le_of_ble_eq_true rfl⟩).run (fun r_13 hw_13 => ?_)
    replace hw_13 : (two r_13 (V6 aa) 1 0) := hw_13
    have q_r_13 := hw_13
    refine lv_if_eq (tgt := 153) hx hb dX3_isAct_132 (by decide) (fun c_14 => ?_) (fun c_14 => ?_)
    · -- yes
      have k_14 : r_13.toInt = (0 : Int32).toInt := ci_eq c_14
      have kt_14 : ¬ (V6 aa) := two_z q_r_13 c_14
      refine lv_iconst (v := 0) hx hb dX3_isAct_153 (by decide) ?_
      have hP9 := hP.sub (ws' := []) [] rfl
      have hD9 := hD.sub (ws' := []) [] (by decide) rfl
      exact W.zret (v := 0) (ty := .boolean) hx hb hr rfl (fun t ht hW => ⟨⟨0, (), rfl, (show two (0 : Int32) (okP ka aa ba ca da ea) 1 0 from (Or.inr ⟨rfl, fun h9 => by have h8 := (okP_2 sv_1).mp h9; omega⟩)), by rw [ht]; exact hP9, va_K.moved hW.alike hK, hD9⟩, hS.F ht⟩) hS.2.2 dX3_isAct_154
    · -- no
      have k_14 : ¬ r_13.toInt = (0 : Int32).toInt := ci_ne c_14
      have kt_14 : V6 aa := two_nz q_r_13 c_14
      refine lv_iload_n hx hb dX3_isAct_135 rfl (lv_at hl 2 rfl) ?_
      refine vp_callSi (va_runSN (As := [.int ba]) (rest := []) ⟨hx, hb, hml, hown, hts⟩ (s_X4_isVariable l ba) (⟨va_cnB 1 hts h_X3_isAct_X4_isVariable_23 rfl rfl rfl (hN.2.2.2.1) (hts (.initialized RX4) (List.mem_of_getElem? (i := 1) rfl)) (by decide +kernel) ⟨Nat.le_of_ble_eq_true rfl, Nat.le_of_ble_eq_true rfl⟩, hts (.static yX4_isVariable) (List.mem_of_getElem? (i := 2) rfl), trivial⟩) ⟨fun _ _ _ _ q => q, fun _ _ _ => ⟨rfl, trivial⟩⟩ rfl rfl hl.1 rfl (lv_room (Nat.le_of_ble_eq_true rfl)) dX3_isAct_136 ⟨Nat.le_of_ble_eq_true rfl, Nat.le_of_ble_eq_true rfl⟩).run (fun r_15 hw_15 => ?_)
      replace hw_15 : (two r_15 (V6 ba) 1 0) := hw_15
      have q_r_15 := hw_15
      refine lv_if_eq (tgt := 153) hx hb dX3_isAct_139 (by decide) (fun c_16 => ?_) (fun c_16 => ?_)
      · -- yes
        have k_16 : r_15.toInt = (0 : Int32).toInt := ci_eq c_16
        have kt_16 : ¬ (V6 ba) := two_z q_r_15 c_16
        refine lv_iconst (v := 0) hx hb dX3_isAct_153 (by decide) ?_
        have hP9 := hP.sub (ws' := []) [] rfl
        have hD9 := hD.sub (ws' := []) [] (by decide) rfl
        exact W.zret (v := 0) (ty := .boolean) hx hb hr rfl (fun t ht hW => ⟨⟨0, (), rfl, (show two (0 : Int32) (okP ka aa ba ca da ea) 1 0 from (Or.inr ⟨rfl, fun h9 => by have h8 := (okP_2 sv_1).mp h9; omega⟩)), by rw [ht]; exact hP9, va_K.moved hW.alike hK, hD9⟩, hS.F ht⟩) hS.2.2 dX3_isAct_154
      · -- no
        have k_16 : ¬ r_15.toInt = (0 : Int32).toInt := ci_ne c_16
        have kt_16 : V6 ba := two_nz q_r_15 c_16
        refine lv_iload_n hx hb dX3_isAct_142 rfl (lv_at hl 3 rfl) ?_
        refine vp_callSi (va_runSN (As := [.int ca]) (rest := []) ⟨hx, hb, hml, hown, hts⟩ (s_X4_isVariable l ca) (⟨va_cnB 1 hts h_X3_isAct_X4_isVariable_23 rfl rfl rfl (hN.2.2.2.1) (hts (.initialized RX4) (List.mem_of_getElem? (i := 1) rfl)) (by decide +kernel) ⟨Nat.le_of_ble_eq_true rfl, Nat.le_of_ble_eq_true rfl⟩, hts (.static yX4_isVariable) (List.mem_of_getElem? (i := 2) rfl), trivial⟩) ⟨fun _ _ _ _ q => q, fun _ _ _ => ⟨rfl, trivial⟩⟩ rfl rfl hl.1 rfl (lv_room (Nat.le_of_ble_eq_true rfl)) dX3_isAct_143 ⟨Nat.le_of_ble_eq_true rfl, Nat.le_of_ble_eq_true rfl⟩).run (fun r_17 hw_17 => ?_)
        replace hw_17 : (two r_17 (V6 ca) 1 0) := hw_17
        have q_r_17 := hw_17
        refine lv_if_eq (tgt := 153) hx hb dX3_isAct_146 (by decide) (fun c_18 => ?_) (fun c_18 => ?_)
        · -- yes
          have k_18 : r_17.toInt = (0 : Int32).toInt := ci_eq c_18
          have kt_18 : ¬ (V6 ca) := two_z q_r_17 c_18
          refine lv_iconst (v := 0) hx hb dX3_isAct_153 (by decide) ?_
          have hP9 := hP.sub (ws' := []) [] rfl
          have hD9 := hD.sub (ws' := []) [] (by decide) rfl
          exact W.zret (v := 0) (ty := .boolean) hx hb hr rfl (fun t ht hW => ⟨⟨0, (), rfl, (show two (0 : Int32) (okP ka aa ba ca da ea) 1 0 from (Or.inr ⟨rfl, fun h9 => by have h8 := (okP_2 sv_1).mp h9; omega⟩)), by rw [ht]; exact hP9, va_K.moved hW.alike hK, hD9⟩, hS.F ht⟩) hS.2.2 dX3_isAct_154
        · -- no
          have k_18 : ¬ r_17.toInt = (0 : Int32).toInt := ci_ne c_18
          have kt_18 : V6 ca := two_nz q_r_17 c_18
          refine lv_iconst (v := 1) hx hb dX3_isAct_149 (by decide) ?_
          refine lv_goto (tgt := 154) hx hb dX3_isAct_150 (by decide) ?_
          have hP9 := hP.sub (ws' := []) [] rfl
          have hD9 := hD.sub (ws' := []) [] (by decide) rfl
          exact W.zret (v := 1) (ty := .boolean) hx hb hr rfl (fun t ht hW => ⟨⟨1, (), rfl, (show two (1 : Int32) (okP ka aa ba ca da ea) 1 0 from (Or.inl ⟨rfl, (okP_2 sv_1).mpr (by omega)⟩)), by rw [ht]; exact hP9, va_K.moved hW.alike hK, hD9⟩, hS.F ht⟩) hS.2.2 dX3_isAct_154
  · -- case 3
    refine lv_tableIn (tgt := 128) (off := 127) hx hb dX3_isAct_1 (by omega) (by omega) (by rw [sv_1]; rfl) (by decide) ?_
    refine lv_iload_n hx hb dX3_isAct_128 rfl (lv_at hl 1 rfl) ?_
    refine vp_callSi (va_runSN (As := [.int aa]) (rest := []) ⟨hx, hb, hml, hown, hts⟩ (s_X4_isVariable l aa) (⟨va_cnB 1 hts h_X3_isAct_X4_isVariable_23 rfl rfl rfl (hN.2.2.2.1) (hts (.initialized RX4) (List.mem_of_getElem? (i := 1) rfl)) (by decide +kernel) ⟨Nat.le_of_ble_eq_true rfl, Nat.le_of_ble_eq_true rfl⟩, hts (.static yX4_isVariable) (List.mem_of_getElem? (i := 2) rfl), trivial⟩) ⟨fun _ _ _ _ q => q, fun _ _ _ => ⟨rfl, trivial⟩⟩ rfl rfl hl.1 rfl (lv_room (Nat.le_of_ble_eq_true rfl)) dX3_isAct_129 ⟨Nat.le_of_ble_eq_true rfl, Nat.le_of_ble_eq_true rfl⟩).run (fun r_19 hw_19 => ?_)
    replace hw_19 : (two r_19 (V6 aa) 1 0) := hw_19
    have q_r_19 := hw_19
    refine lv_if_eq (tgt := 153) hx hb dX3_isAct_132 (by decide) (fun c_20 => ?_) (fun c_20 => ?_)
    · -- yes
      have k_20 : r_19.toInt = (0 : Int32).toInt := ci_eq c_20
      have kt_20 : ¬ (V6 aa) := two_z q_r_19 c_20
      refine lv_iconst (v := 0) hx hb dX3_isAct_153 (by decide) ?_
      have hP9 := hP.sub (ws' := []) [] rfl
      have hD9 := hD.sub (ws' := []) [] (by decide) rfl
      exact W.zret (v := 0) (ty := .boolean) hx hb hr rfl (fun t ht hW => ⟨⟨0, (), rfl, (show two (0 : Int32) (okP ka aa ba ca da ea) 1 0 from (Or.inr ⟨rfl, fun h9 => by have h8 := (okP_3 sv_1).mp h9; omega⟩)), by rw [ht]; exact hP9, va_K.moved hW.alike hK, hD9⟩, hS.F ht⟩) hS.2.2 dX3_isAct_154
    · -- no
      have k_20 : ¬ r_19.toInt = (0 : Int32).toInt := ci_ne c_20
      have kt_20 : V6 aa := two_nz q_r_19 c_20
      refine lv_iload_n hx hb dX3_isAct_135 rfl (lv_at hl 2 rfl) ?_
      refine vp_callSi (va_runSN (As := [.int ba]) (rest := []) ⟨hx, hb, hml, hown, hts⟩ (s_X4_isVariable l ba) (⟨va_cnB 1 hts h_X3_isAct_X4_isVariable_23 rfl rfl rfl (hN.2.2.2.1) (hts (.initialized RX4) (List.mem_of_getElem? (i := 1) rfl)) (by decide +kernel) ⟨Nat.le_of_ble_eq_true rfl, Nat.le_of_ble_eq_true rfl⟩, hts (.static yX4_isVariable) (List.mem_of_getElem? (i := 2) rfl), trivial⟩) ⟨fun _ _ _ _ q => q, fun _ _ _ => ⟨rfl, trivial⟩⟩ rfl rfl hl.1 rfl (lv_room (Nat.le_of_ble_eq_true rfl)) dX3_isAct_136 ⟨Nat.le_of_ble_eq_true rfl, Nat.le_of_ble_eq_true rfl⟩).run (fun r_21 hw_21 => ?_)
      replace hw_21 : (two r_21 (V6 ba) 1 0) := hw_21
      have q_r_21 := hw_21
      refine lv_if_eq (tgt := 153) hx hb dX3_isAct_139 (by decide) (fun c_22 => ?_) (fun c_22 => ?_)
      · -- yes
        have k_22 : r_21.toInt = (0 : Int32).toInt := ci_eq c_22
        have kt_22 : ¬ (V6 ba) := two_z q_r_21 c_22
        refine lv_iconst (v := 0) hx hb dX3_isAct_153 (by decide) ?_
        have hP9 := hP.sub (ws' := []) [] rfl
        have hD9 := hD.sub (ws' := []) [] (by decide) rfl
        exact W.zret (v := 0) (ty := .boolean) hx hb hr rfl (fun t ht hW => ⟨⟨0, (), rfl, (show two (0 : Int32) (okP ka aa ba ca da ea) 1 0 from (Or.inr ⟨rfl, fun h9 => by have h8 := (okP_3 sv_1).mp h9; omega⟩)), by rw [ht]; exact hP9, va_K.moved hW.alike hK, hD9⟩, hS.F ht⟩) hS.2.2 dX3_isAct_154
      · -- no
        have k_22 : ¬ r_21.toInt = (0 : Int32).toInt := ci_ne c_22
        have kt_22 : V6 ba := two_nz q_r_21 c_22
        refine lv_iload_n hx hb dX3_isAct_142 rfl (lv_at hl 3 rfl) ?_
        refine vp_callSi (va_runSN (As := [.int ca]) (rest := []) ⟨hx, hb, hml, hown, hts⟩ (s_X4_isVariable l ca) (⟨va_cnB 1 hts h_X3_isAct_X4_isVariable_23 rfl rfl rfl (hN.2.2.2.1) (hts (.initialized RX4) (List.mem_of_getElem? (i := 1) rfl)) (by decide +kernel) ⟨Nat.le_of_ble_eq_true rfl, Nat.le_of_ble_eq_true rfl⟩, hts (.static yX4_isVariable) (List.mem_of_getElem? (i := 2) rfl), trivial⟩) ⟨fun _ _ _ _ q => q, fun _ _ _ => ⟨rfl, trivial⟩⟩ rfl rfl hl.1 rfl (lv_room (Nat.le_of_ble_eq_true rfl)) dX3_isAct_143 ⟨Nat.le_of_ble_eq_true rfl, Nat.le_of_ble_eq_true rfl⟩).run (fun r_23 hw_23 => ?_)
        replace hw_23 : (two r_23 (V6 ca) 1 0) := hw_23
        have q_r_23 := hw_23
        refine lv_if_eq (tgt := 153) hx hb dX3_isAct_146 (by decide) (fun c_24 => ?_) (fun c_24 => ?_)
        · -- yes
          have k_24 : r_23.toInt = (0 : Int32).toInt := ci_eq c_24
          have kt_24 : ¬ (V6 ca) := two_z q_r_23 c_24
          refine lv_iconst (v := 0) hx hb dX3_isAct_153 (by decide) ?_
          have hP9 := hP.sub (ws' := []) [] rfl
          have hD9 := hD.sub (ws' := []) [] (by decide) rfl
          exact W.zret (v := 0) (ty := .boolean) hx hb hr rfl (fun t ht hW => ⟨⟨0, (), rfl, (show two (0 : Int32) (okP ka aa ba ca da ea) 1 0 from (Or.inr ⟨rfl, fun h9 => by have h8 := (okP_3 sv_1).mp h9; omega⟩)), by rw [ht]; exact hP9, va_K.moved hW.alike hK, hD9⟩, hS.F ht⟩) hS.2.2 dX3_isAct_154
        · -- no
          have k_24 : ¬ r_23.toInt = (0 : Int32).toInt := ci_ne c_24
          have kt_24 : V6 ca := two_nz q_r_23 c_24
          refine lv_iconst (v := 1) hx hb dX3_isAct_149 (by decide) ?_
          refine lv_goto (tgt := 154) hx hb dX3_isAct_150 (by decide) ?_
          have hP9 := hP.sub (ws' := []) [] rfl
          have hD9 := hD.sub (ws' := []) [] (by decide) rfl
          exact W.zret (v := 1) (ty := .boolean) hx hb hr rfl (fun t ht hW => ⟨⟨1, (), rfl, (show two (1 : Int32) (okP ka aa ba ca da ea) 1 0 from (Or.inl ⟨rfl, (okP_3 sv_1).mpr (by omega)⟩)), by rw [ht]; exact hP9, va_K.moved hW.alike hK, hD9⟩, hS.F ht⟩) hS.2.2 dX3_isAct_154
  · -- case 4
    refine lv_tableIn (tgt := 155) (off := 154) hx hb dX3_isAct_1 (by omega) (by omega) (by rw [sv_1]; rfl) (by decide) ?_
    refine lv_iload_n hx hb dX3_isAct_155 rfl (lv_at hl 1 rfl) ?_
    refine vp_callSi (va_runSN (As := [.int aa]) (rest := []) ⟨hx, hb, hml, hown, hts⟩ (s_X4_isReference l aa) (⟨va_cnB 1 hts h_X3_isAct_X4_isReference_30 rfl rfl rfl (hN.2.2.2.2.2.1) (hts (.initialized RX4) (List.mem_of_getElem? (i := 1) rfl)) (by decide +kernel) ⟨Nat.le_of_ble_eq_true rfl, Nat.le_of_ble_eq_true rfl⟩, hts (.static yX4_isReference) (List.mem_of_getElem? (i := 4) rfl), trivial⟩) ⟨fun _ _ _ _ q => q, fun _ _ _ => ⟨rfl, trivial⟩⟩ rfl rfl hl.1 rfl (lv_room (Nat.le_of_ble_eq_true rfl)) dX3_isAct_156 ⟨Nat.le_of_ble_eq_true rfl, Nat.le_of_ble_eq_true rfl⟩).run (fun r_25 hw_25 => ?_)
    replace hw_25 : (two r_25 (V6 aa) 1 0) := hw_25
    have q_r_25 := hw_25
    refine lv_if_eq (tgt := 180) hx hb dX3_isAct_159 (by decide) (fun c_26 => ?_) (fun c_26 => ?_)
    · -- yes
      have k_26 : r_25.toInt = (0 : Int32).toInt := ci_eq c_26
      have kt_26 : ¬ (V6 aa) := two_z q_r_25 c_26
      refine lv_iconst (v := 0) hx hb dX3_isAct_180 (by decide) ?_
      have hP9 := hP.sub (ws' := []) [] rfl
      have hD9 := hD.sub (ws' := []) [] (by decide) rfl
      exact W.zret (v := 0) (ty := .boolean) hx hb hr rfl (fun t ht hW => ⟨⟨0, (), rfl, (show two (0 : Int32) (okP ka aa ba ca da ea) 1 0 from (Or.inr ⟨rfl, fun h9 => by have h8 := (okP_4 sv_1).mp h9; omega⟩)), by rw [ht]; exact hP9, va_K.moved hW.alike hK, hD9⟩, hS.F ht⟩) hS.2.2 dX3_isAct_181
    · -- no
      have k_26 : ¬ r_25.toInt = (0 : Int32).toInt := ci_ne c_26
      have kt_26 : V6 aa := two_nz q_r_25 c_26
      refine lv_iload_n hx hb dX3_isAct_162 rfl (lv_at hl 2 rfl) ?_
      refine vp_callSi (va_runSN (As := [.int ba]) (rest := []) ⟨hx, hb, hml, hown, hts⟩ (s_X4_isLane l ba) (⟨va_cnB 1 hts h_X3_isAct_X4_isLane_33 rfl rfl rfl (hN.2.2.2.2.2.2.1) (hts (.initialized RX4) (List.mem_of_getElem? (i := 1) rfl)) (by decide +kernel) ⟨Nat.le_of_ble_eq_true rfl, Nat.le_of_ble_eq_true rfl⟩, hts (.static yX4_isLane) (List.mem_of_getElem? (i := 5) rfl), trivial⟩) ⟨fun _ _ _ _ q => q, fun _ _ _ => ⟨rfl, trivial⟩⟩ rfl rfl hl.1 rfl (lv_room (Nat.le_of_ble_eq_true rfl)) dX3_isAct_163 ⟨Nat.le_of_ble_eq_true rfl, Nat.le_of_ble_eq_true rfl⟩).run (fun r_27 hw_27 => ?_)
      replace hw_27 : (two r_27 (V3 ba) 1 0) := hw_27
      have q_r_27 := hw_27
      refine lv_if_eq (tgt := 180) hx hb dX3_isAct_166 (by decide) (fun c_28 => ?_) (fun c_28 => ?_)
      · -- yes
        have k_28 : r_27.toInt = (0 : Int32).toInt := ci_eq c_28
        have kt_28 : ¬ (V3 ba) := two_z q_r_27 c_28
        refine lv_iconst (v := 0) hx hb dX3_isAct_180 (by decide) ?_
        have hP9 := hP.sub (ws' := []) [] rfl
        have hD9 := hD.sub (ws' := []) [] (by decide) rfl
        exact W.zret (v := 0) (ty := .boolean) hx hb hr rfl (fun t ht hW => ⟨⟨0, (), rfl, (show two (0 : Int32) (okP ka aa ba ca da ea) 1 0 from (Or.inr ⟨rfl, fun h9 => by have h8 := (okP_4 sv_1).mp h9; omega⟩)), by rw [ht]; exact hP9, va_K.moved hW.alike hK, hD9⟩, hS.F ht⟩) hS.2.2 dX3_isAct_181
      · -- no
        have k_28 : ¬ r_27.toInt = (0 : Int32).toInt := ci_ne c_28
        have kt_28 : V3 ba := two_nz q_r_27 c_28
        refine lv_iload_n hx hb dX3_isAct_169 rfl (lv_at hl 3 rfl) ?_
        refine vp_callSi (va_runSN (As := [.int ca]) (rest := []) ⟨hx, hb, hml, hown, hts⟩ (s_X4_isVariable l ca) (⟨va_cnB 1 hts h_X3_isAct_X4_isVariable_23 rfl rfl rfl (hN.2.2.2.1) (hts (.initialized RX4) (List.mem_of_getElem? (i := 1) rfl)) (by decide +kernel) ⟨Nat.le_of_ble_eq_true rfl, Nat.le_of_ble_eq_true rfl⟩, hts (.static yX4_isVariable) (List.mem_of_getElem? (i := 2) rfl), trivial⟩) ⟨fun _ _ _ _ q => q, fun _ _ _ => ⟨rfl, trivial⟩⟩ rfl rfl hl.1 rfl (lv_room (Nat.le_of_ble_eq_true rfl)) dX3_isAct_170 ⟨Nat.le_of_ble_eq_true rfl, Nat.le_of_ble_eq_true rfl⟩).run (fun r_29 hw_29 => ?_)
        replace hw_29 : (two r_29 (V6 ca) 1 0) := hw_29
        have q_r_29 := hw_29
        refine lv_if_eq (tgt := 180) hx hb dX3_isAct_173 (by decide) (fun c_30 => ?_) (fun c_30 => ?_)
        · -- yes
          have k_30 : r_29.toInt = (0 : Int32).toInt := ci_eq c_30
          have kt_30 : ¬ (V6 ca) := two_z q_r_29 c_30
          refine lv_iconst (v := 0) hx hb dX3_isAct_180 (by decide) ?_
          have hP9 := hP.sub (ws' := []) [] rfl
          have hD9 := hD.sub (ws' := []) [] (by decide) rfl
          exact W.zret (v := 0) (ty := .boolean) hx hb hr rfl (fun t ht hW => ⟨⟨0, (), rfl, (show two (0 : Int32) (okP ka aa ba ca da ea) 1 0 from (Or.inr ⟨rfl, fun h9 => by have h8 := (okP_4 sv_1).mp h9; omega⟩)), by rw [ht]; exact hP9, va_K.moved hW.alike hK, hD9⟩, hS.F ht⟩) hS.2.2 dX3_isAct_181
        · -- no
          have k_30 : ¬ r_29.toInt = (0 : Int32).toInt := ci_ne c_30
          have kt_30 : V6 ca := two_nz q_r_29 c_30
          refine lv_iconst (v := 1) hx hb dX3_isAct_176 (by decide) ?_
          refine lv_goto (tgt := 181) hx hb dX3_isAct_177 (by decide) ?_
          have hP9 := hP.sub (ws' := []) [] rfl
          have hD9 := hD.sub (ws' := []) [] (by decide) rfl
          exact W.zret (v := 1) (ty := .boolean) hx hb hr rfl (fun t ht hW => ⟨⟨1, (), rfl, (show two (1 : Int32) (okP ka aa ba ca da ea) 1 0 from (Or.inl ⟨rfl, (okP_4 sv_1).mpr (by omega)⟩)), by rw [ht]; exact hP9, va_K.moved hW.alike hK, hD9⟩, hS.F ht⟩) hS.2.2 dX3_isAct_181
  · -- case 5
    refine lv_tableIn (tgt := 182) (off := 181) hx hb dX3_isAct_1 (by omega) (by omega) (by rw [sv_1]; rfl) (by decide) ?_
    refine lv_iload_n hx hb dX3_isAct_182 rfl (lv_at hl 1 rfl) ?_
    refine vp_callSi (va_runSN (As := [.int aa]) (rest := []) ⟨hx, hb, hml, hown, hts⟩ (s_X4_isReference l aa) (⟨va_cnB 1 hts h_X3_isAct_X4_isReference_30 rfl rfl rfl (hN.2.2.2.2.2.1) (hts (.initialized RX4) (List.mem_of_getElem? (i := 1) rfl)) (by decide +kernel) ⟨Nat.le_of_ble_eq_true rfl, Nat.le_of_ble_eq_true rfl⟩, hts (.static yX4_isReference) (List.mem_of_getElem? (i := 4) rfl), trivial⟩) ⟨fun _ _ _ _ q => q, fun _ _ _ => ⟨rfl, trivial⟩⟩ rfl rfl hl.1 rfl (lv_room (Nat.le_of_ble_eq_true rfl)) dX3_isAct_183 ⟨Nat.le_of_ble_eq_true rfl, Nat.le_of_ble_eq_true rfl⟩).run (fun r_31 hw_31 => ?_)
    replace hw_31 : (two r_31 (V6 aa) 1 0) := hw_31
    have q_r_31 := hw_31
    rcases q_r_31 with ⟨rfl, k_32⟩ | ⟨rfl, k_32⟩
    · -- answer 1
      have hP9 := hP.sub (ws' := []) [] rfl
      have hD9 := hD.sub (ws' := []) [] (by decide) rfl
      exact W.zret (v := 1) (ty := .boolean) hx hb hr rfl (fun t ht hW => ⟨⟨1, (), rfl, (show two (1 : Int32) (okP ka aa ba ca da ea) 1 0 from (Or.inl ⟨rfl, (okP_5 sv_1).mpr (by omega)⟩)), by rw [ht]; exact hP9, va_K.moved hW.alike hK, hD9⟩, hS.F ht⟩) hS.2.2 dX3_isAct_186
    · -- answer 0
      have hP9 := hP.sub (ws' := []) [] rfl
      have hD9 := hD.sub (ws' := []) [] (by decide) rfl
      exact W.zret (v := 0) (ty := .boolean) hx hb hr rfl (fun t ht hW => ⟨⟨0, (), rfl, (show two (0 : Int32) (okP ka aa ba ca da ea) 1 0 from (Or.inr ⟨rfl, fun h9 => by have h8 := (okP_5 sv_1).mp h9; omega⟩)), by rw [ht]; exact hP9, va_K.moved hW.alike hK, hD9⟩, hS.F ht⟩) hS.2.2 dX3_isAct_186
  · -- case 6
    refine lv_tableIn (tgt := 187) (off := 186) hx hb dX3_isAct_1 (by omega) (by omega) (by rw [sv_1]; rfl) (by decide) ?_
    refine lv_iload_n hx hb dX3_isAct_187 rfl (lv_at hl 1 rfl) ?_
    refine vp_callSi (va_runSN (As := [.int aa]) (rest := []) ⟨hx, hb, hml, hown, hts⟩ (s_X4_isReference l aa) (⟨va_cnB 1 hts h_X3_isAct_X4_isReference_30 rfl rfl rfl (hN.2.2.2.2.2.1) (hts (.initialized RX4) (List.mem_of_getElem? (i := 1) rfl)) (by decide +kernel) ⟨Nat.le_of_ble_eq_true rfl, Nat.le_of_ble_eq_true rfl⟩, hts (.static yX4_isReference) (List.mem_of_getElem? (i := 4) rfl), trivial⟩) ⟨fun _ _ _ _ q => q, fun _ _ _ => ⟨rfl, trivial⟩⟩ rfl rfl hl.1 rfl (lv_room (Nat.le_of_ble_eq_true rfl)) dX3_isAct_188 ⟨Nat.le_of_ble_eq_true rfl, Nat.le_of_ble_eq_true rfl⟩).run (fun r_33 hw_33 => ?_)
    replace hw_33 : (two r_33 (V6 aa) 1 0) := hw_33
    have q_r_33 := hw_33
    refine lv_if_eq (tgt := 205) hx hb dX3_isAct_191 (by decide) (fun c_34 => ?_) (fun c_34 => ?_)
    · -- yes
      have k_34 : r_33.toInt = (0 : Int32).toInt := ci_eq c_34
      have kt_34 : ¬ (V6 aa) := two_z q_r_33 c_34
      refine lv_iconst (v := 0) hx hb dX3_isAct_205 (by decide) ?_
      have hP9 := hP.sub (ws' := []) [] rfl
      have hD9 := hD.sub (ws' := []) [] (by decide) rfl
      exact W.zret (v := 0) (ty := .boolean) hx hb hr rfl (fun t ht hW => ⟨⟨0, (), rfl, (show two (0 : Int32) (okP ka aa ba ca da ea) 1 0 from (Or.inr ⟨rfl, fun h9 => by have h8 := (okP_6 sv_1).mp h9; omega⟩)), by rw [ht]; exact hP9, va_K.moved hW.alike hK, hD9⟩, hS.F ht⟩) hS.2.2 dX3_isAct_206
    · -- no
      have k_34 : ¬ r_33.toInt = (0 : Int32).toInt := ci_ne c_34
      have kt_34 : V6 aa := two_nz q_r_33 c_34
      refine lv_iload_n hx hb dX3_isAct_194 rfl (lv_at hl 2 rfl) ?_
      refine vp_callSi (va_runSN (As := [.int ba]) (rest := []) ⟨hx, hb, hml, hown, hts⟩ (s_X4_isReference l ba) (⟨va_cnB 1 hts h_X3_isAct_X4_isReference_30 rfl rfl rfl (hN.2.2.2.2.2.1) (hts (.initialized RX4) (List.mem_of_getElem? (i := 1) rfl)) (by decide +kernel) ⟨Nat.le_of_ble_eq_true rfl, Nat.le_of_ble_eq_true rfl⟩, hts (.static yX4_isReference) (List.mem_of_getElem? (i := 4) rfl), trivial⟩) ⟨fun _ _ _ _ q => q, fun _ _ _ => ⟨rfl, trivial⟩⟩ rfl rfl hl.1 rfl (lv_room (Nat.le_of_ble_eq_true rfl)) dX3_isAct_195 ⟨Nat.le_of_ble_eq_true rfl, Nat.le_of_ble_eq_true rfl⟩).run (fun r_35 hw_35 => ?_)
      replace hw_35 : (two r_35 (V6 ba) 1 0) := hw_35
      have q_r_35 := hw_35
      refine lv_if_eq (tgt := 205) hx hb dX3_isAct_198 (by decide) (fun c_36 => ?_) (fun c_36 => ?_)
      · -- yes
        have k_36 : r_35.toInt = (0 : Int32).toInt := ci_eq c_36
        have kt_36 : ¬ (V6 ba) := two_z q_r_35 c_36
        refine lv_iconst (v := 0) hx hb dX3_isAct_205 (by decide) ?_
        have hP9 := hP.sub (ws' := []) [] rfl
        have hD9 := hD.sub (ws' := []) [] (by decide) rfl
        exact W.zret (v := 0) (ty := .boolean) hx hb hr rfl (fun t ht hW => ⟨⟨0, (), rfl, (show two (0 : Int32) (okP ka aa ba ca da ea) 1 0 from (Or.inr ⟨rfl, fun h9 => by have h8 := (okP_6 sv_1).mp h9; omega⟩)), by rw [ht]; exact hP9, va_K.moved hW.alike hK, hD9⟩, hS.F ht⟩) hS.2.2 dX3_isAct_206
      · -- no
        have k_36 : ¬ r_35.toInt = (0 : Int32).toInt := ci_ne c_36
        have kt_36 : V6 ba := two_nz q_r_35 c_36
        refine lv_iconst (v := 1) hx hb dX3_isAct_201 (by decide) ?_
        refine lv_goto (tgt := 206) hx hb dX3_isAct_202 (by decide) ?_
        have hP9 := hP.sub (ws' := []) [] rfl
        have hD9 := hD.sub (ws' := []) [] (by decide) rfl
        exact W.zret (v := 1) (ty := .boolean) hx hb hr rfl (fun t ht hW => ⟨⟨1, (), rfl, (show two (1 : Int32) (okP ka aa ba ca da ea) 1 0 from (Or.inl ⟨rfl, (okP_6 sv_1).mpr (by omega)⟩)), by rw [ht]; exact hP9, va_K.moved hW.alike hK, hD9⟩, hS.F ht⟩) hS.2.2 dX3_isAct_206
  · -- case 7
    refine lv_tableIn (tgt := 207) (off := 206) hx hb dX3_isAct_1 (by omega) (by omega) (by rw [sv_1]; rfl) (by decide) ?_
    refine lv_iload_n hx hb dX3_isAct_207 rfl (lv_at hl 1 rfl) ?_
    refine vp_callSi (va_runSN (As := [.int aa]) (rest := []) ⟨hx, hb, hml, hown, hts⟩ (s_X4_isReference l aa) (⟨va_cnB 1 hts h_X3_isAct_X4_isReference_30 rfl rfl rfl (hN.2.2.2.2.2.1) (hts (.initialized RX4) (List.mem_of_getElem? (i := 1) rfl)) (by decide +kernel) ⟨Nat.le_of_ble_eq_true rfl, Nat.le_of_ble_eq_true rfl⟩, hts (.static yX4_isReference) (List.mem_of_getElem? (i := 4) rfl), trivial⟩) ⟨fun _ _ _ _ q => q, fun _ _ _ => ⟨rfl, trivial⟩⟩ rfl rfl hl.1 rfl (lv_room (Nat.le_of_ble_eq_true rfl)) dX3_isAct_208 ⟨Nat.le_of_ble_eq_true rfl, Nat.le_of_ble_eq_true rfl⟩).run (fun r_37 hw_37 => ?_)
    replace hw_37 : (two r_37 (V6 aa) 1 0) := hw_37
    have q_r_37 := hw_37
    refine lv_if_eq (tgt := 232) hx hb dX3_isAct_211 (by decide) (fun c_38 => ?_) (fun c_38 => ?_)
    · -- yes
      have k_38 : r_37.toInt = (0 : Int32).toInt := ci_eq c_38
      have kt_38 : ¬ (V6 aa) := two_z q_r_37 c_38
      refine lv_iconst (v := 0) hx hb dX3_isAct_232 (by decide) ?_
      have hP9 := hP.sub (ws' := []) [] rfl
      have hD9 := hD.sub (ws' := []) [] (by decide) rfl
      exact W.zret (v := 0) (ty := .boolean) hx hb hr rfl (fun t ht hW => ⟨⟨0, (), rfl, (show two (0 : Int32) (okP ka aa ba ca da ea) 1 0 from (Or.inr ⟨rfl, fun h9 => by have h8 := (okP_7 sv_1).mp h9; omega⟩)), by rw [ht]; exact hP9, va_K.moved hW.alike hK, hD9⟩, hS.F ht⟩) hS.2.2 dX3_isAct_233
    · -- no
      have k_38 : ¬ r_37.toInt = (0 : Int32).toInt := ci_ne c_38
      have kt_38 : V6 aa := two_nz q_r_37 c_38
      refine lv_iload_n hx hb dX3_isAct_214 rfl (lv_at hl 2 rfl) ?_
      refine vp_callSi (va_runSN (As := [.int ba]) (rest := []) ⟨hx, hb, hml, hown, hts⟩ (s_X4_isReference l ba) (⟨va_cnB 1 hts h_X3_isAct_X4_isReference_30 rfl rfl rfl (hN.2.2.2.2.2.1) (hts (.initialized RX4) (List.mem_of_getElem? (i := 1) rfl)) (by decide +kernel) ⟨Nat.le_of_ble_eq_true rfl, Nat.le_of_ble_eq_true rfl⟩, hts (.static yX4_isReference) (List.mem_of_getElem? (i := 4) rfl), trivial⟩) ⟨fun _ _ _ _ q => q, fun _ _ _ => ⟨rfl, trivial⟩⟩ rfl rfl hl.1 rfl (lv_room (Nat.le_of_ble_eq_true rfl)) dX3_isAct_215 ⟨Nat.le_of_ble_eq_true rfl, Nat.le_of_ble_eq_true rfl⟩).run (fun r_39 hw_39 => ?_)
      replace hw_39 : (two r_39 (V6 ba) 1 0) := hw_39
      have q_r_39 := hw_39
      refine lv_if_eq (tgt := 232) hx hb dX3_isAct_218 (by decide) (fun c_40 => ?_) (fun c_40 => ?_)
      · -- yes
        have k_40 : r_39.toInt = (0 : Int32).toInt := ci_eq c_40
        have kt_40 : ¬ (V6 ba) := two_z q_r_39 c_40
        refine lv_iconst (v := 0) hx hb dX3_isAct_232 (by decide) ?_
        have hP9 := hP.sub (ws' := []) [] rfl
        have hD9 := hD.sub (ws' := []) [] (by decide) rfl
        exact W.zret (v := 0) (ty := .boolean) hx hb hr rfl (fun t ht hW => ⟨⟨0, (), rfl, (show two (0 : Int32) (okP ka aa ba ca da ea) 1 0 from (Or.inr ⟨rfl, fun h9 => by have h8 := (okP_7 sv_1).mp h9; omega⟩)), by rw [ht]; exact hP9, va_K.moved hW.alike hK, hD9⟩, hS.F ht⟩) hS.2.2 dX3_isAct_233
      · -- no
        have k_40 : ¬ r_39.toInt = (0 : Int32).toInt := ci_ne c_40
        have kt_40 : V6 ba := two_nz q_r_39 c_40
        refine lv_iload_n hx hb dX3_isAct_221 rfl (lv_at hl 3 rfl) ?_
        refine vp_callSi (va_runSN (As := [.int ca]) (rest := []) ⟨hx, hb, hml, hown, hts⟩ (s_X4_isReference l ca) (⟨va_cnB 1 hts h_X3_isAct_X4_isReference_30 rfl rfl rfl (hN.2.2.2.2.2.1) (hts (.initialized RX4) (List.mem_of_getElem? (i := 1) rfl)) (by decide +kernel) ⟨Nat.le_of_ble_eq_true rfl, Nat.le_of_ble_eq_true rfl⟩, hts (.static yX4_isReference) (List.mem_of_getElem? (i := 4) rfl), trivial⟩) ⟨fun _ _ _ _ q => q, fun _ _ _ => ⟨rfl, trivial⟩⟩ rfl rfl hl.1 rfl (lv_room (Nat.le_of_ble_eq_true rfl)) dX3_isAct_222 ⟨Nat.le_of_ble_eq_true rfl, Nat.le_of_ble_eq_true rfl⟩).run (fun r_41 hw_41 => ?_)
        replace hw_41 : (two r_41 (V6 ca) 1 0) := hw_41
        have q_r_41 := hw_41
        refine lv_if_eq (tgt := 232) hx hb dX3_isAct_225 (by decide) (fun c_42 => ?_) (fun c_42 => ?_)
        · -- yes
          have k_42 : r_41.toInt = (0 : Int32).toInt := ci_eq c_42
          have kt_42 : ¬ (V6 ca) := two_z q_r_41 c_42
          refine lv_iconst (v := 0) hx hb dX3_isAct_232 (by decide) ?_
          have hP9 := hP.sub (ws' := []) [] rfl
          have hD9 := hD.sub (ws' := []) [] (by decide) rfl
          exact W.zret (v := 0) (ty := .boolean) hx hb hr rfl (fun t ht hW => ⟨⟨0, (), rfl, (show two (0 : Int32) (okP ka aa ba ca da ea) 1 0 from (Or.inr ⟨rfl, fun h9 => by have h8 := (okP_7 sv_1).mp h9; omega⟩)), by rw [ht]; exact hP9, va_K.moved hW.alike hK, hD9⟩, hS.F ht⟩) hS.2.2 dX3_isAct_233
        · -- no
          have k_42 : ¬ r_41.toInt = (0 : Int32).toInt := ci_ne c_42
          have kt_42 : V6 ca := two_nz q_r_41 c_42
          refine lv_iconst (v := 1) hx hb dX3_isAct_228 (by decide) ?_
          refine lv_goto (tgt := 233) hx hb dX3_isAct_229 (by decide) ?_
          have hP9 := hP.sub (ws' := []) [] rfl
          have hD9 := hD.sub (ws' := []) [] (by decide) rfl
          exact W.zret (v := 1) (ty := .boolean) hx hb hr rfl (fun t ht hW => ⟨⟨1, (), rfl, (show two (1 : Int32) (okP ka aa ba ca da ea) 1 0 from (Or.inl ⟨rfl, (okP_7 sv_1).mpr (by omega)⟩)), by rw [ht]; exact hP9, va_K.moved hW.alike hK, hD9⟩, hS.F ht⟩) hS.2.2 dX3_isAct_233
  · -- case 8
    refine lv_tableIn (tgt := 187) (off := 186) hx hb dX3_isAct_1 (by omega) (by omega) (by rw [sv_1]; rfl) (by decide) ?_
    refine lv_iload_n hx hb dX3_isAct_187 rfl (lv_at hl 1 rfl) ?_
    refine vp_callSi (va_runSN (As := [.int aa]) (rest := []) ⟨hx, hb, hml, hown, hts⟩ (s_X4_isReference l aa) (⟨va_cnB 1 hts h_X3_isAct_X4_isReference_30 rfl rfl rfl (hN.2.2.2.2.2.1) (hts (.initialized RX4) (List.mem_of_getElem? (i := 1) rfl)) (by decide +kernel) ⟨Nat.le_of_ble_eq_true rfl, Nat.le_of_ble_eq_true rfl⟩, hts (.static yX4_isReference) (List.mem_of_getElem? (i := 4) rfl), trivial⟩) ⟨fun _ _ _ _ q => q, fun _ _ _ => ⟨rfl, trivial⟩⟩ rfl rfl hl.1 rfl (lv_room (Nat.le_of_ble_eq_true rfl)) dX3_isAct_188 ⟨Nat.le_of_ble_eq_true rfl, Nat.le_of_ble_eq_true rfl⟩).run (fun r_43 hw_43 => ?_)
    replace hw_43 : (two r_43 (V6 aa) 1 0) := hw_43
    have q_r_43 := hw_43
    refine lv_if_eq (tgt := 205) hx hb dX3_isAct_191 (by decide) (fun c_44 => ?_) (fun c_44 => ?_)
    · -- yes
      have k_44 : r_43.toInt = (0 : Int32).toInt := ci_eq c_44
      have kt_44 : ¬ (V6 aa) := two_z q_r_43 c_44
      refine lv_iconst (v := 0) hx hb dX3_isAct_205 (by decide) ?_
      have hP9 := hP.sub (ws' := []) [] rfl
      have hD9 := hD.sub (ws' := []) [] (by decide) rfl
      exact W.zret (v := 0) (ty := .boolean) hx hb hr rfl (fun t ht hW => ⟨⟨0, (), rfl, (show two (0 : Int32) (okP ka aa ba ca da ea) 1 0 from (Or.inr ⟨rfl, fun h9 => by have h8 := (okP_8 sv_1).mp h9; omega⟩)), by rw [ht]; exact hP9, va_K.moved hW.alike hK, hD9⟩, hS.F ht⟩) hS.2.2 dX3_isAct_206
    · -- no
      have k_44 : ¬ r_43.toInt = (0 : Int32).toInt := ci_ne c_44
      have kt_44 : V6 aa := two_nz q_r_43 c_44
      refine lv_iload_n hx hb dX3_isAct_194 rfl (lv_at hl 2 rfl) ?_
      refine vp_callSi (va_runSN (As := [.int ba]) (rest := []) ⟨hx, hb, hml, hown, hts⟩ (s_X4_isReference l ba) (⟨va_cnB 1 hts h_X3_isAct_X4_isReference_30 rfl rfl rfl (hN.2.2.2.2.2.1) (hts (.initialized RX4) (List.mem_of_getElem? (i := 1) rfl)) (by decide +kernel) ⟨Nat.le_of_ble_eq_true rfl, Nat.le_of_ble_eq_true rfl⟩, hts (.static yX4_isReference) (List.mem_of_getElem? (i := 4) rfl), trivial⟩) ⟨fun _ _ _ _ q => q, fun _ _ _ => ⟨rfl, trivial⟩⟩ rfl rfl hl.1 rfl (lv_room (Nat.le_of_ble_eq_true rfl)) dX3_isAct_195 ⟨Nat.le_of_ble_eq_true rfl, Nat.le_of_ble_eq_true rfl⟩).run (fun r_45 hw_45 => ?_)
      replace hw_45 : (two r_45 (V6 ba) 1 0) := hw_45
      have q_r_45 := hw_45
      refine lv_if_eq (tgt := 205) hx hb dX3_isAct_198 (by decide) (fun c_46 => ?_) (fun c_46 => ?_)
      · -- yes
        have k_46 : r_45.toInt = (0 : Int32).toInt := ci_eq c_46
        have kt_46 : ¬ (V6 ba) := two_z q_r_45 c_46
        refine lv_iconst (v := 0) hx hb dX3_isAct_205 (by decide) ?_
        have hP9 := hP.sub (ws' := []) [] rfl
        have hD9 := hD.sub (ws' := []) [] (by decide) rfl
        exact W.zret (v := 0) (ty := .boolean) hx hb hr rfl (fun t ht hW => ⟨⟨0, (), rfl, (show two (0 : Int32) (okP ka aa ba ca da ea) 1 0 from (Or.inr ⟨rfl, fun h9 => by have h8 := (okP_8 sv_1).mp h9; omega⟩)), by rw [ht]; exact hP9, va_K.moved hW.alike hK, hD9⟩, hS.F ht⟩) hS.2.2 dX3_isAct_206
      · -- no
        have k_46 : ¬ r_45.toInt = (0 : Int32).toInt := ci_ne c_46
        have kt_46 : V6 ba := two_nz q_r_45 c_46
        refine lv_iconst (v := 1) hx hb dX3_isAct_201 (by decide) ?_
        refine lv_goto (tgt := 206) hx hb dX3_isAct_202 (by decide) ?_
        have hP9 := hP.sub (ws' := []) [] rfl
        have hD9 := hD.sub (ws' := []) [] (by decide) rfl
        exact W.zret (v := 1) (ty := .boolean) hx hb hr rfl (fun t ht hW => ⟨⟨1, (), rfl, (show two (1 : Int32) (okP ka aa ba ca da ea) 1 0 from (Or.inl ⟨rfl, (okP_8 sv_1).mpr (by omega)⟩)), by rw [ht]; exact hP9, va_K.moved hW.alike hK, hD9⟩, hS.F ht⟩) hS.2.2 dX3_isAct_206
  · -- case 9
    refine lv_tableIn (tgt := 234) (off := 233) hx hb dX3_isAct_1 (by omega) (by omega) (by rw [sv_1]; rfl) (by decide) ?_
    refine lv_iload_n hx hb dX3_isAct_234 rfl (lv_at hl 1 rfl) ?_
    refine vp_callSi (va_runSN (As := [.int aa]) (rest := []) ⟨hx, hb, hml, hown, hts⟩ (s_X4_isReference l aa) (⟨va_cnB 1 hts h_X3_isAct_X4_isReference_30 rfl rfl rfl (hN.2.2.2.2.2.1) (hts (.initialized RX4) (List.mem_of_getElem? (i := 1) rfl)) (by decide +kernel) ⟨Nat.le_of_ble_eq_true rfl, Nat.le_of_ble_eq_true rfl⟩, hts (.static yX4_isReference) (List.mem_of_getElem? (i := 4) rfl), trivial⟩) ⟨fun _ _ _ _ q => q, fun _ _ _ => ⟨rfl, trivial⟩⟩ rfl rfl hl.1 rfl (lv_room (Nat.le_of_ble_eq_true rfl)) dX3_isAct_235 ⟨Nat.le_of_ble_eq_true rfl, Nat.le_of_ble_eq_true rfl⟩).run (fun r_47 hw_47 => ?_)
    replace hw_47 : (two r_47 (V6 aa) 1 0) := hw_47
    have q_r_47 := hw_47
    refine lv_if_eq (tgt := 267) hx hb dX3_isAct_238 (by decide) (fun c_48 => ?_) (fun c_48 => ?_)
    · -- yes
      have k_48 : r_47.toInt = (0 : Int32).toInt := ci_eq c_48
      have kt_48 : ¬ (V6 aa) := two_z q_r_47 c_48
      refine lv_iconst (v := 0) hx hb dX3_isAct_267 (by decide) ?_
      have hP9 := hP.sub (ws' := []) [] rfl
      have hD9 := hD.sub (ws' := []) [] (by decide) rfl
      exact W.zret (v := 0) (ty := .boolean) hx hb hr rfl (fun t ht hW => ⟨⟨0, (), rfl, (show two (0 : Int32) (okP ka aa ba ca da ea) 1 0 from (Or.inr ⟨rfl, fun h9 => by have h8 := (okP_9 sv_1).mp h9; omega⟩)), by rw [ht]; exact hP9, va_K.moved hW.alike hK, hD9⟩, hS.F ht⟩) hS.2.2 dX3_isAct_268
    · -- no
      have k_48 : ¬ r_47.toInt = (0 : Int32).toInt := ci_ne c_48
      have kt_48 : V6 aa := two_nz q_r_47 c_48
      refine lv_iload_n hx hb dX3_isAct_241 rfl (lv_at hl 2 rfl) ?_
      refine vp_callSi (va_runSN (As := [.int ba]) (rest := []) ⟨hx, hb, hml, hown, hts⟩ (s_X4_isLane l ba) (⟨va_cnB 1 hts h_X3_isAct_X4_isLane_33 rfl rfl rfl (hN.2.2.2.2.2.2.1) (hts (.initialized RX4) (List.mem_of_getElem? (i := 1) rfl)) (by decide +kernel) ⟨Nat.le_of_ble_eq_true rfl, Nat.le_of_ble_eq_true rfl⟩, hts (.static yX4_isLane) (List.mem_of_getElem? (i := 5) rfl), trivial⟩) ⟨fun _ _ _ _ q => q, fun _ _ _ => ⟨rfl, trivial⟩⟩ rfl rfl hl.1 rfl (lv_room (Nat.le_of_ble_eq_true rfl)) dX3_isAct_242 ⟨Nat.le_of_ble_eq_true rfl, Nat.le_of_ble_eq_true rfl⟩).run (fun r_49 hw_49 => ?_)
      replace hw_49 : (two r_49 (V3 ba) 1 0) := hw_49
      have q_r_49 := hw_49
      refine lv_if_eq (tgt := 267) hx hb dX3_isAct_245 (by decide) (fun c_50 => ?_) (fun c_50 => ?_)
      · -- yes
        have k_50 : r_49.toInt = (0 : Int32).toInt := ci_eq c_50
        have kt_50 : ¬ (V3 ba) := two_z q_r_49 c_50
        refine lv_iconst (v := 0) hx hb dX3_isAct_267 (by decide) ?_
        have hP9 := hP.sub (ws' := []) [] rfl
        have hD9 := hD.sub (ws' := []) [] (by decide) rfl
        exact W.zret (v := 0) (ty := .boolean) hx hb hr rfl (fun t ht hW => ⟨⟨0, (), rfl, (show two (0 : Int32) (okP ka aa ba ca da ea) 1 0 from (Or.inr ⟨rfl, fun h9 => by have h8 := (okP_9 sv_1).mp h9; omega⟩)), by rw [ht]; exact hP9, va_K.moved hW.alike hK, hD9⟩, hS.F ht⟩) hS.2.2 dX3_isAct_268
      · -- no
        have k_50 : ¬ r_49.toInt = (0 : Int32).toInt := ci_ne c_50
        have kt_50 : V3 ba := two_nz q_r_49 c_50
        refine lv_iload_n hx hb dX3_isAct_248 rfl (lv_at hl 3 rfl) ?_
        refine vp_callSi (va_runSN (As := [.int ca]) (rest := []) ⟨hx, hb, hml, hown, hts⟩ (s_X4_isVariable l ca) (⟨va_cnB 1 hts h_X3_isAct_X4_isVariable_23 rfl rfl rfl (hN.2.2.2.1) (hts (.initialized RX4) (List.mem_of_getElem? (i := 1) rfl)) (by decide +kernel) ⟨Nat.le_of_ble_eq_true rfl, Nat.le_of_ble_eq_true rfl⟩, hts (.static yX4_isVariable) (List.mem_of_getElem? (i := 2) rfl), trivial⟩) ⟨fun _ _ _ _ q => q, fun _ _ _ => ⟨rfl, trivial⟩⟩ rfl rfl hl.1 rfl (lv_room (Nat.le_of_ble_eq_true rfl)) dX3_isAct_249 ⟨Nat.le_of_ble_eq_true rfl, Nat.le_of_ble_eq_true rfl⟩).run (fun r_51 hw_51 => ?_)
        replace hw_51 : (two r_51 (V6 ca) 1 0) := hw_51
        have q_r_51 := hw_51
        refine lv_if_eq (tgt := 267) hx hb dX3_isAct_252 (by decide) (fun c_52 => ?_) (fun c_52 => ?_)
        · -- yes
          have k_52 : r_51.toInt = (0 : Int32).toInt := ci_eq c_52
          have kt_52 : ¬ (V6 ca) := two_z q_r_51 c_52
          refine lv_iconst (v := 0) hx hb dX3_isAct_267 (by decide) ?_
          have hP9 := hP.sub (ws' := []) [] rfl
          have hD9 := hD.sub (ws' := []) [] (by decide) rfl
          exact W.zret (v := 0) (ty := .boolean) hx hb hr rfl (fun t ht hW => ⟨⟨0, (), rfl, (show two (0 : Int32) (okP ka aa ba ca da ea) 1 0 from (Or.inr ⟨rfl, fun h9 => by have h8 := (okP_9 sv_1).mp h9; omega⟩)), by rw [ht]; exact hP9, va_K.moved hW.alike hK, hD9⟩, hS.F ht⟩) hS.2.2 dX3_isAct_268
        · -- no
          have k_52 : ¬ r_51.toInt = (0 : Int32).toInt := ci_ne c_52
          have kt_52 : V6 ca := two_nz q_r_51 c_52
          refine lv_iload hx hb dX3_isAct_255 (lv_at hl 4 rfl) ?_
          refine vp_callSi (va_runSN (As := [.int da]) (rest := []) ⟨hx, hb, hml, hown, hts⟩ (s_X4_isVariable l da) (⟨va_cnB 1 hts h_X3_isAct_X4_isVariable_23 rfl rfl rfl (hN.2.2.2.1) (hts (.initialized RX4) (List.mem_of_getElem? (i := 1) rfl)) (by decide +kernel) ⟨Nat.le_of_ble_eq_true rfl, Nat.le_of_ble_eq_true rfl⟩, hts (.static yX4_isVariable) (List.mem_of_getElem? (i := 2) rfl), trivial⟩) ⟨fun _ _ _ _ q => q, fun _ _ _ => ⟨rfl, trivial⟩⟩ rfl rfl hl.1 rfl (lv_room (Nat.le_of_ble_eq_true rfl)) dX3_isAct_257 ⟨Nat.le_of_ble_eq_true rfl, Nat.le_of_ble_eq_true rfl⟩).run (fun r_53 hw_53 => ?_)
          replace hw_53 : (two r_53 (V6 da) 1 0) := hw_53
          have q_r_53 := hw_53
          refine lv_if_eq (tgt := 267) hx hb dX3_isAct_260 (by decide) (fun c_54 => ?_) (fun c_54 => ?_)
          · -- yes
            have k_54 : r_53.toInt = (0 : Int32).toInt := ci_eq c_54
            have kt_54 : ¬ (V6 da) := two_z q_r_53 c_54
            refine lv_iconst (v := 0) hx hb dX3_isAct_267 (by decide) ?_
            have hP9 := hP.sub (ws' := []) [] rfl
            have hD9 := hD.sub (ws' := []) [] (by decide) rfl
            exact W.zret (v := 0) (ty := .boolean) hx hb hr rfl (fun t ht hW => ⟨⟨0, (), rfl, (show two (0 : Int32) (okP ka aa ba ca da ea) 1 0 from (Or.inr ⟨rfl, fun h9 => by have h8 := (okP_9 sv_1).mp h9; omega⟩)), by rw [ht]; exact hP9, va_K.moved hW.alike hK, hD9⟩, hS.F ht⟩) hS.2.2 dX3_isAct_268
          · -- no
            have k_54 : ¬ r_53.toInt = (0 : Int32).toInt := ci_ne c_54
            have kt_54 : V6 da := two_nz q_r_53 c_54
            refine lv_iconst (v := 1) hx hb dX3_isAct_263 (by decide) ?_
            refine lv_goto (tgt := 268) hx hb dX3_isAct_264 (by decide) ?_
            have hP9 := hP.sub (ws' := []) [] rfl
            have hD9 := hD.sub (ws' := []) [] (by decide) rfl
            exact W.zret (v := 1) (ty := .boolean) hx hb hr rfl (fun t ht hW => ⟨⟨1, (), rfl, (show two (1 : Int32) (okP ka aa ba ca da ea) 1 0 from (Or.inl ⟨rfl, (okP_9 sv_1).mpr (by omega)⟩)), by rw [ht]; exact hP9, va_K.moved hW.alike hK, hD9⟩, hS.F ht⟩) hS.2.2 dX3_isAct_268
  · -- case 10
    refine lv_tableIn (tgt := 269) (off := 268) hx hb dX3_isAct_1 (by omega) (by omega) (by rw [sv_1]; rfl) (by decide) ?_
    refine lv_iload_n hx hb dX3_isAct_269 rfl (lv_at hl 1 rfl) ?_
    refine vp_callSi (va_runSN (As := [.int aa]) (rest := []) ⟨hx, hb, hml, hown, hts⟩ (s_X4_isVariable l aa) (⟨va_cnB 1 hts h_X3_isAct_X4_isVariable_23 rfl rfl rfl (hN.2.2.2.1) (hts (.initialized RX4) (List.mem_of_getElem? (i := 1) rfl)) (by decide +kernel) ⟨Nat.le_of_ble_eq_true rfl, Nat.le_of_ble_eq_true rfl⟩, hts (.static yX4_isVariable) (List.mem_of_getElem? (i := 2) rfl), trivial⟩) ⟨fun _ _ _ _ q => q, fun _ _ _ => ⟨rfl, trivial⟩⟩ rfl rfl hl.1 rfl (lv_room (Nat.le_of_ble_eq_true rfl)) dX3_isAct_270 ⟨Nat.le_of_ble_eq_true rfl, Nat.le_of_ble_eq_true rfl⟩).run (fun r_55 hw_55 => ?_)
    replace hw_55 : (two r_55 (V6 aa) 1 0) := hw_55
    have q_r_55 := hw_55
    refine lv_if_eq (tgt := 302) hx hb dX3_isAct_273 (by decide) (fun c_56 => ?_) (fun c_56 => ?_)
    · -- yes
      have k_56 : r_55.toInt = (0 : Int32).toInt := ci_eq c_56
      have kt_56 : ¬ (V6 aa) := two_z q_r_55 c_56
      refine lv_iconst (v := 0) hx hb dX3_isAct_302 (by decide) ?_
      have hP9 := hP.sub (ws' := []) [] rfl
      have hD9 := hD.sub (ws' := []) [] (by decide) rfl
      exact W.zret (v := 0) (ty := .boolean) hx hb hr rfl (fun t ht hW => ⟨⟨0, (), rfl, (show two (0 : Int32) (okP ka aa ba ca da ea) 1 0 from (Or.inr ⟨rfl, fun h9 => by have h8 := (okP_10 sv_1).mp h9; omega⟩)), by rw [ht]; exact hP9, va_K.moved hW.alike hK, hD9⟩, hS.F ht⟩) hS.2.2 dX3_isAct_303
    · -- no
      have k_56 : ¬ r_55.toInt = (0 : Int32).toInt := ci_ne c_56
      have kt_56 : V6 aa := two_nz q_r_55 c_56
      refine lv_iload_n hx hb dX3_isAct_276 rfl (lv_at hl 2 rfl) ?_
      refine vp_callSi (va_runSN (As := [.int ba]) (rest := []) ⟨hx, hb, hml, hown, hts⟩ (s_X4_isReference l ba) (⟨va_cnB 1 hts h_X3_isAct_X4_isReference_30 rfl rfl rfl (hN.2.2.2.2.2.1) (hts (.initialized RX4) (List.mem_of_getElem? (i := 1) rfl)) (by decide +kernel) ⟨Nat.le_of_ble_eq_true rfl, Nat.le_of_ble_eq_true rfl⟩, hts (.static yX4_isReference) (List.mem_of_getElem? (i := 4) rfl), trivial⟩) ⟨fun _ _ _ _ q => q, fun _ _ _ => ⟨rfl, trivial⟩⟩ rfl rfl hl.1 rfl (lv_room (Nat.le_of_ble_eq_true rfl)) dX3_isAct_277 ⟨Nat.le_of_ble_eq_true rfl, Nat.le_of_ble_eq_true rfl⟩).run (fun r_57 hw_57 => ?_)
      replace hw_57 : (two r_57 (V6 ba) 1 0) := hw_57
      have q_r_57 := hw_57
      refine lv_if_eq (tgt := 302) hx hb dX3_isAct_280 (by decide) (fun c_58 => ?_) (fun c_58 => ?_)
      · -- yes
        have k_58 : r_57.toInt = (0 : Int32).toInt := ci_eq c_58
        have kt_58 : ¬ (V6 ba) := two_z q_r_57 c_58
        refine lv_iconst (v := 0) hx hb dX3_isAct_302 (by decide) ?_
        have hP9 := hP.sub (ws' := []) [] rfl
        have hD9 := hD.sub (ws' := []) [] (by decide) rfl
        exact W.zret (v := 0) (ty := .boolean) hx hb hr rfl (fun t ht hW => ⟨⟨0, (), rfl, (show two (0 : Int32) (okP ka aa ba ca da ea) 1 0 from (Or.inr ⟨rfl, fun h9 => by have h8 := (okP_10 sv_1).mp h9; omega⟩)), by rw [ht]; exact hP9, va_K.moved hW.alike hK, hD9⟩, hS.F ht⟩) hS.2.2 dX3_isAct_303
      · -- no
        have k_58 : ¬ r_57.toInt = (0 : Int32).toInt := ci_ne c_58
        have kt_58 : V6 ba := two_nz q_r_57 c_58
        refine lv_iload_n hx hb dX3_isAct_283 rfl (lv_at hl 3 rfl) ?_
        refine vp_callSi (va_runSN (As := [.int ca]) (rest := []) ⟨hx, hb, hml, hown, hts⟩ (s_X4_isLane l ca) (⟨va_cnB 1 hts h_X3_isAct_X4_isLane_33 rfl rfl rfl (hN.2.2.2.2.2.2.1) (hts (.initialized RX4) (List.mem_of_getElem? (i := 1) rfl)) (by decide +kernel) ⟨Nat.le_of_ble_eq_true rfl, Nat.le_of_ble_eq_true rfl⟩, hts (.static yX4_isLane) (List.mem_of_getElem? (i := 5) rfl), trivial⟩) ⟨fun _ _ _ _ q => q, fun _ _ _ => ⟨rfl, trivial⟩⟩ rfl rfl hl.1 rfl (lv_room (Nat.le_of_ble_eq_true rfl)) dX3_isAct_284 ⟨Nat.le_of_ble_eq_true rfl, Nat.le_of_ble_eq_true rfl⟩).run (fun r_59 hw_59 => ?_)
        replace hw_59 : (two r_59 (V3 ca) 1 0) := hw_59
        have q_r_59 := hw_59
        refine lv_if_eq (tgt := 302) hx hb dX3_isAct_287 (by decide) (fun c_60 => ?_) (fun c_60 => ?_)
        · -- yes
          have k_60 : r_59.toInt = (0 : Int32).toInt := ci_eq c_60
          have kt_60 : ¬ (V3 ca) := two_z q_r_59 c_60
          refine lv_iconst (v := 0) hx hb dX3_isAct_302 (by decide) ?_
          have hP9 := hP.sub (ws' := []) [] rfl
          have hD9 := hD.sub (ws' := []) [] (by decide) rfl
          exact W.zret (v := 0) (ty := .boolean) hx hb hr rfl (fun t ht hW => ⟨⟨0, (), rfl, (show two (0 : Int32) (okP ka aa ba ca da ea) 1 0 from (Or.inr ⟨rfl, fun h9 => by have h8 := (okP_10 sv_1).mp h9; omega⟩)), by rw [ht]; exact hP9, va_K.moved hW.alike hK, hD9⟩, hS.F ht⟩) hS.2.2 dX3_isAct_303
        · -- no
          have k_60 : ¬ r_59.toInt = (0 : Int32).toInt := ci_ne c_60
          have kt_60 : V3 ca := two_nz q_r_59 c_60
          refine lv_iload hx hb dX3_isAct_290 (lv_at hl 4 rfl) ?_
          refine vp_callSi (va_runSN (As := [.int da]) (rest := []) ⟨hx, hb, hml, hown, hts⟩ (s_X4_isVariable l da) (⟨va_cnB 1 hts h_X3_isAct_X4_isVariable_23 rfl rfl rfl (hN.2.2.2.1) (hts (.initialized RX4) (List.mem_of_getElem? (i := 1) rfl)) (by decide +kernel) ⟨Nat.le_of_ble_eq_true rfl, Nat.le_of_ble_eq_true rfl⟩, hts (.static yX4_isVariable) (List.mem_of_getElem? (i := 2) rfl), trivial⟩) ⟨fun _ _ _ _ q => q, fun _ _ _ => ⟨rfl, trivial⟩⟩ rfl rfl hl.1 rfl (lv_room (Nat.le_of_ble_eq_true rfl)) dX3_isAct_292 ⟨Nat.le_of_ble_eq_true rfl, Nat.le_of_ble_eq_true rfl⟩).run (fun r_61 hw_61 => ?_)
          replace hw_61 : (two r_61 (V6 da) 1 0) := hw_61
          have q_r_61 := hw_61
          refine lv_if_eq (tgt := 302) hx hb dX3_isAct_295 (by decide) (fun c_62 => ?_) (fun c_62 => ?_)
          · -- yes
            have k_62 : r_61.toInt = (0 : Int32).toInt := ci_eq c_62
            have kt_62 : ¬ (V6 da) := two_z q_r_61 c_62
            refine lv_iconst (v := 0) hx hb dX3_isAct_302 (by decide) ?_
            have hP9 := hP.sub (ws' := []) [] rfl
            have hD9 := hD.sub (ws' := []) [] (by decide) rfl
            exact W.zret (v := 0) (ty := .boolean) hx hb hr rfl (fun t ht hW => ⟨⟨0, (), rfl, (show two (0 : Int32) (okP ka aa ba ca da ea) 1 0 from (Or.inr ⟨rfl, fun h9 => by have h8 := (okP_10 sv_1).mp h9; omega⟩)), by rw [ht]; exact hP9, va_K.moved hW.alike hK, hD9⟩, hS.F ht⟩) hS.2.2 dX3_isAct_303
          · -- no
            have k_62 : ¬ r_61.toInt = (0 : Int32).toInt := ci_ne c_62
            have kt_62 : V6 da := two_nz q_r_61 c_62
            refine lv_iconst (v := 1) hx hb dX3_isAct_298 (by decide) ?_
            refine lv_goto (tgt := 303) hx hb dX3_isAct_299 (by decide) ?_
            have hP9 := hP.sub (ws' := []) [] rfl
            have hD9 := hD.sub (ws' := []) [] (by decide) rfl
            exact W.zret (v := 1) (ty := .boolean) hx hb hr rfl (fun t ht hW => ⟨⟨1, (), rfl, (show two (1 : Int32) (okP ka aa ba ca da ea) 1 0 from (Or.inl ⟨rfl, (okP_10 sv_1).mpr (by omega)⟩)), by rw [ht]; exact hP9, va_K.moved hW.alike hK, hD9⟩, hS.F ht⟩) hS.2.2 dX3_isAct_303
  · -- case 11
    refine lv_tableIn (tgt := 304) (off := 303) hx hb dX3_isAct_1 (by omega) (by omega) (by rw [sv_1]; rfl) (by decide) ?_
    refine lv_iload_n hx hb dX3_isAct_304 rfl (lv_at hl 1 rfl) ?_
    refine vp_callSi (va_runSN (As := [.int aa]) (rest := []) ⟨hx, hb, hml, hown, hts⟩ (s_X4_isReference l aa) (⟨va_cnB 1 hts h_X3_isAct_X4_isReference_30 rfl rfl rfl (hN.2.2.2.2.2.1) (hts (.initialized RX4) (List.mem_of_getElem? (i := 1) rfl)) (by decide +kernel) ⟨Nat.le_of_ble_eq_true rfl, Nat.le_of_ble_eq_true rfl⟩, hts (.static yX4_isReference) (List.mem_of_getElem? (i := 4) rfl), trivial⟩) ⟨fun _ _ _ _ q => q, fun _ _ _ => ⟨rfl, trivial⟩⟩ rfl rfl hl.1 rfl (lv_room (Nat.le_of_ble_eq_true rfl)) dX3_isAct_305 ⟨Nat.le_of_ble_eq_true rfl, Nat.le_of_ble_eq_true rfl⟩).run (fun r_63 hw_63 => ?_)
    replace hw_63 : (two r_63 (V6 aa) 1 0) := hw_63
    have q_r_63 := hw_63
    refine lv_if_eq (tgt := 345) hx hb dX3_isAct_308 (by decide) (fun c_64 => ?_) (fun c_64 => ?_)
    · -- yes
      have k_64 : r_63.toInt = (0 : Int32).toInt := ci_eq c_64
      have kt_64 : ¬ (V6 aa) := two_z q_r_63 c_64
      refine lv_iconst (v := 0) hx hb dX3_isAct_345 (by decide) ?_
      have hP9 := hP.sub (ws' := []) [] rfl
      have hD9 := hD.sub (ws' := []) [] (by decide) rfl
      exact W.zret (v := 0) (ty := .boolean) hx hb hr rfl (fun t ht hW => ⟨⟨0, (), rfl, (show two (0 : Int32) (okP ka aa ba ca da ea) 1 0 from (Or.inr ⟨rfl, fun h9 => by have h8 := (okP_11 sv_1).mp h9; omega⟩)), by rw [ht]; exact hP9, va_K.moved hW.alike hK, hD9⟩, hS.F ht⟩) hS.2.2 dX3_isAct_346
    · -- no
      have k_64 : ¬ r_63.toInt = (0 : Int32).toInt := ci_ne c_64
      have kt_64 : V6 aa := two_nz q_r_63 c_64
      refine lv_iload_n hx hb dX3_isAct_311 rfl (lv_at hl 2 rfl) ?_
      refine vp_callSi (va_runSN (As := [.int ba]) (rest := []) ⟨hx, hb, hml, hown, hts⟩ (s_X4_isVariable l ba) (⟨va_cnB 1 hts h_X3_isAct_X4_isVariable_23 rfl rfl rfl (hN.2.2.2.1) (hts (.initialized RX4) (List.mem_of_getElem? (i := 1) rfl)) (by decide +kernel) ⟨Nat.le_of_ble_eq_true rfl, Nat.le_of_ble_eq_true rfl⟩, hts (.static yX4_isVariable) (List.mem_of_getElem? (i := 2) rfl), trivial⟩) ⟨fun _ _ _ _ q => q, fun _ _ _ => ⟨rfl, trivial⟩⟩ rfl rfl hl.1 rfl (lv_room (Nat.le_of_ble_eq_true rfl)) dX3_isAct_312 ⟨Nat.le_of_ble_eq_true rfl, Nat.le_of_ble_eq_true rfl⟩).run (fun r_65 hw_65 => ?_)
      replace hw_65 : (two r_65 (V6 ba) 1 0) := hw_65
      have q_r_65 := hw_65
      refine lv_if_eq (tgt := 345) hx hb dX3_isAct_315 (by decide) (fun c_66 => ?_) (fun c_66 => ?_)
      · -- yes
        have k_66 : r_65.toInt = (0 : Int32).toInt := ci_eq c_66
        have kt_66 : ¬ (V6 ba) := two_z q_r_65 c_66
        refine lv_iconst (v := 0) hx hb dX3_isAct_345 (by decide) ?_
        have hP9 := hP.sub (ws' := []) [] rfl
        have hD9 := hD.sub (ws' := []) [] (by decide) rfl
        exact W.zret (v := 0) (ty := .boolean) hx hb hr rfl (fun t ht hW => ⟨⟨0, (), rfl, (show two (0 : Int32) (okP ka aa ba ca da ea) 1 0 from (Or.inr ⟨rfl, fun h9 => by have h8 := (okP_11 sv_1).mp h9; omega⟩)), by rw [ht]; exact hP9, va_K.moved hW.alike hK, hD9⟩, hS.F ht⟩) hS.2.2 dX3_isAct_346
      · -- no
        have k_66 : ¬ r_65.toInt = (0 : Int32).toInt := ci_ne c_66
        have kt_66 : V6 ba := two_nz q_r_65 c_66
        refine lv_iload_n hx hb dX3_isAct_318 rfl (lv_at hl 3 rfl) ?_
        refine vp_callSi (va_runSN (As := [.int ca]) (rest := []) ⟨hx, hb, hml, hown, hts⟩ (s_X4_isReference l ca) (⟨va_cnB 1 hts h_X3_isAct_X4_isReference_30 rfl rfl rfl (hN.2.2.2.2.2.1) (hts (.initialized RX4) (List.mem_of_getElem? (i := 1) rfl)) (by decide +kernel) ⟨Nat.le_of_ble_eq_true rfl, Nat.le_of_ble_eq_true rfl⟩, hts (.static yX4_isReference) (List.mem_of_getElem? (i := 4) rfl), trivial⟩) ⟨fun _ _ _ _ q => q, fun _ _ _ => ⟨rfl, trivial⟩⟩ rfl rfl hl.1 rfl (lv_room (Nat.le_of_ble_eq_true rfl)) dX3_isAct_319 ⟨Nat.le_of_ble_eq_true rfl, Nat.le_of_ble_eq_true rfl⟩).run (fun r_67 hw_67 => ?_)
        replace hw_67 : (two r_67 (V6 ca) 1 0) := hw_67
        have q_r_67 := hw_67
        refine lv_if_eq (tgt := 345) hx hb dX3_isAct_322 (by decide) (fun c_68 => ?_) (fun c_68 => ?_)
        · -- yes
          have k_68 : r_67.toInt = (0 : Int32).toInt := ci_eq c_68
          have kt_68 : ¬ (V6 ca) := two_z q_r_67 c_68
          refine lv_iconst (v := 0) hx hb dX3_isAct_345 (by decide) ?_
          have hP9 := hP.sub (ws' := []) [] rfl
          have hD9 := hD.sub (ws' := []) [] (by decide) rfl
          exact W.zret (v := 0) (ty := .boolean) hx hb hr rfl (fun t ht hW => ⟨⟨0, (), rfl, (show two (0 : Int32) (okP ka aa ba ca da ea) 1 0 from (Or.inr ⟨rfl, fun h9 => by have h8 := (okP_11 sv_1).mp h9; omega⟩)), by rw [ht]; exact hP9, va_K.moved hW.alike hK, hD9⟩, hS.F ht⟩) hS.2.2 dX3_isAct_346
        · -- no
          have k_68 : ¬ r_67.toInt = (0 : Int32).toInt := ci_ne c_68
          have kt_68 : V6 ca := two_nz q_r_67 c_68
          refine lv_iload hx hb dX3_isAct_325 (lv_at hl 4 rfl) ?_
          refine vp_callSi (va_runSN (As := [.int da]) (rest := []) ⟨hx, hb, hml, hown, hts⟩ (s_X4_isVariable l da) (⟨va_cnB 1 hts h_X3_isAct_X4_isVariable_23 rfl rfl rfl (hN.2.2.2.1) (hts (.initialized RX4) (List.mem_of_getElem? (i := 1) rfl)) (by decide +kernel) ⟨Nat.le_of_ble_eq_true rfl, Nat.le_of_ble_eq_true rfl⟩, hts (.static yX4_isVariable) (List.mem_of_getElem? (i := 2) rfl), trivial⟩) ⟨fun _ _ _ _ q => q, fun _ _ _ => ⟨rfl, trivial⟩⟩ rfl rfl hl.1 rfl (lv_room (Nat.le_of_ble_eq_true rfl)) dX3_isAct_327 ⟨Nat.le_of_ble_eq_true rfl, Nat.le_of_ble_eq_true rfl⟩).run (fun r_69 hw_69 => ?_)
          replace hw_69 : (two r_69 (V6 da) 1 0) := hw_69
          have q_r_69 := hw_69
          refine lv_if_eq (tgt := 345) hx hb dX3_isAct_330 (by decide) (fun c_70 => ?_) (fun c_70 => ?_)
          · -- yes
            have k_70 : r_69.toInt = (0 : Int32).toInt := ci_eq c_70
            have kt_70 : ¬ (V6 da) := two_z q_r_69 c_70
            refine lv_iconst (v := 0) hx hb dX3_isAct_345 (by decide) ?_
            have hP9 := hP.sub (ws' := []) [] rfl
            have hD9 := hD.sub (ws' := []) [] (by decide) rfl
            exact W.zret (v := 0) (ty := .boolean) hx hb hr rfl (fun t ht hW => ⟨⟨0, (), rfl, (show two (0 : Int32) (okP ka aa ba ca da ea) 1 0 from (Or.inr ⟨rfl, fun h9 => by have h8 := (okP_11 sv_1).mp h9; omega⟩)), by rw [ht]; exact hP9, va_K.moved hW.alike hK, hD9⟩, hS.F ht⟩) hS.2.2 dX3_isAct_346
          · -- no
            have k_70 : ¬ r_69.toInt = (0 : Int32).toInt := ci_ne c_70
            have kt_70 : V6 da := two_nz q_r_69 c_70
            refine lv_iload hx hb dX3_isAct_333 (lv_at hl 5 rfl) ?_
            refine vp_callSi (va_runSN (As := [.int ea]) (rest := []) ⟨hx, hb, hml, hown, hts⟩ (s_X4_isVariable l ea) (⟨va_cnB 1 hts h_X3_isAct_X4_isVariable_23 rfl rfl rfl (hN.2.2.2.1) (hts (.initialized RX4) (List.mem_of_getElem? (i := 1) rfl)) (by decide +kernel) ⟨Nat.le_of_ble_eq_true rfl, Nat.le_of_ble_eq_true rfl⟩, hts (.static yX4_isVariable) (List.mem_of_getElem? (i := 2) rfl), trivial⟩) ⟨fun _ _ _ _ q => q, fun _ _ _ => ⟨rfl, trivial⟩⟩ rfl rfl hl.1 rfl (lv_room (Nat.le_of_ble_eq_true rfl)) dX3_isAct_335 ⟨Nat.le_of_ble_eq_true rfl, Nat.le_of_ble_eq_true rfl⟩).run (fun r_71 hw_71 => ?_)
            replace hw_71 : (two r_71 (V6 ea) 1 0) := hw_71
            have q_r_71 := hw_71
            refine lv_if_eq (tgt := 345) hx hb dX3_isAct_338 (by decide) (fun c_72 => ?_) (fun c_72 => ?_)
            · -- yes
              have k_72 : r_71.toInt = (0 : Int32).toInt := ci_eq c_72
              have kt_72 : ¬ (V6 ea) := two_z q_r_71 c_72
              refine lv_iconst (v := 0) hx hb dX3_isAct_345 (by decide) ?_
              have hP9 := hP.sub (ws' := []) [] rfl
              have hD9 := hD.sub (ws' := []) [] (by decide) rfl
              exact W.zret (v := 0) (ty := .boolean) hx hb hr rfl (fun t ht hW => ⟨⟨0, (), rfl, (show two (0 : Int32) (okP ka aa ba ca da ea) 1 0 from (Or.inr ⟨rfl, fun h9 => by have h8 := (okP_11 sv_1).mp h9; omega⟩)), by rw [ht]; exact hP9, va_K.moved hW.alike hK, hD9⟩, hS.F ht⟩) hS.2.2 dX3_isAct_346
            · -- no
              have k_72 : ¬ r_71.toInt = (0 : Int32).toInt := ci_ne c_72
              have kt_72 : V6 ea := two_nz q_r_71 c_72
              refine lv_iconst (v := 1) hx hb dX3_isAct_341 (by decide) ?_
              refine lv_goto (tgt := 346) hx hb dX3_isAct_342 (by decide) ?_
              have hP9 := hP.sub (ws' := []) [] rfl
              have hD9 := hD.sub (ws' := []) [] (by decide) rfl
              exact W.zret (v := 1) (ty := .boolean) hx hb hr rfl (fun t ht hW => ⟨⟨1, (), rfl, (show two (1 : Int32) (okP ka aa ba ca da ea) 1 0 from (Or.inl ⟨rfl, (okP_11 sv_1).mpr (by omega)⟩)), by rw [ht]; exact hP9, va_K.moved hW.alike hK, hD9⟩, hS.F ht⟩) hS.2.2 dX3_isAct_346
  · -- case 12
    refine lv_tableIn (tgt := 347) (off := 346) hx hb dX3_isAct_1 (by omega) (by omega) (by rw [sv_1]; rfl) (by decide) ?_
    refine lv_iload_n hx hb dX3_isAct_347 rfl (lv_at hl 1 rfl) ?_
    refine vp_callSi (va_runSN (As := [.int aa]) (rest := []) ⟨hx, hb, hml, hown, hts⟩ (s_X4_isReference l aa) (⟨va_cnB 1 hts h_X3_isAct_X4_isReference_30 rfl rfl rfl (hN.2.2.2.2.2.1) (hts (.initialized RX4) (List.mem_of_getElem? (i := 1) rfl)) (by decide +kernel) ⟨Nat.le_of_ble_eq_true rfl, Nat.le_of_ble_eq_true rfl⟩, hts (.static yX4_isReference) (List.mem_of_getElem? (i := 4) rfl), trivial⟩) ⟨fun _ _ _ _ q => q, fun _ _ _ => ⟨rfl, trivial⟩⟩ rfl rfl hl.1 rfl (lv_room (Nat.le_of_ble_eq_true rfl)) dX3_isAct_348 ⟨Nat.le_of_ble_eq_true rfl, Nat.le_of_ble_eq_true rfl⟩).run (fun r_73 hw_73 => ?_)
    replace hw_73 : (two r_73 (V6 aa) 1 0) := hw_73
    have q_r_73 := hw_73
    refine lv_if_eq (tgt := 388) hx hb dX3_isAct_351 (by decide) (fun c_74 => ?_) (fun c_74 => ?_)
    · -- yes
      have k_74 : r_73.toInt = (0 : Int32).toInt := ci_eq c_74
      have kt_74 : ¬ (V6 aa) := two_z q_r_73 c_74
      refine lv_iconst (v := 0) hx hb dX3_isAct_388 (by decide) ?_
      have hP9 := hP.sub (ws' := []) [] rfl
      have hD9 := hD.sub (ws' := []) [] (by decide) rfl
      exact W.zret (v := 0) (ty := .boolean) hx hb hr rfl (fun t ht hW => ⟨⟨0, (), rfl, (show two (0 : Int32) (okP ka aa ba ca da ea) 1 0 from (Or.inr ⟨rfl, fun h9 => by have h8 := (okP_12 sv_1).mp h9; omega⟩)), by rw [ht]; exact hP9, va_K.moved hW.alike hK, hD9⟩, hS.F ht⟩) hS.2.2 dX3_isAct_389
    · -- no
      have k_74 : ¬ r_73.toInt = (0 : Int32).toInt := ci_ne c_74
      have kt_74 : V6 aa := two_nz q_r_73 c_74
      refine lv_iload_n hx hb dX3_isAct_354 rfl (lv_at hl 2 rfl) ?_
      refine vp_callSi (va_runSN (As := [.int ba]) (rest := []) ⟨hx, hb, hml, hown, hts⟩ (s_X4_isLane l ba) (⟨va_cnB 1 hts h_X3_isAct_X4_isLane_33 rfl rfl rfl (hN.2.2.2.2.2.2.1) (hts (.initialized RX4) (List.mem_of_getElem? (i := 1) rfl)) (by decide +kernel) ⟨Nat.le_of_ble_eq_true rfl, Nat.le_of_ble_eq_true rfl⟩, hts (.static yX4_isLane) (List.mem_of_getElem? (i := 5) rfl), trivial⟩) ⟨fun _ _ _ _ q => q, fun _ _ _ => ⟨rfl, trivial⟩⟩ rfl rfl hl.1 rfl (lv_room (Nat.le_of_ble_eq_true rfl)) dX3_isAct_355 ⟨Nat.le_of_ble_eq_true rfl, Nat.le_of_ble_eq_true rfl⟩).run (fun r_75 hw_75 => ?_)
      replace hw_75 : (two r_75 (V3 ba) 1 0) := hw_75
      have q_r_75 := hw_75
      refine lv_if_eq (tgt := 388) hx hb dX3_isAct_358 (by decide) (fun c_76 => ?_) (fun c_76 => ?_)
      · -- yes
        have k_76 : r_75.toInt = (0 : Int32).toInt := ci_eq c_76
        have kt_76 : ¬ (V3 ba) := two_z q_r_75 c_76
        refine lv_iconst (v := 0) hx hb dX3_isAct_388 (by decide) ?_
        have hP9 := hP.sub (ws' := []) [] rfl
        have hD9 := hD.sub (ws' := []) [] (by decide) rfl
        exact W.zret (v := 0) (ty := .boolean) hx hb hr rfl (fun t ht hW => ⟨⟨0, (), rfl, (show two (0 : Int32) (okP ka aa ba ca da ea) 1 0 from (Or.inr ⟨rfl, fun h9 => by have h8 := (okP_12 sv_1).mp h9; omega⟩)), by rw [ht]; exact hP9, va_K.moved hW.alike hK, hD9⟩, hS.F ht⟩) hS.2.2 dX3_isAct_389
      · -- no
        have k_76 : ¬ r_75.toInt = (0 : Int32).toInt := ci_ne c_76
        have kt_76 : V3 ba := two_nz q_r_75 c_76
        refine lv_iload_n hx hb dX3_isAct_361 rfl (lv_at hl 3 rfl) ?_
        refine vp_callSi (va_runSN (As := [.int ca]) (rest := []) ⟨hx, hb, hml, hown, hts⟩ (s_X4_isVariable l ca) (⟨va_cnB 1 hts h_X3_isAct_X4_isVariable_23 rfl rfl rfl (hN.2.2.2.1) (hts (.initialized RX4) (List.mem_of_getElem? (i := 1) rfl)) (by decide +kernel) ⟨Nat.le_of_ble_eq_true rfl, Nat.le_of_ble_eq_true rfl⟩, hts (.static yX4_isVariable) (List.mem_of_getElem? (i := 2) rfl), trivial⟩) ⟨fun _ _ _ _ q => q, fun _ _ _ => ⟨rfl, trivial⟩⟩ rfl rfl hl.1 rfl (lv_room (Nat.le_of_ble_eq_true rfl)) dX3_isAct_362 ⟨Nat.le_of_ble_eq_true rfl, Nat.le_of_ble_eq_true rfl⟩).run (fun r_77 hw_77 => ?_)
        replace hw_77 : (two r_77 (V6 ca) 1 0) := hw_77
        have q_r_77 := hw_77
        refine lv_if_eq (tgt := 388) hx hb dX3_isAct_365 (by decide) (fun c_78 => ?_) (fun c_78 => ?_)
        · -- yes
          have k_78 : r_77.toInt = (0 : Int32).toInt := ci_eq c_78
          have kt_78 : ¬ (V6 ca) := two_z q_r_77 c_78
          refine lv_iconst (v := 0) hx hb dX3_isAct_388 (by decide) ?_
          have hP9 := hP.sub (ws' := []) [] rfl
          have hD9 := hD.sub (ws' := []) [] (by decide) rfl
          exact W.zret (v := 0) (ty := .boolean) hx hb hr rfl (fun t ht hW => ⟨⟨0, (), rfl, (show two (0 : Int32) (okP ka aa ba ca da ea) 1 0 from (Or.inr ⟨rfl, fun h9 => by have h8 := (okP_12 sv_1).mp h9; omega⟩)), by rw [ht]; exact hP9, va_K.moved hW.alike hK, hD9⟩, hS.F ht⟩) hS.2.2 dX3_isAct_389
        · -- no
          have k_78 : ¬ r_77.toInt = (0 : Int32).toInt := ci_ne c_78
          have kt_78 : V6 ca := two_nz q_r_77 c_78
          refine lv_iload hx hb dX3_isAct_368 (lv_at hl 4 rfl) ?_
          refine vp_callSi (va_runSN (As := [.int da]) (rest := []) ⟨hx, hb, hml, hown, hts⟩ (s_X4_isVariable l da) (⟨va_cnB 1 hts h_X3_isAct_X4_isVariable_23 rfl rfl rfl (hN.2.2.2.1) (hts (.initialized RX4) (List.mem_of_getElem? (i := 1) rfl)) (by decide +kernel) ⟨Nat.le_of_ble_eq_true rfl, Nat.le_of_ble_eq_true rfl⟩, hts (.static yX4_isVariable) (List.mem_of_getElem? (i := 2) rfl), trivial⟩) ⟨fun _ _ _ _ q => q, fun _ _ _ => ⟨rfl, trivial⟩⟩ rfl rfl hl.1 rfl (lv_room (Nat.le_of_ble_eq_true rfl)) dX3_isAct_370 ⟨Nat.le_of_ble_eq_true rfl, Nat.le_of_ble_eq_true rfl⟩).run (fun r_79 hw_79 => ?_)
          replace hw_79 : (two r_79 (V6 da) 1 0) := hw_79
          have q_r_79 := hw_79
          refine lv_if_eq (tgt := 388) hx hb dX3_isAct_373 (by decide) (fun c_80 => ?_) (fun c_80 => ?_)
          · -- yes
            have k_80 : r_79.toInt = (0 : Int32).toInt := ci_eq c_80
            have kt_80 : ¬ (V6 da) := two_z q_r_79 c_80
            refine lv_iconst (v := 0) hx hb dX3_isAct_388 (by decide) ?_
            have hP9 := hP.sub (ws' := []) [] rfl
            have hD9 := hD.sub (ws' := []) [] (by decide) rfl
            exact W.zret (v := 0) (ty := .boolean) hx hb hr rfl (fun t ht hW => ⟨⟨0, (), rfl, (show two (0 : Int32) (okP ka aa ba ca da ea) 1 0 from (Or.inr ⟨rfl, fun h9 => by have h8 := (okP_12 sv_1).mp h9; omega⟩)), by rw [ht]; exact hP9, va_K.moved hW.alike hK, hD9⟩, hS.F ht⟩) hS.2.2 dX3_isAct_389
          · -- no
            have k_80 : ¬ r_79.toInt = (0 : Int32).toInt := ci_ne c_80
            have kt_80 : V6 da := two_nz q_r_79 c_80
            refine lv_iload hx hb dX3_isAct_376 (lv_at hl 5 rfl) ?_
            refine vp_callSi (va_runSN (As := [.int ea]) (rest := []) ⟨hx, hb, hml, hown, hts⟩ (s_X4_isVariable l ea) (⟨va_cnB 1 hts h_X3_isAct_X4_isVariable_23 rfl rfl rfl (hN.2.2.2.1) (hts (.initialized RX4) (List.mem_of_getElem? (i := 1) rfl)) (by decide +kernel) ⟨Nat.le_of_ble_eq_true rfl, Nat.le_of_ble_eq_true rfl⟩, hts (.static yX4_isVariable) (List.mem_of_getElem? (i := 2) rfl), trivial⟩) ⟨fun _ _ _ _ q => q, fun _ _ _ => ⟨rfl, trivial⟩⟩ rfl rfl hl.1 rfl (lv_room (Nat.le_of_ble_eq_true rfl)) dX3_isAct_378 ⟨Nat.le_of_ble_eq_true rfl, Nat.le_of_ble_eq_true rfl⟩).run (fun r_81 hw_81 => ?_)
            replace hw_81 : (two r_81 (V6 ea) 1 0) := hw_81
            have q_r_81 := hw_81
            refine lv_if_eq (tgt := 388) hx hb dX3_isAct_381 (by decide) (fun c_82 => ?_) (fun c_82 => ?_)
            · -- yes
              have k_82 : r_81.toInt = (0 : Int32).toInt := ci_eq c_82
              have kt_82 : ¬ (V6 ea) := two_z q_r_81 c_82
              refine lv_iconst (v := 0) hx hb dX3_isAct_388 (by decide) ?_
              have hP9 := hP.sub (ws' := []) [] rfl
              have hD9 := hD.sub (ws' := []) [] (by decide) rfl
              exact W.zret (v := 0) (ty := .boolean) hx hb hr rfl (fun t ht hW => ⟨⟨0, (), rfl, (show two (0 : Int32) (okP ka aa ba ca da ea) 1 0 from (Or.inr ⟨rfl, fun h9 => by have h8 := (okP_12 sv_1).mp h9; omega⟩)), by rw [ht]; exact hP9, va_K.moved hW.alike hK, hD9⟩, hS.F ht⟩) hS.2.2 dX3_isAct_389
            · -- no
              have k_82 : ¬ r_81.toInt = (0 : Int32).toInt := ci_ne c_82
              have kt_82 : V6 ea := two_nz q_r_81 c_82
              refine lv_iconst (v := 1) hx hb dX3_isAct_384 (by decide) ?_
              refine lv_goto (tgt := 389) hx hb dX3_isAct_385 (by decide) ?_
              have hP9 := hP.sub (ws' := []) [] rfl
              have hD9 := hD.sub (ws' := []) [] (by decide) rfl
              exact W.zret (v := 1) (ty := .boolean) hx hb hr rfl (fun t ht hW => ⟨⟨1, (), rfl, (show two (1 : Int32) (okP ka aa ba ca da ea) 1 0 from (Or.inl ⟨rfl, (okP_12 sv_1).mpr (by omega)⟩)), by rw [ht]; exact hP9, va_K.moved hW.alike hK, hD9⟩, hS.F ht⟩) hS.2.2 dX3_isAct_389
  · -- case 13
    refine lv_tableIn (tgt := 390) (off := 389) hx hb dX3_isAct_1 (by omega) (by omega) (by rw [sv_1]; rfl) (by decide) ?_
    refine lv_iload_n hx hb dX3_isAct_390 rfl (lv_at hl 1 rfl) ?_
    refine vp_callSi (va_runSN (As := [.int aa]) (rest := []) ⟨hx, hb, hml, hown, hts⟩ (s_X4_isVariable l aa) (⟨va_cnB 1 hts h_X3_isAct_X4_isVariable_23 rfl rfl rfl (hN.2.2.2.1) (hts (.initialized RX4) (List.mem_of_getElem? (i := 1) rfl)) (by decide +kernel) ⟨Nat.le_of_ble_eq_true rfl, Nat.le_of_ble_eq_true rfl⟩, hts (.static yX4_isVariable) (List.mem_of_getElem? (i := 2) rfl), trivial⟩) ⟨fun _ _ _ _ q => q, fun _ _ _ => ⟨rfl, trivial⟩⟩ rfl rfl hl.1 rfl (lv_room (Nat.le_of_ble_eq_true rfl)) dX3_isAct_391 ⟨Nat.le_of_ble_eq_true rfl, Nat.le_of_ble_eq_true rfl⟩).run (fun r_83 hw_83 => ?_)
    replace hw_83 : (two r_83 (V6 aa) 1 0) := hw_83
    have q_r_83 := hw_83
    refine lv_if_eq (tgt := 408) hx hb dX3_isAct_394 (by decide) (fun c_84 => ?_) (fun c_84 => ?_)
    · -- yes
      have k_84 : r_83.toInt = (0 : Int32).toInt := ci_eq c_84
      have kt_84 : ¬ (V6 aa) := two_z q_r_83 c_84
      refine lv_iconst (v := 0) hx hb dX3_isAct_408 (by decide) ?_
      have hP9 := hP.sub (ws' := []) [] rfl
      have hD9 := hD.sub (ws' := []) [] (by decide) rfl
      exact W.zret (v := 0) (ty := .boolean) hx hb hr rfl (fun t ht hW => ⟨⟨0, (), rfl, (show two (0 : Int32) (okP ka aa ba ca da ea) 1 0 from (Or.inr ⟨rfl, fun h9 => by have h8 := (okP_13 sv_1).mp h9; omega⟩)), by rw [ht]; exact hP9, va_K.moved hW.alike hK, hD9⟩, hS.F ht⟩) hS.2.2 dX3_isAct_409
    · -- no
      have k_84 : ¬ r_83.toInt = (0 : Int32).toInt := ci_ne c_84
      have kt_84 : V6 aa := two_nz q_r_83 c_84
      refine lv_iload_n hx hb dX3_isAct_397 rfl (lv_at hl 2 rfl) ?_
      refine vp_callSi (va_runSN (As := [.int ba]) (rest := []) ⟨hx, hb, hml, hown, hts⟩ (s_X4_isReference l ba) (⟨va_cnB 1 hts h_X3_isAct_X4_isReference_30 rfl rfl rfl (hN.2.2.2.2.2.1) (hts (.initialized RX4) (List.mem_of_getElem? (i := 1) rfl)) (by decide +kernel) ⟨Nat.le_of_ble_eq_true rfl, Nat.le_of_ble_eq_true rfl⟩, hts (.static yX4_isReference) (List.mem_of_getElem? (i := 4) rfl), trivial⟩) ⟨fun _ _ _ _ q => q, fun _ _ _ => ⟨rfl, trivial⟩⟩ rfl rfl hl.1 rfl (lv_room (Nat.le_of_ble_eq_true rfl)) dX3_isAct_398 ⟨Nat.le_of_ble_eq_true rfl, Nat.le_of_ble_eq_true rfl⟩).run (fun r_85 hw_85 => ?_)
      replace hw_85 : (two r_85 (V6 ba) 1 0) := hw_85
      have q_r_85 := hw_85
      refine lv_if_eq (tgt := 408) hx hb dX3_isAct_401 (by decide) (fun c_86 => ?_) (fun c_86 => ?_)
      · -- yes
        have k_86 : r_85.toInt = (0 : Int32).toInt := ci_eq c_86
        have kt_86 : ¬ (V6 ba) := two_z q_r_85 c_86
        refine lv_iconst (v := 0) hx hb dX3_isAct_408 (by decide) ?_
        have hP9 := hP.sub (ws' := []) [] rfl
        have hD9 := hD.sub (ws' := []) [] (by decide) rfl
        exact W.zret (v := 0) (ty := .boolean) hx hb hr rfl (fun t ht hW => ⟨⟨0, (), rfl, (show two (0 : Int32) (okP ka aa ba ca da ea) 1 0 from (Or.inr ⟨rfl, fun h9 => by have h8 := (okP_13 sv_1).mp h9; omega⟩)), by rw [ht]; exact hP9, va_K.moved hW.alike hK, hD9⟩, hS.F ht⟩) hS.2.2 dX3_isAct_409
      · -- no
        have k_86 : ¬ r_85.toInt = (0 : Int32).toInt := ci_ne c_86
        have kt_86 : V6 ba := two_nz q_r_85 c_86
        refine lv_iconst (v := 1) hx hb dX3_isAct_404 (by decide) ?_
        refine lv_goto (tgt := 409) hx hb dX3_isAct_405 (by decide) ?_
        have hP9 := hP.sub (ws' := []) [] rfl
        have hD9 := hD.sub (ws' := []) [] (by decide) rfl
        exact W.zret (v := 1) (ty := .boolean) hx hb hr rfl (fun t ht hW => ⟨⟨1, (), rfl, (show two (1 : Int32) (okP ka aa ba ca da ea) 1 0 from (Or.inl ⟨rfl, (okP_13 sv_1).mpr (by omega)⟩)), by rw [ht]; exact hP9, va_K.moved hW.alike hK, hD9⟩, hS.F ht⟩) hS.2.2 dX3_isAct_409
  · -- case 14
    refine lv_tableIn (tgt := 410) (off := 409) hx hb dX3_isAct_1 (by omega) (by omega) (by rw [sv_1]; rfl) (by decide) ?_
    refine lv_iload_n hx hb dX3_isAct_410 rfl (lv_at hl 2 rfl) ?_
    refine lv_iconst (v := 1) hx hb dX3_isAct_411 (by decide) ?_
    refine lv_icmp_lt (tgt := 425) hx hb dX3_isAct_412 (by decide) (fun c_87 => ?_) (fun c_87 => ?_)
    · -- yes
      have k_87 : ba.toInt < (1 : Int32).toInt := ci_lt c_87
      refine lv_iconst (v := 0) hx hb dX3_isAct_425 (by decide) ?_
      have hP9 := hP.sub (ws' := []) [] rfl
      have hD9 := hD.sub (ws' := []) [] (by decide) rfl
      exact W.zret (v := 0) (ty := .boolean) hx hb hr rfl (fun t ht hW => ⟨⟨0, (), rfl, (show two (0 : Int32) (okP ka aa ba ca da ea) 1 0 from (Or.inr ⟨rfl, fun h9 => by have h8 := (okP_14 sv_1).mp h9; omega⟩)), by rw [ht]; exact hP9, va_K.moved hW.alike hK, hD9⟩, hS.F ht⟩) hS.2.2 dX3_isAct_426
    · -- no
      have k_87 : (1 : Int32).toInt ≤ ba.toInt := ci_nlt c_87
      refine lv_iload_n hx hb dX3_isAct_415 rfl (lv_at hl 2 rfl) ?_
      refine lv_bipush (v := 10) hx hb dX3_isAct_416 (by decide) ?_
      refine lv_icmp_gt (tgt := 425) hx hb dX3_isAct_418 (by decide) (fun c_88 => ?_) (fun c_88 => ?_)
      · -- yes
        have k_88 : (10 : Int32).toInt < ba.toInt := ci_gt c_88
        refine lv_iconst (v := 0) hx hb dX3_isAct_425 (by decide) ?_
        have hP9 := hP.sub (ws' := []) [] rfl
        have hD9 := hD.sub (ws' := []) [] (by decide) rfl
        exact W.zret (v := 0) (ty := .boolean) hx hb hr rfl (fun t ht hW => ⟨⟨0, (), rfl, (show two (0 : Int32) (okP ka aa ba ca da ea) 1 0 from (Or.inr ⟨rfl, fun h9 => by have h8 := (okP_14 sv_1).mp h9; omega⟩)), by rw [ht]; exact hP9, va_K.moved hW.alike hK, hD9⟩, hS.F ht⟩) hS.2.2 dX3_isAct_426
      · -- no
        have k_88 : ba.toInt ≤ (10 : Int32).toInt := ci_ngt c_88
        refine lv_iconst (v := 1) hx hb dX3_isAct_421 (by decide) ?_
        refine lv_goto (tgt := 426) hx hb dX3_isAct_422 (by decide) ?_
        have hP9 := hP.sub (ws' := []) [] rfl
        have hD9 := hD.sub (ws' := []) [] (by decide) rfl
        exact W.zret (v := 1) (ty := .boolean) hx hb hr rfl (fun t ht hW => ⟨⟨1, (), rfl, (show two (1 : Int32) (okP ka aa ba ca da ea) 1 0 from (Or.inl ⟨rfl, (okP_14 sv_1).mpr (by omega)⟩)), by rw [ht]; exact hP9, va_K.moved hW.alike hK, hD9⟩, hS.F ht⟩) hS.2.2 dX3_isAct_426
  · -- case None
    refine lv_tableOut (tgt := 427) hx hb dX3_isAct_1 sv_1 (by decide) ?_
    refine lv_iconst (v := 0) hx hb dX3_isAct_427 (by decide) ?_
    have hP9 := hP.sub (ws' := []) [] rfl
    have hD9 := hD.sub (ws' := []) [] (by decide) rfl
    exact W.zret (v := 0) (ty := .boolean) hx hb hr rfl (fun t ht hW => ⟨⟨0, (), rfl, (show two (0 : Int32) (okP ka aa ba ca da ea) 1 0 from (Or.inr ⟨rfl, okP_out sv_1⟩)), by rw [ht]; exact hP9, va_K.moved hW.alike hK, hD9⟩, hS.F ht⟩) hS.2.2 dX3_isAct_428
