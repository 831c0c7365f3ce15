def v_X3_isAct : List Cond := .code yX3_isAct cX3_isAct 6 (some .boolean) :: ([.initialized RX4, .static yX4_isVariable, .static yX4_isNumber, .static yX4_isReference, .static yX4_isLane] ++ (v_X4_isVariable ++ (v_X4_isNumber ++ (v_X4_isReference ++ (v_X4_isLane)))))
theorem im_X3_isAct_X4_isVariable : ∀ w ∈ v_X4_isVariable, w ∈ v_X3_isAct := fun _ h => List.mem_cons_of_mem _ (List.mem_append_right _ (List.mem_append_left _ h))
theorem im_X3_isAct_X4_isNumber : ∀ w ∈ v_X4_isNumber, w ∈ v_X3_isAct := fun _ h => List.mem_cons_of_mem _ (List.mem_append_right _ (List.mem_append_right _ (List.mem_append_left _ h)))
theorem im_X3_isAct_X4_isReference : ∀ w ∈ v_X4_isReference, w ∈ v_X3_isAct := fun _ h => List.mem_cons_of_mem _ (List.mem_append_right _ (List.mem_append_right _ (List.mem_append_right _ (List.mem_append_left _ h))))
theorem im_X3_isAct_X4_isLane : ∀ w ∈ v_X4_isLane, w ∈ v_X3_isAct := fun _ h => List.mem_cons_of_mem _ (List.mem_append_right _ (List.mem_append_right _ (List.mem_append_right _ (List.mem_append_right _ (h)))))
set_option maxRecDepth 20000 in
theorem gd_X3_isAct : gdL v_X3_isAct := gdC (gdW (by decide +kernel)) (gdA (gdW (by decide +kernel)) (gdA gd_X4_isVariable (gdA gd_X4_isNumber (gdA gd_X4_isReference gd_X4_isLane))))
theorem h_X3_isAct_X4_isVariable_23 : GoodIn v_X3_isAct (v_X4_isVariable) := fun w h => ⟨im_X3_isAct_X4_isVariable w h, gd_X4_isVariable w h⟩
theorem h_X3_isAct_X4_isNumber_27 : GoodIn v_X3_isAct (v_X4_isNumber) := fun w h => ⟨im_X3_isAct_X4_isNumber w h, gd_X4_isNumber w h⟩
theorem h_X3_isAct_X4_isReference_30 : GoodIn v_X3_isAct (v_X4_isReference) := fun w h => ⟨im_X3_isAct_X4_isReference w h, gd_X4_isReference w h⟩
theorem h_X3_isAct_X4_isLane_33 : GoodIn v_X3_isAct (v_X4_isLane) := fun w h => ⟨im_X3_isAct_X4_isLane w h, gd_X4_isLane w h⟩
abbrev sw_X3_isAct (cI cJ cZ : ClassId) (ka : Int32) (aa : Int32) (ba : Int32) (ca : Int32) (da : Int32) (ea : Int32) : va_W := []
set_option maxHeartbeats 8000000 in
set_option maxRecDepth 100000 in
theorem s_X3_isAct (l : Launch) (dC : Nat → ClassId) (dI : Nat → Nat → Nat) (cI cJ cZ : ClassId) (ka : Int32) (aa : Int32) (ba : Int32) (ca : Int32) (da : Int32) (ea : Int32) (sz : Nat) : Met l yX3_isAct v_X3_isAct ({ frames := 1, cells := 0, slots := 0, locals := 20 }) (va_Pc [.int ka, .int aa, .int ba, .int ca, .int da, .int ea] (cPre dC dI cI cJ cZ sz (sw_X3_isAct cI cJ cZ ka aa ba ca da ea))) (va_Qi (fun (r : Int32) (u : Unit) => (two r (okP ka aa ba ca da ea) 1 0)) (fun (u : Unit) => cPost dC dI cI cJ cZ (va_A (sw_X3_isAct cI cJ cZ ka aa ba ca da ea) sz) []) (va_A (sw_X3_isAct cI cJ cZ ka aa ba ca da ea) sz)) 0 0 (va_A (sw_X3_isAct cI cJ cZ ka aa ba ca da ea) sz) := by
  refine Met.ofW (cc := cX3_isAct) (maxL := 6) (ret := (some .boolean)) (by decide) rfl ?_
  intro p e s m args below meth c s₁ B hml hv
  obtain ⟨rfl, hsz, hP, hK, hD0, hN⟩ := hv
  have hx := B.exec
  have hb := B.bytes
  have hr := B.returns
  have hts := atoms_spec (ws := v_X3_isAct) B.pre
  have hown : s.vm.findClass RX3 = some m.cls := findClass_of_methodNamed B.named
  have hlocks := B.notSynchronized
  subst hsz
  have hD := hD0.self (sz := s.heap.size)
  generalize hAe : va_A (sw_X3_isAct cI cJ cZ ka aa ba ca da ea) s.heap.size = A at hD ⊢
  have hA : ∀ q : Nat, s.heap.size ≤ q → A q := fun q h => by rw [← hAe]; exact Or.inr h
  clear hAe hD0
  have hS : va_S A s.heap s.heap [] := va_S.rf
  replace hP : va_P (dC, dI) vwCl [] s.heap := hP
  replace hD : va_D A [] := hD
  have hl := lv_entry ([.int ka, .int aa, .int ba, .int ca, .int da, .int ea]) (n := 6) (Nat.le_of_ble_eq_true rfl)
  rw [lg_entry_eq]
  generalize (lg_sl ([.int ka, .int aa, .int ba, .int ca, .int da, .int ea]) ++ List.replicate (6 - (lg_sl ([.int ka, .int aa, .int ba, .int ca, .int da, .int ea])).length) Slot.unset).toArray = ls at hl ⊢
  replace hl : lv_has ls 6 [(0, .int ka), (1, .int aa), (2, .int ba), (3, .int ca), (4, .int da), (5, .int ea)] := hl
  have z_0 : (0 : Int32).toInt = 0 := by decide
  have z_1 : (1 : Int32).toInt = 1 := by decide
  have z_10 : (10 : Int32).toInt = 10 := by decide
  refine lv_iload_n hx hb dX3_isAct_0 rfl (lv_at hl 0 rfl) ?_
  have sw_1 : ka.toInt = 0 ∨ ka.toInt = 1 ∨ ka.toInt = 2 ∨ ka.toInt = 3 ∨ ka.toInt = 4 ∨ ka.toInt = 5 ∨ ka.toInt = 6 ∨ ka.toInt = 7 ∨ ka.toInt = 8 ∨ ka.toInt = 9 ∨ ka.toInt = 10 ∨ ka.toInt = 11 ∨ ka.toInt = 12 ∨ ka.toInt = 13 ∨ ka.toInt = 14 ∨ (ka.toInt < 0 ∨ 14 < ka.toInt) := by omega
  rcases sw_1 with sv_1 | sv_1 | sv_1 | sv_1 | sv_1 | sv_1 | sv_1 | sv_1 | sv_1 | sv_1 | sv_1 | sv_1 | sv_1 | sv_1 | sv_1 | sv_1
  · -- case 0
    refine lv_tableIn (tgt := 76) (off := 75) hx hb dX3_isAct_1 (by omega) (by omega) (by rw [sv_1]; rfl) (by decide) ?_
    refine lv_iload_n hx hb dX3_isAct_76 rfl (lv_at hl 1 rfl) ?_
    refine vp_callSi (va_runSN (As := [.int aa]) (rest := []) ⟨hx, hb, hml, hown, hts⟩ (s_X4_isVariable l aa) (⟨va_cnB 1 hts h_X3_isAct_X4_isVariable_23 rfl rfl rfl (hN.2.2.2.1) (hts (.initialized RX4) (List.mem_of_getElem? (i := 1) rfl)) (by decide +kernel) ⟨Nat.le_of_ble_eq_true rfl, Nat.le_of_ble_eq_true rfl⟩, hts (.static yX4_isVariable) (List.mem_of_getElem? (i := 2) rfl), trivial⟩) ⟨fun _ _ _ _ q => q, fun _ _ _ => ⟨rfl, trivial⟩⟩ rfl rfl hl.1 rfl (lv_room (Nat.le_of_ble_eq_true rfl)) dX3_isAct_77 ⟨Nat.le_of_ble_eq_true rfl, Nat.le_of_ble_eq_true rfl⟩).run (fun r_2 hw_2 => ?_)
    replace hw_2 : (two r_2 (V6 aa) 1 0) := hw_2
    have q_r_2 := hw_2
    refine lv_if_eq (tgt := 94) hx hb dX3_isAct_80 (by decide) (fun c_3 => ?_) (fun c_3 => ?_)
    · -- yes
      have k_3 : r_2.toInt = (0 : Int32).toInt := ci_eq c_3
      have kt_3 : ¬ (V6 aa) := two_z q_r_2 c_3
      refine lv_iconst (v := 0) hx hb dX3_isAct_94 (by decide) ?_
      have hP9 := hP.sub (ws' := []) [] rfl
      have hD9 := hD.sub (ws' := []) [] (by decide) rfl
      exact W.zret (v := 0) (ty := .boolean) hx hb hr rfl (fun t ht hW => ⟨⟨0, (), rfl, (show two (0 : Int32) (okP ka aa ba ca da ea) 1 0 from (Or.inr ⟨rfl, fun h9 => by have h8 := (okP_0 sv_1).mp h9; omega⟩)), by rw [ht]; exact hP9, va_K.moved hW.alike hK, hD9⟩, hS.F ht⟩) hS.2.2 dX3_isAct_95
    · -- no
      have k_3 : ¬ r_2.toInt = (0 : Int32).toInt := ci_ne c_3
      have kt_3 : V6 aa := two_nz q_r_2 c_3
      refine lv_iload_n hx hb dX3_isAct_83 rfl (lv_at hl 2 rfl) ?_
      refine vp_callSi (va_runSN (As := [.int ba]) (rest := []) ⟨hx, hb, hml, hown, hts⟩ (s_X4_isNumber l ba) (⟨va_cnB 1 hts h_X3_isAct_X4_isNumber_27 rfl rfl rfl (hN.2.2.2.2.1) (hts (.initialized RX4) (List.mem_of_getElem? (i := 1) rfl)) (by decide +kernel) ⟨Nat.le_of_ble_eq_true rfl, Nat.le_of_ble_eq_true rfl⟩, hts (.static yX4_isNumber) (List.mem_of_getElem? (i := 3) rfl), trivial⟩) ⟨fun _ _ _ _ q => q, fun _ _ _ => ⟨rfl, trivial⟩⟩ rfl rfl hl.1 rfl (lv_room (Nat.le_of_ble_eq_true rfl)) dX3_isAct_84 ⟨Nat.le_of_ble_eq_true rfl, Nat.le_of_ble_eq_true rfl⟩).run (fun r_4 hw_4 => ?_)
      replace hw_4 : (two r_4 (VN ba) 1 0) := hw_4
      have q_r_4 := hw_4
      refine lv_if_eq (tgt := 94) hx hb dX3_isAct_87 (by decide) (fun c_5 => ?_) (fun c_5 => ?_)
      · -- yes
        have k_5 : r_4.toInt = (0 : Int32).toInt := ci_eq c_5
        have kt_5 : ¬ (VN ba) := two_z q_r_4 c_5
        refine lv_iconst (v := 0) hx hb dX3_isAct_94 (by decide) ?_
        have hP9 := hP.sub (ws' := []) [] rfl
        have hD9 := hD.sub (ws' := []) [] (by decide) rfl
        exact W.zret (v := 0) (ty := .boolean) hx hb hr rfl (fun t ht hW => ⟨⟨0, (), rfl, (show two (0 : Int32) (okP ka aa ba ca da ea) 1 0 from (Or.inr ⟨rfl, fun h9 => by have h8 := (okP_0 sv_1).mp h9; omega⟩)), by rw [ht]; exact hP9, va_K.moved hW.alike hK, hD9⟩, hS.F ht⟩) hS.2.2 dX3_isAct_95
      · -- no
        have k_5 : ¬ r_4.toInt = (0 : Int32).toInt := ci_ne c_5
        have kt_5 : VN ba := two_nz q_r_4 c_5
        refine lv_iconst (v := 1) hx hb dX3_isAct_90 (by decide) ?_
        refine lv_goto (tgt := 95) hx hb dX3_isAct_91 (by decide) ?_
        have hP9 := hP.sub (ws' := []) [] rfl
        have hD9 := hD.sub (ws' := []) [] (by decide) rfl
        exact W.zret (v := 1) (ty := .boolean) hx hb hr rfl (fun t ht hW => ⟨⟨1, (), rfl, (show two (1 : Int32) (okP ka aa ba ca da ea) 1 0 from (Or.inl ⟨rfl, (okP_0 sv_1).mpr (by omega)⟩)), by rw [ht]; exact hP9, va_K.moved hW.alike hK, hD9⟩, hS.F ht⟩) hS.2.2 dX3_isAct_95
  · -- case 1
    refine lv_tableIn (tgt := 96) (off := 95) hx hb dX3_isAct_1 (by omega) (by omega) (by rw [sv_1]; rfl) (by decide) ?_
    refine lv_iload_n hx hb dX3_isAct_96 rfl (lv_at hl 1 rfl) ?_
    refine vp_callSi (va_runSN (As := [.int aa]) (rest := []) ⟨hx, hb, hml, hown, hts⟩ (s_X4_isVariable l aa) (⟨va_cnB 1 hts h_X3_isAct_X4_isVariable_23 rfl rfl rfl (hN.2.2.2.1) (hts (.initialized RX4) (List.mem_of_getElem? (i := 1) rfl)) (by decide +kernel) ⟨Nat.le_of_ble_eq_true rfl, Nat.le_of_ble_eq_true rfl⟩, hts (.static yX4_isVariable) (List.mem_of_getElem? (i := 2) rfl), trivial⟩) ⟨fun _ _ _ _ q => q, fun _ _ _ => ⟨rfl, trivial⟩⟩ rfl rfl hl.1 rfl (lv_room (Nat.le_of_ble_eq_true rfl)) dX3_isAct_97 ⟨Nat.le_of_ble_eq_true rfl, Nat.le_of_ble_eq_true rfl⟩).run (fun r_6 hw_6 => ?_)
    replace hw_6 : (two r_6 (V6 aa) 1 0) := hw_6
    have q_r_6 := hw_6
    refine lv_if_eq (tgt := 126) hx hb dX3_isAct_100 (by decide) (fun c_7 => ?_) (fun c_7 => ?_)
    · -- yes
      have k_7 : r_6.toInt = (0 : Int32).toInt := ci_eq c_7
      have kt_7 : ¬ (V6 aa) := two_z q_r_6 c_7
      refine lv_iconst (v := 0) hx hb dX3_isAct_126 (by decide) ?_
      have hP9 := hP.sub (ws' := []) [] rfl
      have hD9 := hD.sub (ws' := []) [] (by decide) rfl
      exact W.zret (v := 0) (ty := .boolean) hx hb hr rfl (fun t ht hW => ⟨⟨0, (), rfl, (show two (0 : Int32) (okP ka aa ba ca da ea) 1 0 from (Or.inr ⟨rfl, fun h9 => by have h8 := (okP_1 sv_1).mp h9; omega⟩)), by rw [ht]; exact hP9, va_K.moved hW.alike hK, hD9⟩, hS.F ht⟩) hS.2.2 dX3_isAct_127
    · -- no
      have k_7 : ¬ r_6.toInt = (0 : Int32).toInt := ci_ne c_7
      have kt_7 : V6 aa := two_nz q_r_6 c_7
      refine lv_iload_n hx hb dX3_isAct_103 rfl (lv_at hl 2 rfl) ?_
      refine vp_callSi (va_runSN (As := [.int ba]) (rest := []) ⟨hx, hb, hml, hown, hts⟩ (s_X4_isNumber l ba) (⟨va_cnB 1 hts h_X3_isAct_X4_isNumber_27 rfl rfl rfl (hN.2.2.2.2.1) (hts (.initialized RX4) (List.mem_of_getElem? (i := 1) rfl)) (by decide +kernel) ⟨Nat.le_of_ble_eq_true rfl, Nat.le_of_ble_eq_true rfl⟩, hts (.static yX4_isNumber) (List.mem_of_getElem? (i := 3) rfl), trivial⟩) ⟨fun _ _ _ _ q => q, fun _ _ _ => ⟨rfl, trivial⟩⟩ rfl rfl hl.1 rfl (lv_room (Nat.le_of_ble_eq_true rfl)) dX3_isAct_104 ⟨Nat.le_of_ble_eq_true rfl, Nat.le_of_ble_eq_true rfl⟩).run (fun r_8 hw_8 => ?_)
      replace hw_8 : (two r_8 (VN ba) 1 0) := hw_8
      have q_r_8 := hw_8
      refine lv_if_eq (tgt := 126) hx hb dX3_isAct_107 (by decide) (fun c_9 => ?_) (fun c_9 => ?_)
      · -- yes
        have k_9 : r_8.toInt = (0 : Int32).toInt := ci_eq c_9
        have kt_9 : ¬ (VN ba) := two_z q_r_8 c_9
        refine lv_iconst (v := 0) hx hb dX3_isAct_126 (by decide) ?_
        have hP9 := hP.sub (ws' := []) [] rfl
        have hD9 := hD.sub (ws' := []) [] (by decide) rfl
        exact W.zret (v := 0) (ty := .boolean) hx hb hr rfl (fun t ht hW => ⟨⟨0, (), rfl, (show two (0 : Int32) (okP ka aa ba ca da ea) 1 0 from (Or.inr ⟨rfl, fun h9 => by have h8 := (okP_1 sv_1).mp h9; omega⟩)), by rw [ht]; exact hP9, va_K.moved hW.alike hK, hD9⟩, hS.F ht⟩) hS.2.2 dX3_isAct_127
      · -- no
        have k_9 : ¬ r_8.toInt = (0 : Int32).toInt := ci_ne c_9
        have kt_9 : VN ba := two_nz q_r_8 c_9
        refine lv_iload_n hx hb dX3_isAct_110 rfl (lv_at hl 3 rfl) ?_
        refine vp_callSi (va_runSN (As := [.int ca]) (rest := []) ⟨hx, hb, hml, hown, hts⟩ (s_X4_isNumber l ca) (⟨va_cnB 1 hts h_X3_isAct_X4_isNumber_27 rfl rfl rfl (hN.2.2.2.2.1) (hts (.initialized RX4) (List.mem_of_getElem? (i := 1) rfl)) (by decide +kernel) ⟨Nat.le_of_ble_eq_true rfl, Nat.le_of_ble_eq_true rfl⟩, hts (.static yX4_isNumber) (List.mem_of_getElem? (i := 3) rfl), trivial⟩) ⟨fun _ _ _ _ q => q, fun _ _ _ => ⟨rfl, trivial⟩⟩ rfl rfl hl.1 rfl (lv_room (Nat.le_of_ble_eq_true rfl)) dX3_isAct_111 ⟨Nat.le_of_ble_eq_true rfl, Nat.le_of_ble_eq_true rfl⟩).run (fun r_10 hw_10 => ?_)
        replace hw_10 : (two r_10 (VN ca) 1 0) := hw_10
        have q_r_10 := hw_10
        refine lv_if_eq (tgt := 126) hx hb dX3_isAct_114 (by decide) (fun c_11 => ?_) (fun c_11 => ?_)
        · -- yes
          have k_11 : r_10.toInt = (0 : Int32).toInt := ci_eq c_11
          have kt_11 : ¬ (VN ca) := two_z q_r_10 c_11
          refine lv_iconst (v := 0) hx hb dX3_isAct_126 (by decide) ?_
          have hP9 := hP.sub (ws' := []) [] rfl
          have hD9 := hD.sub (ws' := []) [] (by decide) rfl
          exact W.zret (v := 0) (ty := .boolean) hx hb hr rfl (fun t ht hW => ⟨⟨0, (), rfl, (show two (0 : Int32) (okP ka aa ba ca da ea) 1 0 from (Or.inr ⟨rfl, fun h9 => by have h8 := (okP_1 sv_1).mp h9; omega⟩)), by rw [ht]; exact hP9, va_K.moved hW.alike hK, hD9⟩, hS.F ht⟩) hS.2.2 dX3_isAct_127
        · -- no
          have k_11 : ¬ r_10.toInt = (0 : Int32).toInt := ci_ne c_11
          have kt_11 : VN ca := two_nz q_r_10 c_11
          refine lv_iload_n hx hb dX3_isAct_117 rfl (lv_at hl 2 rfl) ?_
          refine lv_iload_n hx hb dX3_isAct_118 rfl (lv_at hl 3 rfl) ?_
          refine lv_icmp_gt (tgt := 126) hx hb dX3_isAct_119 (by decide) (fun c_12 => ?_) (fun c_12 => ?_)
          · -- yes
            have k_12 : ca.toInt < ba.toInt := ci_gt c_12
            refine lv_iconst (v := 0) hx hb dX3_isAct_126 (by decide) ?_
            have hP9 := hP.sub (ws' := []) [] rfl
            have hD9 := hD.sub (ws' := []) [] (by decide) rfl
            exact W.zret (v := 0) (ty := .boolean) hx hb hr rfl (fun t ht hW => ⟨⟨0, (), rfl, (show two (0 : Int32) (okP ka aa ba ca da ea) 1 0 from (Or.inr ⟨rfl, fun h9 => by have h8 := (okP_1 sv_1).mp h9; omega⟩)), by rw [ht]; exact hP9, va_K.moved hW.alike hK, hD9⟩, hS.F ht⟩) hS.2.2 dX3_isAct_127
          · -- no
            have k_12 : ba.toInt ≤ ca.toInt := ci_ngt c_12
            refine lv_iconst (v := 1) hx hb dX3_isAct_122 (by decide) ?_
            refine lv_goto (tgt := 127) hx hb dX3_isAct_123 (by decide) ?_
            have hP9 := hP.sub (ws' := []) [] rfl
            have hD9 := hD.sub (ws' := []) [] (by decide) rfl
            exact W.zret (v := 1) (ty := .boolean) hx hb hr rfl (fun t ht hW => ⟨⟨1, (), rfl, (show two (1 : Int32) (okP ka aa ba ca da ea) 1 0 from (Or.inl ⟨rfl, (okP_1 sv_1).mpr (by omega)⟩)), by rw [ht]; exact hP9, va_K.moved hW.alike hK, hD9⟩, hS.F ht⟩) hS.2.2 dX3_isAct_127
  · -- case 2
    refine lv_tableIn (tgt := 128) (off := 127) hx hb dX3_isAct_1 (by omega) (by omega) (by rw [sv_1]; rfl) (by decide) ?_
    refine lv_iload_n hx hb dX3_isAct_128 rfl (lv_at hl 1 rfl) ?_
    refine vp_callSi (va_runSN (As := [.int aa]) (rest := []) ⟨hx, hb, hml, hown, hts⟩ (s_X4_isVariable l aa) (⟨va_cnB 1 hts h_X3_isAct_X4_isVariable_23 rfl rfl rfl (hN.2.2.2.1) (hts (.initialized RX4) (List.mem_of_getElem? (i := 1) rfl)) (by decide +kernel) ⟨Nat.le_of_ble_eq_true rfl, Nat.le_of_ble_eq_true rfl⟩, hts (.static yX4_isVariable) (List.mem_of_getElem? (i := 2) rfl), trivial⟩) ⟨fun _ _ _ _ q => q, fun _ _ _ => ⟨rfl, trivial⟩⟩ rfl rfl hl.1 rfl (lv_room (Nat.le_of_ble_eq_true rfl)) dX3_isAct_129 ⟨Nat.le_of_ble_eq_true rfl, Nat.le_of_ble_eq_true rfl⟩).run (fun r_13 hw_13 => ?_)
    replace hw_13 : (two r_13 (V6 aa) 1 0) := hw_13
    have q_r_13 := hw_13
    refine lv_if_eq (tgt := 153) hx hb dX3_isAct_132 (by decide) (fun c_14 => ?_) (fun c_14 => ?_)
    · -- yes
      have k_14 : r_13.toInt = (0 : Int32).toInt := ci_eq c_14
      have kt_14 : ¬ (V6 aa) := two_z q_r_13 c_14
      refine lv_iconst (v := 0) hx hb dX3_isAct_153 (by decide) ?_
      have hP9 := hP.sub (ws' := []) [] rfl
      have hD9 := hD.sub (ws' := []) [] (by decide) rfl
      exact W.zret (v := 0) (ty := .boolean) hx hb hr rfl (fun t ht hW => ⟨⟨0, (), rfl, (show two (0 : Int32) (okP ka aa ba ca da ea) 1 0 from (Or.inr ⟨rfl, fun h9 => by have h8 := (okP_2 sv_1).mp h9; omega⟩)), by rw [ht]; exact hP9, va_K.moved hW.alike hK, hD9⟩, hS.F ht⟩) hS.2.2 dX3_isAct_154
    · -- no
      have k_14 : ¬ r_13.toInt = (0 : Int32).toInt := ci_ne c_14
      have kt_14 : V6 aa := two_nz q_r_13 c_14
      refine lv_iload_n hx hb dX3_isAct_135 rfl (lv_at hl 2 rfl) ?_
      refine vp_callSi (va_runSN (As := [.int ba]) (rest := []) ⟨hx, hb, hml, hown, hts⟩ (s_X4_isVariable l ba) (⟨va_cnB 1 hts h_X3_isAct_X4_isVariable_23 rfl rfl rfl (hN.2.2.2.1) (hts (.initialized RX4) (List.mem_of_getElem? (i := 1) rfl)) (by decide +kernel) ⟨Nat.le_of_ble_eq_true rfl, Nat.le_of_ble_eq_true rfl⟩, hts (.static yX4_isVariable) (List.mem_of_getElem? (i := 2) rfl), trivial⟩) ⟨fun _ _ _ _ q => q, fun _ _ _ => ⟨rfl, trivial⟩⟩ rfl rfl hl.1 rfl (lv_room (Nat.le_of_ble_eq_true rfl)) dX3_isAct_136 ⟨Nat.le_of_ble_eq_true rfl, Nat.le_of_ble_eq_true rfl⟩).run (fun r_15 hw_15 => ?_)
      replace hw_15 : (two r_15 (V6 ba) 1 0) := hw_15
      have q_r_15 := hw_15
      refine lv_if_eq (tgt := 153) hx hb dX3_isAct_139 (by decide) (fun c_16 => ?_) (fun c_16 => ?_)
      · -- yes
        have k_16 : r_15.toInt = (0 : Int32).toInt := ci_eq c_16
        have kt_16 : ¬ (V6 ba) := two_z q_r_15 c_16
        refine lv_iconst (v := 0) hx hb dX3_isAct_153 (by decide) ?_
        have hP9 := hP.sub (ws' := []) [] rfl
        have hD9 := hD.sub (ws' := []) [] (by decide) rfl
        exact W.zret (v := 0) (ty := .boolean) hx hb hr rfl (fun t ht hW => ⟨⟨0, (), rfl, (show two (0 : Int32) (okP ka aa ba ca da ea) 1 0 from (Or.inr ⟨rfl, fun h9 => by have h8 := (okP_2 sv_1).mp h9; omega⟩)), by rw [ht]; exact hP9, va_K.moved hW.alike hK, hD9⟩, hS.F ht⟩) hS.2.2 dX3_isAct_154
      · -- no
        have k_16 : ¬ r_15.toInt = (0 : Int32).toInt := ci_ne c_16
        have kt_16 : V6 ba := two_nz q_r_15 c_16
        refine lv_iload_n hx hb dX3_isAct_142 rfl (lv_at hl 3 rfl) ?_
        refine vp_callSi (va_runSN (As := [.int ca]) (rest := []) ⟨hx, hb, hml, hown, hts⟩ (s_X4_isVariable l ca) (⟨va_cnB 1 hts h_X3_isAct_X4_isVariable_23 rfl rfl rfl (hN.2.2.2.1) (hts (.initialized RX4) (List.mem_of_getElem? (i := 1) rfl)) (by decide +kernel) ⟨Nat.le_of_ble_eq_true rfl, Nat.le_of_ble_eq_true rfl⟩, hts (.static yX4_isVariable) (List.mem_of_getElem? (i := 2) rfl), trivial⟩) ⟨fun _ _ _ _ q => q, fun _ _ _ => ⟨rfl, trivial⟩⟩ rfl rfl hl.1 rfl (lv_room (Nat.le_of_ble_eq_true rfl)) dX3_isAct_143 ⟨Nat.le_of_ble_eq_true rfl, Nat.le_of_ble_eq_true rfl⟩).run (fun r_17 hw_17 => ?_)
        replace hw_17 : (two r_17 (V6 ca) 1 0) := hw_17
        have q_r_17 := hw_17
        refine lv_if_eq (tgt := 153) hx hb dX3_isAct_146 (by decide) (fun c_18 => ?_) (fun c_18 => ?_)
        · -- yes
          have k_18 : r_17.toInt = (0 : Int32).toInt := ci_eq c_18
          have kt_18 : ¬ (V6 ca) := two_z q_r_17 c_18
          refine lv_iconst (v := 0) hx hb dX3_isAct_153 (by decide) ?_
          have hP9 := hP.sub (ws' := []) [] rfl
          have hD9 := hD.sub (ws' := []) [] (by decide) rfl
          exact W.zret (v := 0) (ty := .boolean) hx hb hr rfl (fun t ht hW => ⟨⟨0, (), rfl, (show two (0 : Int32) (okP ka aa ba ca da ea) 1 0 from (Or.inr ⟨rfl, fun h9 => by have h8 := (okP_2 sv_1).mp h9; omega⟩)), by rw [ht]; exact hP9, va_K.moved hW.alike hK, hD9⟩, hS.F ht⟩) hS.2.2 dX3_isAct_154
        · -- no
          have k_18 : ¬ r_17.toInt = (0 : Int32).toInt := ci_ne c_18
          have kt_18 : V6 ca := two_nz q_r_17 c_18
          refine lv_iconst (v := 1) hx hb dX3_isAct_149 (by decide) ?_
          refine lv_goto (tgt := 154) hx hb dX3_isAct_150 (by decide) ?_
          have hP9 := hP.sub (ws' := []) [] rfl
          have hD9 := hD.sub (ws' := []) [] (by decide) rfl
          exact W.zret (v := 1) (ty := .boolean) hx hb hr rfl (fun t ht hW => ⟨⟨1, (), rfl, (show two (1 : Int32) (okP ka aa ba ca da ea) 1 0 from (Or.inl ⟨rfl, (okP_2 sv_1).mpr (by omega)⟩)), by rw [ht]; exact hP9, va_K.moved hW.alike hK, hD9⟩, hS.F ht⟩) hS.2.2 dX3_isAct_154
  · -- case 3
    refine lv_tableIn (tgt := 128) (off := 127) hx hb dX3_isAct_1 (by omega) (by omega) (by rw [sv_1]; rfl) (by decide) ?_
    refine lv_iload_n hx hb dX3_isAct_128 rfl (lv_at hl 1 rfl) ?_
    refine vp_callSi (va_runSN (As := [.int aa]) (rest := []) ⟨hx, hb, hml, hown, hts⟩ (s_X4_isVariable l aa) (⟨va_cnB 1 hts h_X3_isAct_X4_isVariable_23 rfl rfl rfl (hN.2.2.2.1) (hts (.initialized RX4) (List.mem_of_getElem? (i := 1) rfl)) (by decide +kernel) ⟨Nat.le_of_ble_eq_true rfl, Nat.le_of_ble_eq_true rfl⟩, hts (.static yX4_isVariable) (List.mem_of_getElem? (i := 2) rfl), trivial⟩) ⟨fun _ _ _ _ q => q, fun _ _ _ => ⟨rfl, trivial⟩⟩ rfl rfl hl.1 rfl (lv_room (Nat.le_of_ble_eq_true rfl)) dX3_isAct_129 ⟨Nat.le_of_ble_eq_true rfl, Nat.le_of_ble_eq_true rfl⟩).run (fun r_19 hw_19 => ?_)
    replace hw_19 : (two r_19 (V6 aa) 1 0) := hw_19
    have q_r_19 := hw_19
    refine lv_if_eq (tgt := 153) hx hb dX3_isAct_132 (by decide) (fun c_20 => ?_) (fun c_20 => ?_)
    · -- yes
      have k_20 : r_19.toInt = (0 : Int32).toInt := ci_eq c_20
      have kt_20 : ¬ (V6 aa) := two_z q_r_19 c_20
      refine lv_iconst (v := 0) hx hb dX3_isAct_153 (by decide) ?_
      have hP9 := hP.sub (ws' := []) [] rfl
      have hD9 := hD.sub (ws' := []) [] (by decide) rfl
      exact W.zret (v := 0) (ty := .boolean) hx hb hr rfl (fun t ht hW => ⟨⟨0, (), rfl, (show two (0 : Int32) (okP ka aa ba ca da ea) 1 0 from (Or.inr ⟨rfl, fun h9 => by have h8 := (okP_3 sv_1).mp h9; omega⟩)), by rw [ht]; exact hP9, va_K.moved hW.alike hK, hD9⟩, hS.F ht⟩) hS.2.2 dX3_isAct_154
    · -- no
      have k_20 : ¬ r_19.toInt = (0 : Int32).toInt := ci_ne c_20
      have kt_20 : V6 aa := two_nz q_r_19 c_20
      refine lv_iload_n hx hb dX3_isAct_135 rfl (lv_at hl 2 rfl) ?_
      refine vp_callSi (va_runSN (As := [.int ba]) (rest := []) ⟨hx, hb, hml, hown, hts⟩ (s_X4_isVariable l ba) (⟨va_cnB 1 hts h_X3_isAct_X4_isVariable_23 rfl rfl rfl (hN.2.2.2.1) (hts (.initialized RX4) (List.mem_of_getElem? (i := 1) rfl)) (by decide +kernel) ⟨Nat.le_of_ble_eq_true rfl, Nat.le_of_ble_eq_true rfl⟩, hts (.static yX4_isVariable) (List.mem_of_getElem? (i := 2) rfl), trivial⟩) ⟨fun _ _ _ _ q => q, fun _ _ _ => ⟨rfl, trivial⟩⟩ rfl rfl hl.1 rfl (lv_room (Nat.le_of_ble_eq_true rfl)) dX3_isAct_136 ⟨Nat.le_of_ble_eq_true rfl, Nat.le_of_ble_eq_true rfl⟩).run (fun r_21 hw_21 => ?_)
      replace hw_21 : (two r_21 (V6 ba) 1 0) := hw_21
      have q_r_21 := hw_21
      refine lv_if_eq (tgt := 153) hx hb dX3_isAct_139 (by decide) (fun c_22 => ?_) (fun c_22 => ?_)
      · -- yes
        have k_22 : r_21.toInt = (0 : Int32).toInt := ci_eq c_22
        have kt_22 : ¬ (V6 ba) := two_z q_r_21 c_22
        refine lv_iconst (v := 0) hx hb dX3_isAct_153 (by decide) ?_
        have hP9 := hP.sub (ws' := []) [] rfl
        have hD9 := hD.sub (ws' := []) [] (by decide) rfl
        exact W.zret (v := 0) (ty := .boolean) hx hb hr rfl (fun t ht hW => ⟨⟨0, (), rfl, (show two (0 : Int32) (okP ka aa ba ca da ea) 1 0 from (Or.inr ⟨rfl, fun h9 => by have h8 := (okP_3 sv_1).mp h9; omega⟩)), by rw [ht]; exact hP9, va_K.moved hW.alike hK, hD9⟩, hS.F ht⟩) hS.2.2 dX3_isAct_154
      · -- no
        have k_22 : ¬ r_21.toInt = (0 : Int32).toInt := ci_ne c_22
        have kt_22 : V6 ba := two_nz q_r_21 c_22
        refine lv_iload_n hx hb dX3_isAct_142 rfl (lv_at hl 3 rfl) ?_
        refine vp_callSi (va_runSN (As := [.int ca]) (rest := []) ⟨hx, hb, hml, hown, hts⟩ (s_X4_isVariable l ca) (⟨va_cnB 1 hts h_X3_isAct_X4_isVariable_23 rfl rfl rfl (hN.2.2.2.1) (hts (.initialized RX4) (List.mem_of_getElem? (i := 1) rfl)) (by decide +kernel) ⟨Nat.le_of_ble_eq_true rfl, Nat.le_of_ble_eq_true rfl⟩, hts (.static yX4_isVariable) (List.mem_of_getElem? (i := 2) rfl), trivial⟩) ⟨fun _ _ _ _ q => q, fun _ _ _ => ⟨rfl, trivial⟩⟩ rfl rfl hl.1 rfl (lv_room (Nat.le_of_ble_eq_true rfl)) dX3_isAct_143 ⟨Nat.le_of_ble_eq_true rfl, Nat.le_of_ble_eq_true rfl⟩).run (fun r_23 hw_23 => ?_)
        replace hw_23 : (two r_23 (V6 ca) 1 0) := hw_23
        have q_r_23 := hw_23
        refine lv_if_eq (tgt := 153) hx hb dX3_isAct_146 (by decide) (fun c_24 => ?_) (fun c_24 => ?_)
        · -- yes
          have k_24 : r_23.toInt = (0 : Int32).toInt := ci_eq c_24
          have kt_24 : ¬ (V6 ca) := two_z q_r_23 c_24
          refine lv_iconst (v := 0) hx hb dX3_isAct_153 (by decide) ?_
          have hP9 := hP.sub (ws' := []) [] rfl
          have hD9 := hD.sub (ws' := []) [] (by decide) rfl
          exact W.zret (v := 0) (ty := .boolean) hx hb hr rfl (fun t ht hW => ⟨⟨0, (), rfl, (show two (0 : Int32) (okP ka aa ba ca da ea) 1 0 from (Or.inr ⟨rfl, fun h9 => by have h8 := (okP_3 sv_1).mp h9; omega⟩)), by rw [ht]; exact hP9, va_K.moved hW.alike hK, hD9⟩, hS.F ht⟩) hS.2.2 dX3_isAct_154
        · -- no
          have k_24 : ¬ r_23.toInt = (0 : Int32).toInt := ci_ne c_24
          have kt_24 : V6 ca := two_nz q_r_23 c_24
          refine lv_iconst (v := 1) hx hb dX3_isAct_149 (by decide) ?_
          refine lv_goto (tgt := 154) hx hb dX3_isAct_150 (by decide) ?_
          have hP9 := hP.sub (ws' := []) [] rfl
          have hD9 := hD.sub (ws' := []) [] (by decide) rfl
          exact W.zret (v := 1) (ty := .boolean) hx hb hr rfl (fun t ht hW => ⟨⟨1, (), rfl, (show two (1 : Int32) (okP ka aa ba ca da ea) 1 0 from (Or.inl ⟨rfl, (okP_3 sv_1).mpr (by omega)⟩)), by rw [ht]; exact hP9, va_K.moved hW.alike hK, hD9⟩, hS.F ht⟩) hS.2.2 dX3_isAct_154
  · -- case 4
    refine lv_tableIn (tgt := 155) (off := 154) hx hb dX3_isAct_1 (by omega) (by omega) (by rw [sv_1]; rfl) (by decide) ?_
    refine lv_iload_n hx hb dX3_isAct_155 rfl (lv_at hl 1 rfl) ?_
    refine vp_callSi (va_runSN (As := [.int aa]) (rest := []) ⟨hx, hb, hml, hown, hts⟩ (s_X4_isReference l aa) (⟨va_cnB 1 hts h_X3_isAct_X4_isReference_30 rfl rfl rfl (hN.2.2.2.2.2.1) (hts (.initialized RX4) (List.mem_of_getElem? (i := 1) rfl)) (by decide +kernel) ⟨Nat.le_of_ble_eq_true rfl, Nat.le_of_ble_eq_true rfl⟩, hts (.static yX4_isReference) (List.mem_of_getElem? (i := 4) rfl), trivial⟩) ⟨fun _ _ _ _ q => q, fun _ _ _ => ⟨rfl, trivial⟩⟩ rfl rfl hl.1 rfl (lv_room (Nat.le_of_ble_eq_true rfl)) dX3_isAct_156 ⟨Nat.le_of_ble_eq_true rfl, Nat.le_of_ble_eq_true rfl⟩).run (fun r_25 hw_25 => ?_)
    replace hw_25 : (two r_25 (V6 aa) 1 0) := hw_25
    have q_r_25 := hw_25
    refine lv_if_eq (tgt := 180) hx hb dX3_isAct_159 (by decide) (fun c_26 => ?_) (fun c_26 => ?_)
    · -- yes
      have k_26 : r_25.toInt = (0 : Int32).toInt := ci_eq c_26
      have kt_26 : ¬ (V6 aa) := two_z q_r_25 c_26
      refine lv_iconst (v := 0) hx hb dX3_isAct_180 (by decide) ?_
      have hP9 := hP.sub (ws' := []) [] rfl
      have hD9 := hD.sub (ws' := []) [] (by decide) rfl
      exact W.zret (v := 0) (ty := .boolean) hx hb hr rfl (fun t ht hW => ⟨⟨0, (), rfl, (show two (0 : Int32) (okP ka aa ba ca da ea) 1 0 from (Or.inr ⟨rfl, fun h9 => by have h8 := (okP_4 sv_1).mp h9; omega⟩)), by rw [ht]; exact hP9, va_K.moved hW.alike hK, hD9⟩, hS.F ht⟩) hS.2.2 dX3_isAct_181
    · -- no
      have k_26 : ¬ r_25.toInt = (0 : Int32).toInt := ci_ne c_26
      have kt_26 : V6 aa := two_nz q_r_25 c_26
      refine lv_iload_n hx hb dX3_isAct_162 rfl (lv_at hl 2 rfl) ?_
      refine vp_callSi (va_runSN (As := [.int ba]) (rest := []) ⟨hx, hb, hml, hown, hts⟩ (s_X4_isLane l ba) (⟨va_cnB 1 hts h_X3_isAct_X4_isLane_33 rfl rfl rfl (hN.2.2.2.2.2.2.1) (hts (.initialized RX4) (List.mem_of_getElem? (i := 1) rfl)) (by decide +kernel) ⟨Nat.le_of_ble_eq_true rfl, Nat.le_of_ble_eq_true rfl⟩, hts (.static yX4_isLane) (List.mem_of_getElem? (i := 5) rfl), trivial⟩) ⟨fun _ _ _ _ q => q, fun _ _ _ => ⟨rfl, trivial⟩⟩ rfl rfl hl.1 rfl (lv_room (Nat.le_of_ble_eq_true rfl)) dX3_isAct_163 ⟨Nat.le_of_ble_eq_true rfl, Nat.le_of_ble_eq_true rfl⟩).run (fun r_27 hw_27 => ?_)
      replace hw_27 : (two r_27 (V3 ba) 1 0) := hw_27
      have q_r_27 := hw_27
      refine lv_if_eq (tgt := 180) hx hb dX3_isAct_166 (by decide) (fun c_28 => ?_) (fun c_28 => ?_)
      · -- yes
        have k_28 : r_27.toInt = (0 : Int32).toInt := ci_eq c_28
        have kt_28 : ¬ (V3 ba) := two_z q_r_27 c_28
        refine lv_iconst (v := 0) hx hb dX3_isAct_180 (by decide) ?_
        have hP9 := hP.sub (ws' := []) [] rfl
        have hD9 := hD.sub (ws' := []) [] (by decide) rfl
        exact W.zret (v := 0) (ty := .boolean) hx hb hr rfl (fun t ht hW => ⟨⟨0, (), rfl, (show two (0 : Int32) (okP ka aa ba ca da ea) 1 0 from (Or.inr ⟨rfl, fun h9 => by have h8 := (okP_4 sv_1).mp h9; omega⟩)), by rw [ht]; exact hP9, va_K.moved hW.alike hK, hD9⟩, hS.F ht⟩) hS.2.2 dX3_isAct_181
      · -- no
        have k_28 : ¬ r_27.toInt = (0 : Int32).toInt := ci_ne c_28
        have kt_28 : V3 ba := two_nz q_r_27 c_28
        refine lv_iload_n hx hb dX3_isAct_169 rfl (lv_at hl 3 rfl) ?_
        refine vp_callSi (va_runSN (As := [.int ca]) (rest := []) ⟨hx, hb, hml, hown, hts⟩ (s_X4_isVariable l ca) (⟨va_cnB 1 hts h_X3_isAct_X4_isVariable_23 rfl rfl rfl (hN.2.2.2.1) (hts (.initialized RX4) (List.mem_of_getElem? (i := 1) rfl)) (by decide +kernel) ⟨Nat.le_of_ble_eq_true rfl, Nat.le_of_ble_eq_true rfl⟩, hts (.static yX4_isVariable) (List.mem_of_getElem? (i := 2) rfl), trivial⟩) ⟨fun _ _ _ _ q => q, fun _ _ _ => ⟨rfl, trivial⟩⟩ rfl rfl hl.1 rfl (lv_room (Nat.le_of_ble_eq_true rfl)) dX3_isAct_170 ⟨Nat.le_of_ble_eq_true rfl, Nat.le_of_ble_eq_true rfl⟩).run (fun r_29 hw_29 => ?_)
        replace hw_29 : (two r_29 (V6 ca) 1 0) := hw_29
        have q_r_29 := hw_29
        refine lv_if_eq (tgt := 180) hx hb dX3_isAct_173 (by decide) (fun c_30 => ?_) (fun c_30 => ?_)
        · -- yes
          have k_30 : r_29.toInt = (0 : Int32).toInt := ci_eq c_30
          have kt_30 : ¬ (V6 ca) := two_z q_r_29 c_30
          refine lv_iconst (v := 0) hx hb dX3_isAct_180 (by decide) ?_
          have hP9 := hP.sub (ws' := []) [] rfl
          have hD9 := hD.sub (ws' := []) [] (by decide) rfl
          exact W.zret (v := 0) (ty := .boolean) hx hb hr rfl (fun t ht hW => ⟨⟨0, (), rfl, (show two (0 : Int32) (okP ka aa ba ca da ea) 1 0 from (Or.inr ⟨rfl, fun h9 => by have h8 := (okP_4 sv_1).mp h9; omega⟩)), by rw [ht]; exact hP9, va_K.moved hW.alike hK, hD9⟩, hS.F ht⟩) hS.2.2 dX3_isAct_181
        · -- no
          have k_30 : ¬ r_29.toInt = (0 : Int32).toInt := ci_ne c_30
          have kt_30 : V6 ca := two_nz q_r_29 c_30
          refine lv_iconst (v := 1) hx hb dX3_isAct_176 (by decide) ?_
          refine lv_goto (tgt := 181) hx hb dX3_isAct_177 (by decide) ?_
          have hP9 := hP.sub (ws' := []) [] rfl
          have hD9 := hD.sub (ws' := []) [] (by decide) rfl
          exact W.zret (v := 1) (ty := .boolean) hx hb hr rfl (fun t ht hW => ⟨⟨1, (), rfl, (show two (1 : Int32) (okP ka aa ba ca da ea) 1 0 from (Or.inl ⟨rfl, (okP_4 sv_1).mpr (by omega)⟩)), by rw [ht]; exact hP9, va_K.moved hW.alike hK, hD9⟩, hS.F ht⟩) hS.2.2 dX3_isAct_181
  · -- case 5
    refine lv_tableIn (tgt := 182) (off := 181) hx hb dX3_isAct_1 (by omega) (by omega) (by rw [sv_1]; rfl) (by decide) ?_
    refine lv_iload_n hx hb dX3_isAct_182 rfl (lv_at hl 1 rfl) ?_
    refine vp_callSi (va_runSN (As := [.int aa]) (rest := []) ⟨hx, hb, hml, hown, hts⟩ (s_X4_isReference l aa) (⟨va_cnB 1 hts h_X3_isAct_X4_isReference_30 rfl rfl rfl (hN.2.2.2.2.2.1) (hts (.initialized RX4) (List.mem_of_getElem? (i := 1) rfl)) (by decide +kernel) ⟨Nat.le_of_ble_eq_true rfl, Nat.le_of_ble_eq_true rfl⟩, hts (.static yX4_isReference) (List.mem_of_getElem? (i := 4) rfl), trivial⟩) ⟨fun _ _ _ _ q => q, fun _ _ _ => ⟨rfl, trivial⟩⟩ rfl rfl hl.1 rfl (lv_room (Nat.le_of_ble_eq_true rfl)) dX3_isAct_183 ⟨Nat.le_of_ble_eq_true rfl, Nat.le_of_ble_eq_true rfl⟩).run (fun r_31 hw_31 => ?_)
    replace hw_31 : (two r_31 (V6 aa) 1 0) := hw_31
    have q_r_31 := hw_31
    rcases q_r_31 with ⟨rfl, k_32⟩ | ⟨rfl, k_32⟩
    · -- answer 1
      have hP9 := hP.sub (ws' := []) [] rfl
      have hD9 := hD.sub (ws' := []) [] (by decide) rfl
      exact W.zret (v := 1) (ty := .boolean) hx hb hr rfl (fun t ht hW => ⟨⟨1, (), rfl, (show two (1 : Int32) (okP ka aa ba ca da ea) 1 0 from (Or.inl ⟨rfl, (okP_5 sv_1).mpr (by omega)⟩)), by rw [ht]; exact hP9, va_K.moved hW.alike hK, hD9⟩, hS.F ht⟩) hS.2.2 dX3_isAct_186
    · -- answer 0
      have hP9 := hP.sub (ws' := []) [] rfl
      have hD9 := hD.sub (ws' := []) [] (by decide) rfl
      exact W.zret (v := 0) (ty := .boolean) hx hb hr rfl (fun t ht hW => ⟨⟨0, (), rfl, (show two (0 : Int32) (okP ka aa ba ca da ea) 1 0 from (Or.inr ⟨rfl, fun h9 => by have h8 := (okP_5 sv_1).mp h9; omega⟩)), by rw [ht]; exact hP9, va_K.moved hW.alike hK, hD9⟩, hS.F ht⟩) hS.2.2 dX3_isAct_186
  · -- case 6
    refine lv_tableIn (tgt := 187) (off := 186) hx hb dX3_isAct_1 (by omega) (by omega) (by rw [sv_1]; rfl) (by decide) ?_
    refine lv_iload_n hx hb dX3_isAct_187 rfl (lv_at hl 1 rfl) ?_
    refine vp_callSi (va_runSN (As := [.int aa]) (rest := []) ⟨hx, hb, hml, hown, hts⟩ (s_X4_isReference l aa) (⟨va_cnB 1 hts h_X3_isAct_X4_isReference_30 rfl rfl rfl (hN.2.2.2.2.2.1) (hts (.initialized RX4) (List.mem_of_getElem? (i := 1) rfl)) (by decide +kernel) ⟨Nat.le_of_ble_eq_true rfl, Nat.le_of_ble_eq_true rfl⟩, hts (.static yX4_isReference) (List.mem_of_getElem? (i := 4) rfl), trivial⟩) ⟨fun _ _ _ _ q => q, fun _ _ _ => ⟨rfl, trivial⟩⟩ rfl rfl hl.1 rfl (lv_room (Nat.le_of_ble_eq_true rfl)) dX3_isAct_188 ⟨Nat.le_of_ble_eq_true rfl, Nat.le_of_ble_eq_true rfl⟩).run (fun r_33 hw_33 => ?_)
    replace hw_33 : (two r_33 (V6 aa) 1 0) := hw_33
    have q_r_33 := hw_33
    refine lv_if_eq (tgt := 205) hx hb dX3_isAct_191 (by decide) (fun c_34 => ?_) (fun c_34 => ?_)
    · -- yes
      have k_34 : r_33.toInt = (0 : Int32).toInt := ci_eq c_34
      have kt_34 : ¬ (V6 aa) := two_z q_r_33 c_34
      refine lv_iconst (v := 0) hx hb dX3_isAct_205 (by decide) ?_
      have hP9 := hP.sub (ws' := []) [] rfl
      have hD9 := hD.sub (ws' := []) [] (by decide) rfl
      exact W.zret (v := 0) (ty := .boolean) hx hb hr rfl (fun t ht hW => ⟨⟨0, (), rfl, (show two (0 : Int32) (okP ka aa ba ca da ea) 1 0 from (Or.inr ⟨rfl, fun h9 => by have h8 := (okP_6 sv_1).mp h9; omega⟩)), by rw [ht]; exact hP9, va_K.moved hW.alike hK, hD9⟩, hS.F ht⟩) hS.2.2 dX3_isAct_206
    · -- no
      have k_34 : ¬ r_33.toInt = (0 : Int32).toInt := ci_ne c_34
      have kt_34 : V6 aa := two_nz q_r_33 c_34
      refine lv_iload_n hx hb dX3_isAct_194 rfl (lv_at hl 2 rfl) ?_
      refine vp_callSi (va_runSN (As := [.int ba]) (rest := []) ⟨hx, hb, hml, hown, hts⟩ (s_X4_isReference l ba) (⟨va_cnB 1 hts h_X3_isAct_X4_isReference_30 rfl rfl rfl (hN.2.2.2.2.2.1) (hts (.initialized RX4) (List.mem_of_getElem? (i := 1) rfl)) (by decide +kernel) ⟨Nat.le_of_ble_eq_true rfl, Nat.le_of_ble_eq_true rfl⟩, hts (.static yX4_isReference) (List.mem_of_getElem? (i := 4) rfl), trivial⟩) ⟨fun _ _ _ _ q => q, fun _ _ _ => ⟨rfl, trivial⟩⟩ rfl rfl hl.1 rfl (lv_room (Nat.le_of_ble_eq_true rfl)) dX3_isAct_195 ⟨Nat.le_of_ble_eq_true rfl, Nat.le_of_ble_eq_true rfl⟩).run (fun r_35 hw_35 => ?_)
      replace hw_35 : (two r_35 (V6 ba) 1 0) := hw_35
      have q_r_35 := hw_35
      refine lv_if_eq (tgt := 205) hx hb dX3_isAct_198 (by decide) (fun c_36 => ?_) (fun c_36 => ?_)
      · -- yes
        have k_36 : r_35.toInt = (0 : Int32).toInt := ci_eq c_36
        have kt_36 : ¬ (V6 ba) := two_z q_r_35 c_36
        refine lv_iconst (v := 0) hx hb dX3_isAct_205 (by decide) ?_
        have hP9 := hP.sub (ws' := []) [] rfl
        have hD9 := hD.sub (ws' := []) [] (by decide) rfl
        exact W.zret (v := 0) (ty := .boolean) hx hb hr rfl (fun t ht hW => ⟨⟨0, (), rfl, (show two (0 : Int32) (okP ka aa ba ca da ea) 1 0 from (Or.inr ⟨rfl, fun h9 => by have h8 := (okP_6 sv_1).mp h9; omega⟩)), by rw [ht]; exact hP9, va_K.moved hW.alike hK, hD9⟩, hS.F ht⟩) hS.2.2 dX3_isAct_206
      · -- no
        have k_36 : ¬ r_35.toInt = (0 : Int32).toInt := ci_ne c_36
        have kt_36 : V6 ba := two_nz q_r_35 c_36
        refine lv_iconst (v := 1) hx hb dX3_isAct_201 (by decide) ?_
        refine lv_goto (tgt := 206) hx hb dX3_isAct_202 (by decide) ?_
        have hP9 := hP.sub (ws' := []) [] rfl
        have hD9 := hD.sub (ws' := []) [] (by decide) rfl
        exact W.zret (v := 1) (ty := .boolean) hx hb hr rfl (fun t ht hW => ⟨⟨1, (), rfl, (show two (1 : Int32) (okP ka aa ba ca da ea) 1 0 from (Or.inl ⟨rfl, (okP_6 sv_1).mpr (by omega)⟩)), by rw [ht]; exact hP9, va_K.moved hW.alike hK, hD9⟩, hS.F ht⟩) hS.2.2 dX3_isAct_206
  · -- case 7
    refine lv_tableIn (tgt := 207) (off := 206) hx hb dX3_isAct_1 (by omega) (by omega) (by rw [sv_1]; rfl) (by decide) ?_
    refine lv_iload_n hx hb dX3_isAct_207 rfl (lv_at hl 1 rfl) ?_
    refine vp_callSi (va_runSN (As := [.int aa]) (rest := []) ⟨hx, hb, hml, hown, hts⟩ (s_X4_isReference l aa) (⟨va_cnB 1 hts h_X3_isAct_X4_isReference_30 rfl rfl rfl (hN.2.2.2.2.2.1) (hts (.initialized RX4) (List.mem_of_getElem? (i := 1) rfl)) (by decide +kernel) ⟨Nat.le_of_ble_eq_true rfl, Nat.le_of_ble_eq_true rfl⟩, hts (.static yX4_isReference) (List.mem_of_getElem? (i := 4) rfl), trivial⟩) ⟨fun _ _ _ _ q => q, fun _ _ _ => ⟨rfl, trivial⟩⟩ rfl rfl hl.1 rfl (lv_room (Nat.le_of_ble_eq_true rfl)) dX3_isAct_208 ⟨Nat.le_of_ble_eq_true rfl, Nat.le_of_ble_eq_true rfl⟩).run (fun r_37 hw_37 => ?_)
    replace hw_37 : (two r_37 (V6 aa) 1 0) := hw_37
    have q_r_37 := hw_37
    refine lv_if_eq (tgt := 232) hx hb dX3_isAct_211 (by decide) (fun c_38 => ?_) (fun c_38 => ?_)
    · -- yes
      have k_38 : r_37.toInt = (0 : Int32).toInt := ci_eq c_38
      have kt_38 : ¬ (V6 aa) := two_z q_r_37 c_38
      refine lv_iconst (v := 0) hx hb dX3_isAct_232 (by decide) ?_
      have hP9 := hP.sub (ws' := []) [] rfl
      have hD9 := hD.sub (ws' := []) [] (by decide) rfl
      exact W.zret (v := 0) (ty := .boolean) hx hb hr rfl (fun t ht hW => ⟨⟨0, (), rfl, (show two (0 : Int32) (okP ka aa ba ca da ea) 1 0 from (Or.inr ⟨rfl, fun h9 => by have h8 := (okP_7 sv_1).mp h9; omega⟩)), by rw [ht]; exact hP9, va_K.moved hW.alike hK, hD9⟩, hS.F ht⟩) hS.2.2 dX3_isAct_233
    · -- no
      have k_38 : ¬ r_37.toInt = (0 : Int32).toInt := ci_ne c_38
      have kt_38 : V6 aa := two_nz q_r_37 c_38
      refine lv_iload_n hx hb dX3_isAct_214 rfl (lv_at hl 2 rfl) ?_
      refine vp_callSi (va_runSN (As := [.int ba]) (rest := []) ⟨hx, hb, hml, hown, hts⟩ (s_X4_isReference l ba) (⟨va_cnB 1 hts h_X3_isAct_X4_isReference_30 rfl rfl rfl (hN.2.2.2.2.2.1) (hts (.initialized RX4) (List.mem_of_getElem? (i := 1) rfl)) (by decide +kernel) ⟨Nat.le_of_ble_eq_true rfl, Nat.le_of_ble_eq_true rfl⟩, hts (.static yX4_isReference) (List.mem_of_getElem? (i := 4) rfl), trivial⟩) ⟨fun _ _ _ _ q => q, fun _ _ _ => ⟨rfl, trivial⟩⟩ rfl rfl hl.1 rfl (lv_room (Nat.le_of_ble_eq_true rfl)) dX3_isAct_215 ⟨Nat.le_of_ble_eq_true rfl, Nat.le_of_ble_eq_true rfl⟩).run (fun r_39 hw_39 => ?_)
      replace hw_39 : (two r_39 (V6 ba) 1 0) := hw_39
      have q_r_39 := hw_39
      refine lv_if_eq (tgt := 232) hx hb dX3_isAct_218 (by decide) (fun c_40 => ?_) (fun c_40 => ?_)
      · -- yes
        have k_40 : r_39.toInt = (0 : Int32).toInt := ci_eq c_40
        have kt_40 : ¬ (V6 ba) := two_z q_r_39 c_40
        refine lv_iconst (v := 0) hx hb dX3_isAct_232 (by decide) ?_
        have hP9 := hP.sub (ws' := []) [] rfl
        have hD9 := hD.sub (ws' := []) [] (by decide) rfl
        exact W.zret (v := 0) (ty := .boolean) hx hb hr rfl (fun t ht hW => ⟨⟨0, (), rfl, (show two (0 : Int32) (okP ka aa ba ca da ea) 1 0 from (Or.inr ⟨rfl, fun h9 => by have h8 := (okP_7 sv_1).mp h9; omega⟩)), by rw [ht]; exact hP9, va_K.moved hW.alike hK, hD9⟩, hS.F ht⟩) hS.2.2 dX3_isAct_233
      · -- no
        have k_40 : ¬ r_39.toInt = (0 : Int32).toInt := ci_ne c_40
        have kt_40 : V6 ba := two_nz q_r_39 c_40
        refine lv_iload_n hx hb dX3_isAct_221 rfl (lv_at hl 3 rfl) ?_
        refine vp_callSi (va_runSN (As := [.int ca]) (rest := []) ⟨hx, hb, hml, hown, hts⟩ (s_X4_isReference l ca) (⟨va_cnB 1 hts h_X3_isAct_X4_isReference_30 rfl rfl rfl (hN.2.2.2.2.2.1) (hts (.initialized RX4) (List.mem_of_getElem? (i := 1) rfl)) (by decide +kernel) ⟨Nat.le_of_ble_eq_true rfl, Nat.le_of_ble_eq_true rfl⟩, hts (.static yX4_isReference) (List.mem_of_getElem? (i := 4) rfl), trivial⟩) ⟨fun _ _ _ _ q => q, fun _ _ _ => ⟨rfl, trivial⟩⟩ rfl rfl hl.1 rfl (lv_room (Nat.le_of_ble_eq_true rfl)) dX3_isAct_222 ⟨Nat.le_of_ble_eq_true rfl, Nat.le_of_ble_eq_true rfl⟩).run (fun r_41 hw_41 => ?_)
        replace hw_41 : (two r_41 (V6 ca) 1 0) := hw_41
        have q_r_41 := hw_41
        refine lv_if_eq (tgt := 232) hx hb dX3_isAct_225 (by decide) (fun c_42 => ?_) (fun c_42 => ?_)
        · -- yes
          have k_42 : r_41.toInt = (0 : Int32).toInt := ci_eq c_42
          have kt_42 : ¬ (V6 ca) := two_z q_r_41 c_42
          refine lv_iconst (v := 0) hx hb dX3_isAct_232 (by decide) ?_
          have hP9 := hP.sub (ws' := []) [] rfl
          have hD9 := hD.sub (ws' := []) [] (by decide) rfl
          exact W.zret (v := 0) (ty := .boolean) hx hb hr rfl (fun t ht hW => ⟨⟨0, (), rfl, (show two (0 : Int32) (okP ka aa ba ca da ea) 1 0 from (Or.inr ⟨rfl, fun h9 => by have h8 := (okP_7 sv_1).mp h9; omega⟩)), by rw [ht]; exact hP9, va_K.moved hW.alike hK, hD9⟩, hS.F ht⟩) hS.2.2 dX3_isAct_233
        · -- no
          have k_42 : ¬ r_41.toInt = (0 : Int32).toInt := ci_ne c_42
          have kt_42 : V6 ca := two_nz q_r_41 c_42
          refine lv_iconst (v := 1) hx hb dX3_isAct_228 (by decide) ?_
          refine lv_goto (tgt := 233) hx hb dX3_isAct_229 (by decide) ?_
          have hP9 := hP.sub (ws' := []) [] rfl
          have hD9 := hD.sub (ws' := []) [] (by decide) rfl
          exact W.zret (v := 1) (ty := .boolean) hx hb hr rfl (fun t ht hW => ⟨⟨1, (), rfl, (show two (1 : Int32) (okP ka aa ba ca da ea) 1 0 from (Or.inl ⟨rfl, (okP_7 sv_1).mpr (by omega)⟩)), by rw [ht]; exact hP9, va_K.moved hW.alike hK, hD9⟩, hS.F ht⟩) hS.2.2 dX3_isAct_233
  · -- case 8
    refine lv_tableIn (tgt := 187) (off := 186) hx hb dX3_isAct_1 (by omega) (by omega) (by rw [sv_1]; rfl) (by decide) ?_
    refine lv_iload_n hx hb dX3_isAct_187 rfl (lv_at hl 1 rfl) ?_
    refine vp_callSi (va_runSN (As := [.int aa]) (rest := []) ⟨hx, hb, hml, hown, hts⟩ (s_X4_isReference l aa) (⟨va_cnB 1 hts h_X3_isAct_X4_isReference_30 rfl rfl rfl (hN.2.2.2.2.2.1) (hts (.initialized RX4) (List.mem_of_getElem? (i := 1) rfl)) (by decide +kernel) ⟨Nat.le_of_ble_eq_true rfl, Nat.le_of_ble_eq_true rfl⟩, hts (.static yX4_isReference) (List.mem_of_getElem? (i := 4) rfl), trivial⟩) ⟨fun _ _ _ _ q => q, fun _ _ _ => ⟨rfl, trivial⟩⟩ rfl rfl hl.1 rfl (lv_room (Nat.le_of_ble_eq_true rfl)) dX3_isAct_188 ⟨Nat.le_of_ble_eq_true rfl, Nat.le_of_ble_eq_true rfl⟩).run (fun r_43 hw_43 => ?_)
    replace hw_43 : (two r_43 (V6 aa) 1 0) := hw_43
    have q_r_43 := hw_43
    refine lv_if_eq (tgt := 205) hx hb dX3_isAct_191 (by decide) (fun c_44 => ?_) (fun c_44 => ?_)
    · -- yes
      have k_44 : r_43.toInt = (0 : Int32).toInt := ci_eq c_44
      have kt_44 : ¬ (V6 aa) := two_z q_r_43 c_44
      refine lv_iconst (v := 0) hx hb dX3_isAct_205 (by decide) ?_
      have hP9 := hP.sub (ws' := []) [] rfl
      have hD9 := hD.sub (ws' := []) [] (by decide) rfl
      exact W.zret (v := 0) (ty := .boolean) hx hb hr rfl (fun t ht hW => ⟨⟨0, (), rfl, (show two (0 : Int32) (okP ka aa ba ca da ea) 1 0 from (Or.inr ⟨rfl, fun h9 => by have h8 := (okP_8 sv_1).mp h9; omega⟩)), by rw [ht]; exact hP9, va_K.moved hW.alike hK, hD9⟩, hS.F ht⟩) hS.2.2 dX3_isAct_206
    · -- no
      have k_44 : ¬ r_43.toInt = (0 : Int32).toInt := ci_ne c_44
      have kt_44 : V6 aa := two_nz q_r_43 c_44
      refine lv_iload_n hx hb dX3_isAct_194 rfl (lv_at hl 2 rfl) ?_
      refine vp_callSi (va_runSN (As := [.int ba]) (rest := []) ⟨hx, hb, hml, hown, hts⟩ (s_X4_isReference l ba) (⟨va_cnB 1 hts h_X3_isAct_X4_isReference_30 rfl rfl rfl (hN.2.2.2.2.2.1) (hts (.initialized RX4) (List.mem_of_getElem? (i := 1) rfl)) (by decide +kernel) ⟨Nat.le_of_ble_eq_true rfl, Nat.le_of_ble_eq_true rfl⟩, hts (.static yX4_isReference) (List.mem_of_getElem? (i := 4) rfl), trivial⟩) ⟨fun _ _ _ _ q => q, fun _ _ _ => ⟨rfl, trivial⟩⟩ rfl rfl hl.1 rfl (lv_room (Nat.le_of_ble_eq_true rfl)) dX3_isAct_195 ⟨Nat.le_of_ble_eq_true rfl, Nat.le_of_ble_eq_true rfl⟩).run (fun r_45 hw_45 => ?_)
      replace hw_45 : (two r_45 (V6 ba) 1 0) := hw_45
      have q_r_45 := hw_45
      refine lv_if_eq (tgt := 205) hx hb dX3_isAct_198 (by decide) (fun c_46 => ?_) (fun c_46 => ?_)
      · -- yes
        have k_46 : r_45.toInt = (0 : Int32).toInt := ci_eq c_46
        have kt_46 : ¬ (V6 ba) := two_z q_r_45 c_46
        refine lv_iconst (v := 0) hx hb dX3_isAct_205 (by decide) ?_
        have hP9 := hP.sub (ws' := []) [] rfl
        have hD9 := hD.sub (ws' := []) [] (by decide) rfl
        exact W.zret (v := 0) (ty := .boolean) hx hb hr rfl (fun t ht hW => ⟨⟨0, (), rfl, (show two (0 : Int32) (okP ka aa ba ca da ea) 1 0 from (Or.inr ⟨rfl, fun h9 => by have h8 := (okP_8 sv_1).mp h9; omega⟩)), by rw [ht]; exact hP9, va_K.moved hW.alike hK, hD9⟩, hS.F ht⟩) hS.2.2 dX3_isAct_206
      · -- no
        have k_46 : ¬ r_45.toInt = (0 : Int32).toInt := ci_ne c_46
        have kt_46 : V6 ba := two_nz q_r_45 c_46
        refine lv_iconst (v := 1) hx hb dX3_isAct_201 (by decide) ?_
        refine lv_goto (tgt := 206) hx hb dX3_isAct_202 (by decide) ?_
        have hP9 := hP.sub (ws' := []) [] rfl
        have hD9 := hD.sub (ws' := []) [] (by decide) rfl
        exact W.zret (v := 1) (ty := .boolean) hx hb hr rfl (fun t ht hW => ⟨⟨1, (), rfl, (show two (1 : Int32) (okP ka aa ba ca da ea) 1 0 from (Or.inl ⟨rfl, (okP_8 sv_1).mpr (by omega)⟩)), by rw [ht]; exact hP9, va_K.moved hW.alike hK, hD9⟩, hS.F ht⟩) hS.2.2 dX3_isAct_206
  · -- case 9
    refine lv_tableIn (tgt := 234) (off := 233) hx hb dX3_isAct_1 (by omega) (by omega) (by rw [sv_1]; rfl) (by decide) ?_
    refine lv_iload_n hx hb dX3_isAct_234 rfl (lv_at hl 1 rfl) ?_
    refine vp_callSi (va_runSN (As := [.int aa]) (rest := []) ⟨hx, hb, hml, hown, hts⟩ (s_X4_isReference l aa) (⟨va_cnB 1 hts h_X3_isAct_X4_isReference_30 rfl rfl rfl (hN.2.2.2.2.2.1) (hts (.initialized RX4) (List.mem_of_getElem? (i := 1) rfl)) (by decide +kernel) ⟨Nat.le_of_ble_eq_true rfl, Nat.le_of_ble_eq_true rfl⟩, hts (.static yX4_isReference) (List.mem_of_getElem? (i := 4) rfl), trivial⟩) ⟨fun _ _ _ _ q => q, fun _ _ _ => ⟨rfl, trivial⟩⟩ rfl rfl hl.1 rfl (lv_room (Nat.le_of_ble_eq_true rfl)) dX3_isAct_235 ⟨Nat.le_of_ble_eq_true rfl, Nat.le_of_ble_eq_true rfl⟩).run (fun r_47 hw_47 => ?_)
    replace hw_47 : (two r_47 (V6 aa) 1 0) := hw_47
    have q_r_47 := hw_47
    refine lv_if_eq (tgt := 267) hx hb dX3_isAct_238 (by decide) (fun c_48 => ?_) (fun c_48 => ?_)
    · -- yes
      have k_48 : r_47.toInt = (0 : Int32).toInt := ci_eq c_48
      have kt_48 : ¬ (V6 aa) := two_z q_r_47 c_48
      refine lv_iconst (v := 0) hx hb dX3_isAct_267 (by decide) ?_
      have hP9 := hP.sub (ws' := []) [] rfl
      have hD9 := hD.sub (ws' := []) [] (by decide) rfl
      exact W.zret (v := 0) (ty := .boolean) hx hb hr rfl (fun t ht hW => ⟨⟨0, (), rfl, (show two (0 : Int32) (okP ka aa ba ca da ea) 1 0 from (Or.inr ⟨rfl, fun h9 => by have h8 := (okP_9 sv_1).mp h9; omega⟩)), by rw [ht]; exact hP9, va_K.moved hW.alike hK, hD9⟩, hS.F ht⟩) hS.2.2 dX3_isAct_268
    · -- no
      have k_48 : ¬ r_47.toInt = (0 : Int32).toInt := ci_ne c_48
      have kt_48 : V6 aa := two_nz q_r_47 c_48
      refine lv_iload_n hx hb dX3_isAct_241 rfl (lv_at hl 2 rfl) ?_
      refine vp_callSi (va_runSN (As := [.int ba]) (rest := []) ⟨hx, hb, hml, hown, hts⟩ (s_X4_isLane l ba) (⟨va_cnB 1 hts h_X3_isAct_X4_isLane_33 rfl rfl rfl (hN.2.2.2.2.2.2.1) (hts (.initialized RX4) (List.mem_of_getElem? (i := 1) rfl)) (by decide +kernel) ⟨Nat.le_of_ble_eq_true rfl, Nat.le_of_ble_eq_true rfl⟩, hts (.static yX4_isLane) (List.mem_of_getElem? (i := 5) rfl), trivial⟩) ⟨fun _ _ _ _ q => q, fun _ _ _ => ⟨rfl, trivial⟩⟩ rfl rfl hl.1 rfl (lv_room (Nat.le_of_ble_eq_true rfl)) dX3_isAct_242 ⟨Nat.le_of_ble_eq_true rfl, Nat.le_of_ble_eq_true rfl⟩).run (fun r_49 hw_49 => ?_)
      replace hw_49 : (two r_49 (V3 ba) 1 0) := hw_49
      have q_r_49 := hw_49
      refine lv_if_eq (tgt := 267) hx hb dX3_isAct_245 (by decide) (fun c_50 => ?_) (fun c_50 => ?_)
      · -- yes
        have k_50 : r_49.toInt = (0 : Int32).toInt := ci_eq c_50
        have kt_50 : ¬ (V3 ba) := two_z q_r_49 c_50
        refine lv_iconst (v := 0) hx hb dX3_isAct_267 (by decide) ?_
        have hP9 := hP.sub (ws' := []) [] rfl
        have hD9 := hD.sub (ws' := []) [] (by decide) rfl
        exact W.zret (v := 0) (ty := .boolean) hx hb hr rfl (fun t ht hW => ⟨⟨0, (), rfl, (show two (0 : Int32) (okP ka aa ba ca da ea) 1 0 from (Or.inr ⟨rfl, fun h9 => by have h8 := (okP_9 sv_1).mp h9; omega⟩)), by rw [ht]; exact hP9, va_K.moved hW.alike hK, hD9⟩, hS.F ht⟩) hS.2.2 dX3_isAct_268
      · -- no
        have k_50 : ¬ r_49.toInt = (0 : Int32).toInt := ci_ne c_50
        have kt_50 : V3 ba := two_nz q_r_49 c_50
        refine lv_iload_n hx hb dX3_isAct_248 rfl (lv_at hl 3 rfl) ?_
        refine vp_callSi (va_runSN (As := [.int ca]) (rest := []) ⟨hx, hb, hml, hown, hts⟩ (s_X4_isVariable l ca) (⟨va_cnB 1 hts h_X3_isAct_X4_isVariable_23 rfl rfl rfl (hN.2.2.2.1) (hts (.initialized RX4) (List.mem_of_getElem? (i := 1) rfl)) (by decide +kernel) ⟨Nat.le_of_ble_eq_true rfl, Nat.le_of_ble_eq_true rfl⟩, hts (.static yX4_isVariable) (List.mem_of_getElem? (i := 2) rfl), trivial⟩) ⟨fun _ _ _ _ q => q, fun _ _ _ => ⟨rfl, trivial⟩⟩ rfl rfl hl.1 rfl (lv_room (Nat.le_of_ble_eq_true rfl)) dX3_isAct_249 ⟨Nat.le_of_ble_eq_true rfl, Nat.le_of_ble_eq_true rfl⟩).run (fun r_51 hw_51 => ?_)
        replace hw_51 : (two r_51 (V6 ca) 1 0) := hw_51
        have q_r_51 := hw_51
        refine lv_if_eq (tgt := 267) hx hb dX3_isAct_252 (by decide) (fun c_52 => ?_) (fun c_52 => ?_)
        · -- yes
          have k_52 : r_51.toInt = (0 : Int32).toInt := ci_eq c_52
          have kt_52 : ¬ (V6 ca) := two_z q_r_51 c_52
          refine lv_iconst (v := 0) hx hb dX3_isAct_267 (by decide) ?_
          have hP9 := hP.sub (ws' := []) [] rfl
          have hD9 := hD.sub (ws' := []) [] (by decide) rfl
          exact W.zret (v := 0) (ty := .boolean) hx hb hr rfl (fun t ht hW => ⟨⟨0, (), rfl, (show two (0 : Int32) (okP ka aa ba ca da ea) 1 0 from (Or.inr ⟨rfl, fun h9 => by have h8 := (okP_9 sv_1).mp h9; omega⟩)), by rw [ht]; exact hP9, va_K.moved hW.alike hK, hD9⟩, hS.F ht⟩) hS.2.2 dX3_isAct_268
        · -- no
          have k_52 : ¬ r_51.toInt = (0 : Int32).toInt := ci_ne c_52
          have kt_52 : V6 ca := two_nz q_r_51 c_52
          refine lv_iload hx hb dX3_isAct_255 (lv_at hl 4 rfl) ?_
          refine vp_callSi (va_runSN (As := [.int da]) (rest := []) ⟨hx, hb, hml, hown, hts⟩ (s_X4_isVariable l da) (⟨va_cnB 1 hts h_X3_isAct_X4_isVariable_23 rfl rfl rfl (hN.2.2.2.1) (hts (.initialized RX4) (List.mem_of_getElem? (i := 1) rfl)) (by decide +kernel) ⟨Nat.le_of_ble_eq_true rfl, Nat.le_of_ble_eq_true rfl⟩, hts (.static yX4_isVariable) (List.mem_of_getElem? (i := 2) rfl), trivial⟩) ⟨fun _ _ _ _ q => q, fun _ _ _ => ⟨rfl, trivial⟩⟩ rfl rfl hl.1 rfl (lv_room (Nat.le_of_ble_eq_true rfl)) dX3_isAct_257 ⟨Nat.le_of_ble_eq_true rfl, Nat.le_of_ble_eq_true rfl⟩).run (fun r_53 hw_53 => ?_)
          replace hw_53 : (two r_53 (V6 da) 1 0) := hw_53
          have q_r_53 := hw_53
          refine lv_if_eq (tgt := 267) hx hb dX3_isAct_260 (by decide) (fun c_54 => ?_) (fun c_54 => ?_)
          · -- yes
            have k_54 : r_53.toInt = (0 : Int32).toInt := ci_eq c_54
            have kt_54 : ¬ (V6 da) := two_z q_r_53 c_54
            refine lv_iconst (v := 0) hx hb dX3_isAct_267 (by decide) ?_
            have hP9 := hP.sub (ws' := []) [] rfl
            have hD9 := hD.sub (ws' := []) [] (by decide) rfl
            exact W.zret (v := 0) (ty := .boolean) hx hb hr rfl (fun t ht hW => ⟨⟨0, (), rfl, (show two (0 : Int32) (okP ka aa ba ca da ea) 1 0 from (Or.inr ⟨rfl, fun h9 => by have h8 := (okP_9 sv_1).mp h9; omega⟩)), by rw [ht]; exact hP9, va_K.moved hW.alike hK, hD9⟩, hS.F ht⟩) hS.2.2 dX3_isAct_268
          · -- no
            have k_54 : ¬ r_53.toInt = (0 : Int32).toInt := ci_ne c_54
            have kt_54 : V6 da := two_nz q_r_53 c_54
            refine lv_iconst (v := 1) hx hb dX3_isAct_263 (by decide) ?_
            refine lv_goto (tgt := 268) hx hb dX3_isAct_264 (by decide) ?_
            have hP9 := hP.sub (ws' := []) [] rfl
            have hD9 := hD.sub (ws' := []) [] (by decide) rfl
            exact W.zret (v := 1) (ty := .boolean) hx hb hr rfl (fun t ht hW => ⟨⟨1, (), rfl, (show two (1 : Int32) (okP ka aa ba ca da ea) 1 0 from (Or.inl ⟨rfl, (okP_9 sv_1).mpr (by omega)⟩)), by rw [ht]; exact hP9, va_K.moved hW.alike hK, hD9⟩, hS.F ht⟩) hS.2.2 dX3_isAct_268
  · -- case 10
    refine lv_tableIn (tgt := 269) (off := 268) hx hb dX3_isAct_1 (by omega) (by omega) (by rw [sv_1]; rfl) (by decide) ?_
    refine lv_iload_n hx hb dX3_isAct_269 rfl (lv_at hl 1 rfl) ?_
    refine vp_callSi (va_runSN (As := [.int aa]) (rest := []) ⟨hx, hb, hml, hown, hts⟩ (s_X4_isVariable l aa) (⟨va_cnB 1 hts h_X3_isAct_X4_isVariable_23 rfl rfl rfl (hN.2.2.2.1) (hts (.initialized RX4) (List.mem_of_getElem? (i := 1) rfl)) (by decide +kernel) ⟨Nat.le_of_ble_eq_true rfl, Nat.le_of_ble_eq_true rfl⟩, hts (.static yX4_isVariable) (List.mem_of_getElem? (i := 2) rfl), trivial⟩) ⟨fun _ _ _ _ q => q, fun _ _ _ => ⟨rfl, trivial⟩⟩ rfl rfl hl.1 rfl (lv_room (Nat.le_of_ble_eq_true rfl)) dX3_isAct_270 ⟨Nat.le_of_ble_eq_true rfl, Nat.le_of_ble_eq_true rfl⟩).run (fun r_55 hw_55 => ?_)
    replace hw_55 : (two r_55 (V6 aa) 1 0) := hw_55
    have q_r_55 := hw_55
    refine lv_if_eq (tgt := 302) hx hb dX3_isAct_273 (by decide) (fun c_56 => ?_) (fun c_56 => ?_)
    · -- yes
      have k_56 : r_55.toInt = (0 : Int32).toInt := ci_eq c_56
      have kt_56 : ¬ (V6 aa) := two_z q_r_55 c_56
      refine lv_iconst (v := 0) hx hb dX3_isAct_302 (by decide) ?_
      have hP9 := hP.sub (ws' := []) [] rfl
      have hD9 := hD.sub (ws' := []) [] (by decide) rfl
      exact W.zret (v := 0) (ty := .boolean) hx hb hr rfl (fun t ht hW => ⟨⟨0, (), rfl, (show two (0 : Int32) (okP ka aa ba ca da ea) 1 0 from (Or.inr ⟨rfl, fun h9 => by have h8 := (okP_10 sv_1).mp h9; omega⟩)), by rw [ht]; exact hP9, va_K.moved hW.alike hK, hD9⟩, hS.F ht⟩) hS.2.2 dX3_isAct_303
    · -- no
      have k_56 : ¬ r_55.toInt = (0 : Int32).toInt := ci_ne c_56
      have kt_56 : V6 aa := two_nz q_r_55 c_56
      refine lv_iload_n hx hb dX3_isAct_276 rfl (lv_at hl 2 rfl) ?_
      refine vp_callSi (va_runSN (As := [.int ba]) (rest := []) ⟨hx, hb, hml, hown, hts⟩ (s_X4_isReference l ba) (⟨va_cnB 1 hts h_X3_isAct_X4_isReference_30 rfl rfl rfl (hN.2.2.2.2.2.1) (hts (.initialized RX4) (List.mem_of_getElem? (i := 1) rfl)) (by decide +kernel) ⟨Nat.le_of_ble_eq_true rfl, Nat.le_of_ble_eq_true rfl⟩, hts (.static yX4_isReference) (List.mem_of_getElem? (i := 4) rfl), trivial⟩) ⟨fun _ _ _ _ q => q, fun _ _ _ => ⟨rfl, trivial⟩⟩ rfl rfl hl.1 rfl (lv_room (Nat.le_of_ble_eq_true rfl)) dX3_isAct_277 ⟨Nat.le_of_ble_eq_true rfl, Nat.le_of_ble_eq_true rfl⟩).run (fun r_57 hw_57 => ?_)
      replace hw_57 : (two r_57 (V6 ba) 1 0) := hw_57
      have q_r_57 := hw_57
      refine lv_if_eq (tgt := 302) hx hb dX3_isAct_280 (by decide) (fun c_58 => ?_) (fun c_58 => ?_)
      · -- yes
        have k_58 : r_57.toInt = (0 : Int32).toInt := ci_eq c_58
        have kt_58 : ¬ (V6 ba) := two_z q_r_57 c_58
        refine lv_iconst (v := 0) hx hb dX3_isAct_302 (by decide) ?_
        have hP9 := hP.sub (ws' := []) [] rfl
        have hD9 := hD.sub (ws' := []) [] (by decide) rfl
        exact W.zret (v := 0) (ty := .boolean) hx hb hr rfl (fun t ht hW => ⟨⟨0, (), rfl, (show two (0 : Int32) (okP ka aa ba ca da ea) 1 0 from (Or.inr ⟨rfl, fun h9 => by have h8 := (okP_10 sv_1).mp h9; omega⟩)), by rw [ht]; exact hP9, va_K.moved hW.alike hK, hD9⟩, hS.F ht⟩) hS.2.2 dX3_isAct_303
      · -- no
        have k_58 : ¬ r_57.toInt = (0 : Int32).toInt := ci_ne c_58
        have kt_58 : V6 ba := two_nz q_r_57 c_58
        refine lv_iload_n hx hb dX3_isAct_283 rfl (lv_at hl 3 rfl) ?_
        refine vp_callSi (va_runSN (As := [.int ca]) (rest := []) ⟨hx, hb, hml, hown, hts⟩ (s_X4_isLane l ca) (⟨va_cnB 1 hts h_X3_isAct_X4_isLane_33 rfl rfl rfl (hN.2.2.2.2.2.2.1) (hts (.initialized RX4) (List.mem_of_getElem? (i := 1) rfl)) (by decide +kernel) ⟨Nat.le_of_ble_eq_true rfl, Nat.le_of_ble_eq_true rfl⟩, hts (.static yX4_isLane) (List.mem_of_getElem? (i := 5) rfl), trivial⟩) ⟨fun _ _ _ _ q => q, fun _ _ _ => ⟨rfl, trivial⟩⟩ rfl rfl hl.1 rfl (lv_room (Nat.le_of_ble_eq_true rfl)) dX3_isAct_284 ⟨Nat.le_of_ble_eq_true rfl, Nat.le_of_ble_eq_true rfl⟩).run (fun r_59 hw_59 => ?_)
        replace hw_59 : (two r_59 (V3 ca) 1 0) := hw_59
        have q_r_59 := hw_59
        refine lv_if_eq (tgt := 302) hx hb dX3_isAct_287 (by decide) (fun c_60 => ?_) (fun c_60 => ?_)
        · -- yes
          have k_60 : r_59.toInt = (0 : Int32).toInt := ci_eq c_60
          have kt_60 : ¬ (V3 ca) := two_z q_r_59 c_60
          refine lv_iconst (v := 0) hx hb dX3_isAct_302 (by decide) ?_
          have hP9 := hP.sub (ws' := []) [] rfl
          have hD9 := hD.sub (ws' := []) [] (by decide) rfl
          exact W.zret (v := 0) (ty := .boolean) hx hb hr rfl (fun t ht hW => ⟨⟨0, (), rfl, (show two (0 : Int32) (okP ka aa ba ca da ea) 1 0 from (Or.inr ⟨rfl, fun h9 => by have h8 := (okP_10 sv_1).mp h9; omega⟩)), by rw [ht]; exact hP9, va_K.moved hW.alike hK, hD9⟩, hS.F ht⟩) hS.2.2 dX3_isAct_303
        · -- no
          have k_60 : ¬ r_59.toInt = (0 : Int32).toInt := ci_ne c_60
          have kt_60 : V3 ca := two_nz q_r_59 c_60
          refine lv_iload hx hb dX3_isAct_290 (lv_at hl 4 rfl) ?_
          refine vp_callSi (va_runSN (As := [.int da]) (rest := []) ⟨hx, hb, hml, hown, hts⟩ (s_X4_isVariable l da) (⟨va_cnB 1 hts h_X3_isAct_X4_isVariable_23 rfl rfl rfl (hN.2.2.2.1) (hts (.initialized RX4) (List.mem_of_getElem? (i := 1) rfl)) (by decide +kernel) ⟨Nat.le_of_ble_eq_true rfl, Nat.le_of_ble_eq_true rfl⟩, hts (.static yX4_isVariable) (List.mem_of_getElem? (i := 2) rfl), trivial⟩) ⟨fun _ _ _ _ q => q, fun _ _ _ => ⟨rfl, trivial⟩⟩ rfl rfl hl.1 rfl (lv_room (Nat.le_of_ble_eq_true rfl)) dX3_isAct_292 ⟨Nat.le_of_ble_eq_true rfl, Nat.le_of_ble_eq_true rfl⟩).run (fun r_61 hw_61 => ?_)
          replace hw_61 : (two r_61 (V6 da) 1 0) := hw_61
          have q_r_61 := hw_61
          refine lv_if_eq (tgt := 302) hx hb dX3_isAct_295 (by decide) (fun c_62 => ?_) (fun c_62 => ?_)
          · -- yes
            have k_62 : r_61.toInt = (0 : Int32).toInt := ci_eq c_62
            have kt_62 : ¬ (V6 da) := two_z q_r_61 c_62
            refine lv_iconst (v := 0) hx hb dX3_isAct_302 (by decide) ?_
            have hP9 := hP.sub (ws' := []) [] rfl
            have hD9 := hD.sub (ws' := []) [] (by decide) rfl
            exact W.zret (v := 0) (ty := .boolean) hx hb hr rfl (fun t ht hW => ⟨⟨0, (), rfl, (show two (0 : Int32) (okP ka aa ba ca da ea) 1 0 from (Or.inr ⟨rfl, fun h9 => by have h8 := (okP_10 sv_1).mp h9; omega⟩)), by rw [ht]; exact hP9, va_K.moved hW.alike hK, hD9⟩, hS.F ht⟩) hS.2.2 dX3_isAct_303
          · -- no
            have k_62 : ¬ r_61.toInt = (0 : Int32).toInt := ci_ne c_62
            have kt_62 : V6 da := two_nz q_r_61 c_62
            refine lv_iconst (v := 1) hx hb dX3_isAct_298 (by decide) ?_
            refine lv_goto (tgt := 303) hx hb dX3_isAct_299 (by decide) ?_
            have hP9 := hP.sub (ws' := []) [] rfl
            have hD9 := hD.sub (ws' := []) [] (by decide) rfl
            exact W.zret (v := 1) (ty := .boolean) hx hb hr rfl (fun t ht hW => ⟨⟨1, (), rfl, (show two (1 : Int32) (okP ka aa ba ca da ea) 1 0 from (Or.inl ⟨rfl, (okP_10 sv_1).mpr (by omega)⟩)), by rw [ht]; exact hP9, va_K.moved hW.alike hK, hD9⟩, hS.F ht⟩) hS.2.2 dX3_isAct_303
  · -- case 11
    refine lv_tableIn (tgt := 304) (off := 303) hx hb dX3_isAct_1 (by omega) (by omega) (by rw [sv_1]; rfl) (by decide) ?_
    refine lv_iload_n hx hb dX3_isAct_304 rfl (lv_at hl 1 rfl) ?_
    refine vp_callSi (va_runSN (As := [.int aa]) (rest := []) ⟨hx, hb, hml, hown, hts⟩ (s_X4_isReference l aa) (⟨va_cnB 1 hts h_X3_isAct_X4_isReference_30 rfl rfl rfl (hN.2.2.2.2.2.1) (hts (.initialized RX4) (List.mem_of_getElem? (i := 1) rfl)) (by decide +kernel) ⟨Nat.le_of_ble_eq_true rfl, Nat.le_of_ble_eq_true rfl⟩, hts (.static yX4_isReference) (List.mem_of_getElem? (i := 4) rfl), trivial⟩) ⟨fun _ _ _ _ q => q, fun _ _ _ => ⟨rfl, trivial⟩⟩ rfl rfl hl.1 rfl (lv_room (Nat.le_of_ble_eq_true rfl)) dX3_isAct_305 ⟨Nat.le_of_ble_eq_true rfl, Nat.le_of_ble_eq_true rfl⟩).run (fun r_63 hw_63 => ?_)
    replace hw_63 : (two r_63 (V6 aa) 1 0) := hw_63
    have q_r_63 := hw_63
    refine lv_if_eq (tgt := 345) hx hb dX3_isAct_308 (by decide) (fun c_64 => ?_) (fun c_64 => ?_)
    · -- yes
      have k_64 : r_63.toInt = (0 : Int32).toInt := ci_eq c_64
      have kt_64 : ¬ (V6 aa) := two_z q_r_63 c_64
      refine lv_iconst (v := 0) hx hb dX3_isAct_345 (by decide) ?_
      have hP9 := hP.sub (ws' := []) [] rfl
      have hD9 := hD.sub (ws' := []) [] (by decide) rfl
      exact W.zret (v := 0) (ty := .boolean) hx hb hr rfl (fun t ht hW => ⟨⟨0, (), rfl, (show two (0 : Int32) (okP ka aa ba ca da ea) 1 0 from (Or.inr ⟨rfl, fun h9 => by have h8 := (okP_11 sv_1).mp h9; omega⟩)), by rw [ht]; exact hP9, va_K.moved hW.alike hK, hD9⟩, hS.F ht⟩) hS.2.2 dX3_isAct_346
    · -- no
      have k_64 : ¬ r_63.toInt = (0 : Int32).toInt := ci_ne c_64
      have kt_64 : V6 aa := two_nz q_r_63 c_64
      refine lv_iload_n hx hb dX3_isAct_311 rfl (lv_at hl 2 rfl) ?_
      refine vp_callSi (va_runSN (As := [.int ba]) (rest := []) ⟨hx, hb, hml, hown, hts⟩ (s_X4_isVariable l ba) (⟨va_cnB 1 hts h_X3_isAct_X4_isVariable_23 rfl rfl rfl (hN.2.2.2.1) (hts (.initialized RX4) (List.mem_of_getElem? (i := 1) rfl)) (by decide +kernel) ⟨Nat.le_of_ble_eq_true rfl, Nat.le_of_ble_eq_true rfl⟩, hts (.static yX4_isVariable) (List.mem_of_getElem? (i := 2) rfl), trivial⟩) ⟨fun _ _ _ _ q => q, fun _ _ _ => ⟨rfl, trivial⟩⟩ rfl rfl hl.1 rfl (lv_room (Nat.le_of_ble_eq_true rfl)) dX3_isAct_312 ⟨Nat.le_of_ble_eq_true rfl, Nat.le_of_ble_eq_true rfl⟩).run (fun r_65 hw_65 => ?_)
      replace hw_65 : (two r_65 (V6 ba) 1 0) := hw_65
      have q_r_65 := hw_65
      refine lv_if_eq (tgt := 345) hx hb dX3_isAct_315 (by decide) (fun c_66 => ?_) (fun c_66 => ?_)
      · -- yes
        have k_66 : r_65.toInt = (0 : Int32).toInt := ci_eq c_66
        have kt_66 : ¬ (V6 ba) := two_z q_r_65 c_66
        refine lv_iconst (v := 0) hx hb dX3_isAct_345 (by decide) ?_
        have hP9 := hP.sub (ws' := []) [] rfl
        have hD9 := hD.sub (ws' := []) [] (by decide) rfl
        exact W.zret (v := 0) (ty := .boolean) hx hb hr rfl (fun t ht hW => ⟨⟨0, (), rfl, (show two (0 : Int32) (okP ka aa ba ca da ea) 1 0 from (Or.inr ⟨rfl, fun h9 => by have h8 := (okP_11 sv_1).mp h9; omega⟩)), by rw [ht]; exact hP9, va_K.moved hW.alike hK, hD9⟩, hS.F ht⟩) hS.2.2 dX3_isAct_346
      · -- no
        have k_66 : ¬ r_65.toInt = (0 : Int32).toInt := ci_ne c_66
        have kt_66 : V6 ba := two_nz q_r_65 c_66
        refine lv_iload_n hx hb dX3_isAct_318 rfl (lv_at hl 3 rfl) ?_
        refine vp_callSi (va_runSN (As := [.int ca]) (rest := []) ⟨hx, hb, hml, hown, hts⟩ (s_X4_isReference l ca) (⟨va_cnB 1 hts h_X3_isAct_X4_isReference_30 rfl rfl rfl (hN.2.2.2.2.2.1) (hts (.initialized RX4) (List.mem_of_getElem? (i := 1) rfl)) (by decide +kernel) ⟨Nat.le_of_ble_eq_true rfl, Nat.le_of_ble_eq_true rfl⟩, hts (.static yX4_isReference) (List.mem_of_getElem? (i := 4) rfl), trivial⟩) ⟨fun _ _ _ _ q => q, fun _ _ _ => ⟨rfl, trivial⟩⟩ rfl rfl hl.1 rfl (lv_room (Nat.le_of_ble_eq_true rfl)) dX3_isAct_319 ⟨Nat.le_of_ble_eq_true rfl, Nat.le_of_ble_eq_true rfl⟩).run (fun r_67 hw_67 => ?_)
        replace hw_67 : (two r_67 (V6 ca) 1 0) := hw_67
        have q_r_67 := hw_67
        refine lv_if_eq (tgt := 345) hx hb dX3_isAct_322 (by decide) (fun c_68 => ?_) (fun c_68 => ?_)
        · -- yes
          have k_68 : r_67.toInt = (0 : Int32).toInt := ci_eq c_68
          have kt_68 : ¬ (V6 ca) := two_z q_r_67 c_68
          refine lv_iconst (v := 0) hx hb dX3_isAct_345 (by decide) ?_
          have hP9 := hP.sub (ws' := []) [] rfl
          have hD9 := hD.sub (ws' := []) [] (by decide) rfl
          exact W.zret (v := 0) (ty := .boolean) hx hb hr rfl (fun t ht hW => ⟨⟨0, (), rfl, (show two (0 : Int32) (okP ka aa ba ca da ea) 1 0 from (Or.inr ⟨rfl, fun h9 => by have h8 := (okP_11 sv_1).mp h9; omega⟩)), by rw [ht]; exact hP9, va_K.moved hW.alike hK, hD9⟩, hS.F ht⟩) hS.2.2 dX3_isAct_346
        · -- no
          have k_68 : ¬ r_67.toInt = (0 : Int32).toInt := ci_ne c_68
          have kt_68 : V6 ca := two_nz q_r_67 c_68
          refine lv_iload hx hb dX3_isAct_325 (lv_at hl 4 rfl) ?_
          refine vp_callSi (va_runSN (As := [.int da]) (rest := []) ⟨hx, hb, hml, hown, hts⟩ (s_X4_isVariable l da) (⟨va_cnB 1 hts h_X3_isAct_X4_isVariable_23 rfl rfl rfl (hN.2.2.2.1) (hts (.initialized RX4) (List.mem_of_getElem? (i := 1) rfl)) (by decide +kernel) ⟨Nat.le_of_ble_eq_true rfl, Nat.le_of_ble_eq_true rfl⟩, hts (.static yX4_isVariable) (List.mem_of_getElem? (i := 2) rfl), trivial⟩) ⟨fun _ _ _ _ q => q, fun _ _ _ => ⟨rfl, trivial⟩⟩ rfl rfl hl.1 rfl (lv_room (Nat.le_of_ble_eq_true rfl)) dX3_isAct_327 ⟨Nat.le_of_ble_eq_true rfl, Nat.le_of_ble_eq_true rfl⟩).run (fun r_69 hw_69 => ?_)
          replace hw_69 : (two r_69 (V6 da) 1 0) := hw_69
          have q_r_69 := hw_69
          refine lv_if_eq (tgt := 345) hx hb dX3_isAct_330 (by decide) (fun c_70 => ?_) (fun c_70 => ?_)
          · -- yes
            have k_70 : r_69.toInt = (0 : Int32).toInt := ci_eq c_70
            have kt_70 : ¬ (V6 da) := two_z q_r_69 c_70
            refine lv_iconst (v := 0) hx hb dX3_isAct_345 (by decide) ?_
            have hP9 := hP.sub (ws' := []) [] rfl
            have hD9 := hD.sub (ws' := []) [] (by decide) rfl
            exact W.zret (v := 0) (ty := .boolean) hx hb hr rfl (fun t ht hW => ⟨⟨0, (), rfl, (show two (0 : Int32) (okP ka aa ba ca da ea) 1 0 from (Or.inr ⟨rfl, fun h9 => by have h8 := (okP_11 sv_1).mp h9; omega⟩)), by rw [ht]; exact hP9, va_K.moved hW.alike hK, hD9⟩, hS.F ht⟩) hS.2.2 dX3_isAct_346
          · -- no
            have k_70 : ¬ r_69.toInt = (0 : Int32).toInt := ci_ne c_70
            have kt_70 : V6 da := two_nz q_r_69 c_70
            refine lv_iload hx hb dX3_isAct_333 (lv_at hl 5 rfl) ?_
            refine vp_callSi (va_runSN (As := [.int ea]) (rest := []) ⟨hx, hb, hml, hown, hts⟩ (s_X4_isVariable l ea) (⟨va_cnB 1 hts h_X3_isAct_X4_isVariable_23 rfl rfl rfl (hN.2.2.2.1) (hts (.initialized RX4) (List.mem_of_getElem? (i := 1) rfl)) (by decide +kernel) ⟨Nat.le_of_ble_eq_true rfl, Nat.le_of_ble_eq_true rfl⟩, hts (.static yX4_isVariable) (List.mem_of_getElem? (i := 2) rfl), trivial⟩) ⟨fun _ _ _ _ q => q, fun _ _ _ => ⟨rfl, trivial⟩⟩ rfl rfl hl.1 rfl (lv_room (Nat.le_of_ble_eq_true rfl)) dX3_isAct_335 ⟨Nat.le_of_ble_eq_true rfl, Nat.le_of_ble_eq_true rfl⟩).run (fun r_71 hw_71 => ?_)
            replace hw_71 : (two r_71 (V6 ea) 1 0) := hw_71
            have q_r_71 := hw_71
            refine lv_if_eq (tgt := 345) hx hb dX3_isAct_338 (by decide) (fun c_72 => ?_) (fun c_72 => ?_)
            · -- yes
              have k_72 : r_71.toInt = (0 : Int32).toInt := ci_eq c_72
              have kt_72 : ¬ (V6 ea) := two_z q_r_71 c_72
              refine lv_iconst (v := 0) hx hb dX3_isAct_345 (by decide) ?_
              have hP9 := hP.sub (ws' := []) [] rfl
              have hD9 := hD.sub (ws' := []) [] (by decide) rfl
              exact W.zret (v := 0) (ty := .boolean) hx hb hr rfl (fun t ht hW => ⟨⟨0, (), rfl, (show two (0 : Int32) (okP ka aa ba ca da ea) 1 0 from (Or.inr ⟨rfl, fun h9 => by have h8 := (okP_11 sv_1).mp h9; omega⟩)), by rw [ht]; exact hP9, va_K.moved hW.alike hK, hD9⟩, hS.F ht⟩) hS.2.2 dX3_isAct_346
            · -- no
              have k_72 : ¬ r_71.toInt = (0 : Int32).toInt := ci_ne c_72
              have kt_72 : V6 ea := two_nz q_r_71 c_72
              refine lv_iconst (v := 1) hx hb dX3_isAct_341 (by decide) ?_
              refine lv_goto (tgt := 346) hx hb dX3_isAct_342 (by decide) ?_
              have hP9 := hP.sub (ws' := []) [] rfl
              have hD9 := hD.sub (ws' := []) [] (by decide) rfl
              exact W.zret (v := 1) (ty := .boolean) hx hb hr rfl (fun t ht hW => ⟨⟨1, (), rfl, (show two (1 : Int32) (okP ka aa ba ca da ea) 1 0 from (Or.inl ⟨rfl, (okP_11 sv_1).mpr (by omega)⟩)), by rw [ht]; exact hP9, va_K.moved hW.alike hK, hD9⟩, hS.F ht⟩) hS.2.2 dX3_isAct_346
  · -- case 12
    refine lv_tableIn (tgt := 347) (off := 346) hx hb dX3_isAct_1 (by omega) (by omega) (by rw [sv_1]; rfl) (by decide) ?_
    refine lv_iload_n hx hb dX3_isAct_347 rfl (lv_at hl 1 rfl) ?_
    refine vp_callSi (va_runSN (As := [.int aa]) (rest := []) ⟨hx, hb, hml, hown, hts⟩ (s_X4_isReference l aa) (⟨va_cnB 1 hts h_X3_isAct_X4_isReference_30 rfl rfl rfl (hN.2.2.2.2.2.1) (hts (.initialized RX4) (List.mem_of_getElem? (i := 1) rfl)) (by decide +kernel) ⟨Nat.le_of_ble_eq_true rfl, Nat.le_of_ble_eq_true rfl⟩, hts (.static yX4_isReference) (List.mem_of_getElem? (i := 4) rfl), trivial⟩) ⟨fun _ _ _ _ q => q, fun _ _ _ => ⟨rfl, trivial⟩⟩ rfl rfl hl.1 rfl (lv_room (Nat.le_of_ble_eq_true rfl)) dX3_isAct_348 ⟨Nat.le_of_ble_eq_true rfl, Nat.le_of_ble_eq_true rfl⟩).run (fun r_73 hw_73 => ?_)
    replace hw_73 : (two r_73 (V6 aa) 1 0) := hw_73
    have q_r_73 := hw_73
    refine lv_if_eq (tgt := 388) hx hb dX3_isAct_351 (by decide) (fun c_74 => ?_) (fun c_74 => ?_)
    · -- yes
      have k_74 : r_73.toInt = (0 : Int32).toInt := ci_eq c_74
      have kt_74 : ¬ (V6 aa) := two_z q_r_73 c_74
      refine lv_iconst (v := 0) hx hb dX3_isAct_388 (by decide) ?_
      have hP9 := hP.sub (ws' := []) [] rfl
      have hD9 := hD.sub (ws' := []) [] (by decide) rfl
      exact W.zret (v := 0) (ty := .boolean) hx hb hr rfl (fun t ht hW => ⟨⟨0, (), rfl, (show two (0 : Int32) (okP ka aa ba ca da ea) 1 0 from (Or.inr ⟨rfl, fun h9 => by have h8 := (okP_12 sv_1).mp h9; omega⟩)), by rw [ht]; exact hP9, va_K.moved hW.alike hK, hD9⟩, hS.F ht⟩) hS.2.2 dX3_isAct_389
    · -- no
      have k_74 : ¬ r_73.toInt = (0 : Int32).toInt := ci_ne c_74
      have kt_74 : V6 aa := two_nz q_r_73 c_74
      refine lv_iload_n hx hb dX3_isAct_354 rfl (lv_at hl 2 rfl) ?_
      refine vp_callSi (va_runSN (As := [.int ba]) (rest := []) ⟨hx, hb, hml, hown, hts⟩ (s_X4_isLane l ba) (⟨va_cnB 1 hts h_X3_isAct_X4_isLane_33 rfl rfl rfl (hN.2.2.2.2.2.2.1) (hts (.initialized RX4) (List.mem_of_getElem? (i := 1) rfl)) (by decide +kernel) ⟨Nat.le_of_ble_eq_true rfl, Nat.le_of_ble_eq_true rfl⟩, hts (.static yX4_isLane) (List.mem_of_getElem? (i := 5) rfl), trivial⟩) ⟨fun _ _ _ _ q => q, fun _ _ _ => ⟨rfl, trivial⟩⟩ rfl rfl hl.1 rfl (lv_room (Nat.le_of_ble_eq_true rfl)) dX3_isAct_355 ⟨Nat.le_of_ble_eq_true rfl, Nat.le_of_ble_eq_true rfl⟩).run (fun r_75 hw_75 => ?_)
      replace hw_75 : (two r_75 (V3 ba) 1 0) := hw_75
      have q_r_75 := hw_75
      refine lv_if_eq (tgt := 388) hx hb dX3_isAct_358 (by decide) (fun c_76 => ?_) (fun c_76 => ?_)
      · -- yes
        have k_76 : r_75.toInt = (0 : Int32).toInt := ci_eq c_76
        have kt_76 : ¬ (V3 ba) := two_z q_r_75 c_76
        refine lv_iconst (v := 0) hx hb dX3_isAct_388 (by decide) ?_
        have hP9 := hP.sub (ws' := []) [] rfl
        have hD9 := hD.sub (ws' := []) [] (by decide) rfl
        exact W.zret (v := 0) (ty := .boolean) hx hb hr rfl (fun t ht hW => ⟨⟨0, (), rfl, (show two (0 : Int32) (okP ka aa ba ca da ea) 1 0 from (Or.inr ⟨rfl, fun h9 => by have h8 := (okP_12 sv_1).mp h9; omega⟩)), by rw [ht]; exact hP9, va_K.moved hW.alike hK, hD9⟩, hS.F ht⟩) hS.2.2 dX3_isAct_389
      · -- no
        have k_76 : ¬ r_75.toInt = (0 : Int32).toInt := ci_ne c_76
        have kt_76 : V3 ba := two_nz q_r_75 c_76
        refine lv_iload_n hx hb dX3_isAct_361 rfl (lv_at hl 3 rfl) ?_
        refine vp_callSi (va_runSN (As := [.int ca]) (rest := []) ⟨hx, hb, hml, hown, hts⟩ (s_X4_isVariable l ca) (⟨va_cnB 1 hts h_X3_isAct_X4_isVariable_23 rfl rfl rfl (hN.2.2.2.1) (hts (.initialized RX4) (List.mem_of_getElem? (i := 1) rfl)) (by decide +kernel) ⟨Nat.le_of_ble_eq_true rfl, Nat.le_of_ble_eq_true rfl⟩, hts (.static yX4_isVariable) (List.mem_of_getElem? (i := 2) rfl), trivial⟩) ⟨fun _ _ _ _ q => q, fun _ _ _ => ⟨rfl, trivial⟩⟩ rfl rfl hl.1 rfl (lv_room (Nat.le_of_ble_eq_true rfl)) dX3_isAct_362 ⟨Nat.le_of_ble_eq_true rfl, Nat.le_of_ble_eq_true rfl⟩).run (fun r_77 hw_77 => ?_)
        replace hw_77 : (two r_77 (V6 ca) 1 0) := hw_77
        have q_r_77 := hw_77
        refine lv_if_eq (tgt := 388) hx hb dX3_isAct_365 (by decide) (fun c_78 => ?_) (fun c_78 => ?_)
        · -- yes
          have k_78 : r_77.toInt = (0 : Int32).toInt := ci_eq c_78
          have kt_78 : ¬ (V6 ca) := two_z q_r_77 c_78
          refine lv_iconst (v := 0) hx hb dX3_isAct_388 (by decide) ?_
          have hP9 := hP.sub (ws' := []) [] rfl
          have hD9 := hD.sub (ws' := []) [] (by decide) rfl
          exact W.zret (v := 0) (ty := .boolean) hx hb hr rfl (fun t ht hW => ⟨⟨0, (), rfl, (show two (0 : Int32) (okP ka aa ba ca da ea) 1 0 from (Or.inr ⟨rfl, fun h9 => by have h8 := (okP_12 sv_1).mp h9; omega⟩)), by rw [ht]; exact hP9, va_K.moved hW.alike hK, hD9⟩, hS.F ht⟩) hS.2.2 dX3_isAct_389
        · -- no
          have k_78 : ¬ r_77.toInt = (0 : Int32).toInt := ci_ne c_78
          have kt_78 : V6 ca := two_nz q_r_77 c_78
          refine lv_iload hx hb dX3_isAct_368 (lv_at hl 4 rfl) ?_
          refine vp_callSi (va_runSN (As := [.int da]) (rest := []) ⟨hx, hb, hml, hown, hts⟩ (s_X4_isVariable l da) (⟨va_cnB 1 hts h_X3_isAct_X4_isVariable_23 rfl rfl rfl (hN.2.2.2.1) (hts (.initialized RX4) (List.mem_of_getElem? (i := 1) rfl)) (by decide +kernel) ⟨Nat.le_of_ble_eq_true rfl, Nat.le_of_ble_eq_true rfl⟩, hts (.static yX4_isVariable) (List.mem_of_getElem? (i := 2) rfl), trivial⟩) ⟨fun _ _ _ _ q => q, fun _ _ _ => ⟨rfl, trivial⟩⟩ rfl rfl hl.1 rfl (lv_room (Nat.le_of_ble_eq_true rfl)) dX3_isAct_370 ⟨Nat.le_of_ble_eq_true rfl, Nat.le_of_ble_eq_true rfl⟩).run (fun r_79 hw_79 => ?_)
          replace hw_79 : (two r_79 (V6 da) 1 0) := hw_79
          have q_r_79 := hw_79
          refine lv_if_eq (tgt := 388) hx hb dX3_isAct_373 (by decide) (fun c_80 => ?_) (fun c_80 => ?_)
          · -- yes
            have k_80 : r_79.toInt = (0 : Int32).toInt := ci_eq c_80
            have kt_80 : ¬ (V6 da) := two_z q_r_79 c_80
            refine lv_iconst (v := 0) hx hb dX3_isAct_388 (by decide) ?_
            have hP9 := hP.sub (ws' := []) [] rfl
            have hD9 := hD.sub (ws' := []) [] (by decide) rfl
            exact W.zret (v := 0) (ty := .boolean) hx hb hr rfl (fun t ht hW => ⟨⟨0, (), rfl, (show two (0 : Int32) (okP ka aa ba ca da ea) 1 0 from (Or.inr ⟨rfl, fun h9 => by have h8 := (okP_12 sv_1).mp h9; omega⟩)), by rw [ht]; exact hP9, va_K.moved hW.alike hK, hD9⟩, hS.F ht⟩) hS.2.2 dX3_isAct_389
          · -- no
            have k_80 : ¬ r_79.toInt = (0 : Int32).toInt := ci_ne c_80
            have kt_80 : V6 da := two_nz q_r_79 c_80
            refine lv_iload hx hb dX3_isAct_376 (lv_at hl 5 rfl) ?_
            refine vp_callSi (va_runSN (As := [.int ea]) (rest := []) ⟨hx, hb, hml, hown, hts⟩ (s_X4_isVariable l ea) (⟨va_cnB 1 hts h_X3_isAct_X4_isVariable_23 rfl rfl rfl (hN.2.2.2.1) (hts (.initialized RX4) (List.mem_of_getElem? (i := 1) rfl)) (by decide +kernel) ⟨Nat.le_of_ble_eq_true rfl, Nat.le_of_ble_eq_true rfl⟩, hts (.static yX4_isVariable) (List.mem_of_getElem? (i := 2) rfl), trivial⟩) ⟨fun _ _ _ _ q => q, fun _ _ _ => ⟨rfl, trivial⟩⟩ rfl rfl hl.1 rfl (lv_room (Nat.le_of_ble_eq_true rfl)) dX3_isAct_378 ⟨Nat.le_of_ble_eq_true rfl, Nat.le_of_ble_eq_true rfl⟩).run (fun r_81 hw_81 => ?_)
            replace hw_81 : (two r_81 (V6 ea) 1 0) := hw_81
            have q_r_81 := hw_81
            refine lv_if_eq (tgt := 388) hx hb dX3_isAct_381 (by decide) (fun c_82 => ?_) (fun c_82 => ?_)
            · -- yes
              have k_82 : r_81.toInt = (0 : Int32).toInt := ci_eq c_82
              have kt_82 : ¬ (V6 ea) := two_z q_r_81 c_82
              refine lv_iconst (v := 0) hx hb dX3_isAct_388 (by decide) ?_
              have hP9 := hP.sub (ws' := []) [] rfl
              have hD9 := hD.sub (ws' := []) [] (by decide) rfl
              exact W.zret (v := 0) (ty := .boolean) hx hb hr rfl (fun t ht hW => ⟨⟨0, (), rfl, (show two (0 : Int32) (okP ka aa ba ca da ea) 1 0 from (Or.inr ⟨rfl, fun h9 => by have h8 := (okP_12 sv_1).mp h9; omega⟩)), by rw [ht]; exact hP9, va_K.moved hW.alike hK, hD9⟩, hS.F ht⟩) hS.2.2 dX3_isAct_389
            · -- no
              have k_82 : ¬ r_81.toInt = (0 : Int32).toInt := ci_ne c_82
              have kt_82 : V6 ea := two_nz q_r_81 c_82
              refine lv_iconst (v := 1) hx hb dX3_isAct_384 (by decide) ?_
              refine lv_goto (tgt := 389) hx hb dX3_isAct_385 (by decide) ?_
              have hP9 := hP.sub (ws' := []) [] rfl
              have hD9 := hD.sub (ws' := []) [] (by decide) rfl
              exact W.zret (v := 1) (ty := .boolean) hx hb hr rfl (fun t ht hW => ⟨⟨1, (), rfl, (show two (1 : Int32) (okP ka aa ba ca da ea) 1 0 from (Or.inl ⟨rfl, (okP_12 sv_1).mpr (by omega)⟩)), by rw [ht]; exact hP9, va_K.moved hW.alike hK, hD9⟩, hS.F ht⟩) hS.2.2 dX3_isAct_389
  · -- case 13
    refine lv_tableIn (tgt := 390) (off := 389) hx hb dX3_isAct_1 (by omega) (by omega) (by rw [sv_1]; rfl) (by decide) ?_
    refine lv_iload_n hx hb dX3_isAct_390 rfl (lv_at hl 1 rfl) ?_
    refine vp_callSi (va_runSN (As := [.int aa]) (rest := []) ⟨hx, hb, hml, hown, hts⟩ (s_X4_isVariable l aa) (⟨va_cnB 1 hts h_X3_isAct_X4_isVariable_23 rfl rfl rfl (hN.2.2.2.1) (hts (.initialized RX4) (List.mem_of_getElem? (i := 1) rfl)) (by decide +kernel) ⟨Nat.le_of_ble_eq_true rfl, Nat.le_of_ble_eq_true rfl⟩, hts (.static yX4_isVariable) (List.mem_of_getElem? (i := 2) rfl), trivial⟩) ⟨fun _ _ _ _ q => q, fun _ _ _ => ⟨rfl, trivial⟩⟩ rfl rfl hl.1 rfl (lv_room (Nat.le_of_ble_eq_true rfl)) dX3_isAct_391 ⟨Nat.le_of_ble_eq_true rfl, Nat.le_of_ble_eq_true rfl⟩).run (fun r_83 hw_83 => ?_)
    replace hw_83 : (two r_83 (V6 aa) 1 0) := hw_83
    have q_r_83 := hw_83
    refine lv_if_eq (tgt := 408) hx hb dX3_isAct_394 (by decide) (fun c_84 => ?_) (fun c_84 => ?_)
    · -- yes
      have k_84 : r_83.toInt = (0 : Int32).toInt := ci_eq c_84
      have kt_84 : ¬ (V6 aa) := two_z q_r_83 c_84
      refine lv_iconst (v := 0) hx hb dX3_isAct_408 (by decide) ?_
      have hP9 := hP.sub (ws' := []) [] rfl
      have hD9 := hD.sub (ws' := []) [] (by decide) rfl
      exact W.zret (v := 0) (ty := .boolean) hx hb hr rfl (fun t ht hW => ⟨⟨0, (), rfl, (show two (0 : Int32) (okP ka aa ba ca da ea) 1 0 from (Or.inr ⟨rfl, fun h9 => by have h8 := (okP_13 sv_1).mp h9; omega⟩)), by rw [ht]; exact hP9, va_K.moved hW.alike hK, hD9⟩, hS.F ht⟩) hS.2.2 dX3_isAct_409
    · -- no
      have k_84 : ¬ r_83.toInt = (0 : Int32).toInt := ci_ne c_84
      have kt_84 : V6 aa := two_nz q_r_83 c_84
      refine lv_iload_n hx hb dX3_isAct_397 rfl (lv_at hl 2 rfl) ?_
      refine vp_callSi (va_runSN (As := [.int ba]) (rest := []) ⟨hx, hb, hml, hown, hts⟩ (s_X4_isReference l ba) (⟨va_cnB 1 hts h_X3_isAct_X4_isReference_30 rfl rfl rfl (hN.2.2.2.2.2.1) (hts (.initialized RX4) (List.mem_of_getElem? (i := 1) rfl)) (by decide +kernel) ⟨Nat.le_of_ble_eq_true rfl, Nat.le_of_ble_eq_true rfl⟩, hts (.static yX4_isReference) (List.mem_of_getElem? (i := 4) rfl), trivial⟩) ⟨fun _ _ _ _ q => q, fun _ _ _ => ⟨rfl, trivial⟩⟩ rfl rfl hl.1 rfl (lv_room (Nat.le_of_ble_eq_true rfl)) dX3_isAct_398 ⟨Nat.le_of_ble_eq_true rfl, Nat.le_of_ble_eq_true rfl⟩).run (fun r_85 hw_85 => ?_)
      replace hw_85 : (two r_85 (V6 ba) 1 0) := hw_85
      have q_r_85 := hw_85
      refine lv_if_eq (tgt := 408) hx hb dX3_isAct_401 (by decide) (fun c_86 => ?_) (fun c_86 => ?_)
      · -- yes
        have k_86 : r_85.toInt = (0 : Int32).toInt := ci_eq c_86
        have kt_86 : ¬ (V6 ba) := two_z q_r_85 c_86
        refine lv_iconst (v := 0) hx hb dX3_isAct_408 (by decide) ?_
        have hP9 := hP.sub (ws' := []) [] rfl
        have hD9 := hD.sub (ws' := []) [] (by decide) rfl
        exact W.zret (v := 0) (ty := .boolean) hx hb hr rfl (fun t ht hW => ⟨⟨0, (), rfl, (show two (0 : Int32) (okP ka aa ba ca da ea) 1 0 from (Or.inr ⟨rfl, fun h9 => by have h8 := (okP_13 sv_1).mp h9; omega⟩)), by rw [ht]; exact hP9, va_K.moved hW.alike hK, hD9⟩, hS.F ht⟩) hS.2.2 dX3_isAct_409
      · -- no
        have k_86 : ¬ r_85.toInt = (0 : Int32).toInt := ci_ne c_86
        have kt_86 : V6 ba := two_nz q_r_85 c_86
        refine lv_iconst (v := 1) hx hb dX3_isAct_404 (by decide) ?_
        refine lv_goto (tgt := 409) hx hb dX3_isAct_405 (by decide) ?_
        have hP9 := hP.sub (ws' := []) [] rfl
        have hD9 := hD.sub (ws' := []) [] (by decide) rfl
        exact W.zret (v := 1) (ty := .boolean) hx hb hr rfl (fun t ht hW => ⟨⟨1, (), rfl, (show two (1 : Int32) (okP ka aa ba ca da ea) 1 0 from (Or.inl ⟨rfl, (okP_13 sv_1).mpr (by omega)⟩)), by rw [ht]; exact hP9, va_K.moved hW.alike hK, hD9⟩, hS.F ht⟩) hS.2.2 dX3_isAct_409
  · -- case 14
    refine lv_tableIn (tgt := 410) (off := 409) hx hb dX3_isAct_1 (by omega) (by omega) (by rw [sv_1]; rfl) (by decide) ?_
    refine lv_iload_n hx hb dX3_isAct_410 rfl (lv_at hl 2 rfl) ?_
    refine lv_iconst (v := 1) hx hb dX3_isAct_411 (by decide) ?_
    refine lv_icmp_lt (tgt := 425) hx hb dX3_isAct_412 (by decide) (fun c_87 => ?_) (fun c_87 => ?_)
    · -- yes
      have k_87 : ba.toInt < (1 : Int32).toInt := ci_lt c_87
      refine lv_iconst (v := 0) hx hb dX3_isAct_425 (by decide) ?_
      have hP9 := hP.sub (ws' := []) [] rfl
      have hD9 := hD.sub (ws' := []) [] (by decide) rfl
      exact W.zret (v := 0) (ty := .boolean) hx hb hr rfl (fun t ht hW => ⟨⟨0, (), rfl, (show two (0 : Int32) (okP ka aa ba ca da ea) 1 0 from (Or.inr ⟨rfl, fun h9 => by have h8 := (okP_14 sv_1).mp h9; omega⟩)), by rw [ht]; exact hP9, va_K.moved hW.alike hK, hD9⟩, hS.F ht⟩) hS.2.2 dX3_isAct_426
    · -- no
      have k_87 : (1 : Int32).toInt ≤ ba.toInt := ci_nlt c_87
      refine lv_iload_n hx hb dX3_isAct_415 rfl (lv_at hl 2 rfl) ?_
      refine lv_bipush (v := 10) hx hb dX3_isAct_416 (by decide) ?_
      refine lv_icmp_gt (tgt := 425) hx hb dX3_isAct_418 (by decide) (fun c_88 => ?_) (fun c_88 => ?_)
      · -- yes
        have k_88 : (10 : Int32).toInt < ba.toInt := ci_gt c_88
        refine lv_iconst (v := 0) hx hb dX3_isAct_425 (by decide) ?_
        have hP9 := hP.sub (ws' := []) [] rfl
        have hD9 := hD.sub (ws' := []) [] (by decide) rfl
        exact W.zret (v := 0) (ty := .boolean) hx hb hr rfl (fun t ht hW => ⟨⟨0, (), rfl, (show two (0 : Int32) (okP ka aa ba ca da ea) 1 0 from (Or.inr ⟨rfl, fun h9 => by have h8 := (okP_14 sv_1).mp h9; omega⟩)), by rw [ht]; exact hP9, va_K.moved hW.alike hK, hD9⟩, hS.F ht⟩) hS.2.2 dX3_isAct_426
      · -- no
        have k_88 : ba.toInt ≤ (10 : Int32).toInt := ci_ngt c_88
        refine lv_iconst (v := 1) hx hb dX3_isAct_421 (by decide) ?_
        refine lv_goto (tgt := 426) hx hb dX3_isAct_422 (by decide) ?_
        have hP9 := hP.sub (ws' := []) [] rfl
        have hD9 := hD.sub (ws' := []) [] (by decide) rfl
        exact W.zret (v := 1) (ty := .boolean) hx hb hr rfl (fun t ht hW => ⟨⟨1, (), rfl, (show two (1 : Int32) (okP ka aa ba ca da ea) 1 0 from (Or.inl ⟨rfl, (okP_14 sv_1).mpr (by omega)⟩)), by rw [ht]; exact hP9, va_K.moved hW.alike hK, hD9⟩, hS.F ht⟩) hS.2.2 dX3_isAct_426
  · -- case None
    refine lv_tableOut (tgt := 427) hx hb dX3_isAct_1 sv_1 (by decide) ?_
    refine lv_iconst (v := 0) hx hb dX3_isAct_427 (by decide) ?_
    have hP9 := hP.sub (ws' := []) [] rfl
    have hD9 := hD.sub (ws' := []) [] (by decide) rfl
    exact W.zret (v := 0) (ty := .boolean) hx hb hr rfl (fun t ht hW => ⟨⟨0, (), rfl, (show two (0 : Int32) (okP ka aa ba ca da ea) 1 0 from (Or.inr ⟨rfl, okP_out sv_1⟩)), by rw [ht]; exact hP9, va_K.moved hW.alike hK, hD9⟩, hS.F ht⟩) hS.2.2 dX3_isAct_428

def v_X5_isAct : List Cond := .code yX5_isAct cX5_isAct 6 (some .boolean) :: ([.methodLink RX5 115 yX5_isName, .static yX5_isName, .initialized RX5, .methodLink RX5 119 yX5_isNumber, .static yX5_isNumber, .methodLink RX5 122 yX5_isLane, .static yX5_isLane] ++ (v_X5_isName ++ (v_X5_isNumber ++ (v_X5_isLane))))
theorem im_X5_isAct_X5_isName : ∀ w ∈ v_X5_isName, w ∈ v_X5_isAct := fun _ h => List.mem_cons_of_mem _ (List.mem_append_right _ (List.mem_append_left _ h))
theorem im_X5_isAct_X5_isNumber : ∀ w ∈ v_X5_isNumber, w ∈ v_X5_isAct := fun _ h => List.mem_cons_of_mem _ (List.mem_append_right _ (List.mem_append_right _ (List.mem_append_left _ h)))
theorem im_X5_isAct_X5_isLane : ∀ w ∈ v_X5_isLane, w ∈ v_X5_isAct := fun _ h => List.mem_cons_of_mem _ (List.mem_append_right _ (List.mem_append_right _ (List.mem_append_right _ (h))))
set_option maxRecDepth 20000 in
theorem gd_X5_isAct : gdL v_X5_isAct := gdC (gdW (by decide +kernel)) (gdA (gdW (by decide +kernel)) (gdA gd_X5_isName (gdA gd_X5_isNumber gd_X5_isLane)))
set_option maxRecDepth 20000 in
theorem h_X5_isAct_X5_isName_115 : GoodIn v_X5_isAct (va_wsS RX5 115 yX5_isName v_X5_isName) := gdI [1, 2, 3] rfl (by decide +kernel) (im_X5_isAct_X5_isName) gd_X5_isName
set_option maxRecDepth 20000 in
theorem h_X5_isAct_X5_isNumber_119 : GoodIn v_X5_isAct (va_wsS RX5 119 yX5_isNumber v_X5_isNumber) := gdI [4, 5, 3] rfl (by decide +kernel) (im_X5_isAct_X5_isNumber) gd_X5_isNumber
set_option maxRecDepth 20000 in
theorem h_X5_isAct_X5_isLane_122 : GoodIn v_X5_isAct (va_wsS RX5 122 yX5_isLane v_X5_isLane) := gdI [6, 7, 3] rfl (by decide +kernel) (im_X5_isAct_X5_isLane) gd_X5_isLane
set_option maxHeartbeats 8000000 in
set_option maxRecDepth 100000 in
theorem s_X5_isAct (l : Launch) (ka : Int32) (aa : Int32) (ba : Int32) (ca : Int32) (da : Int32) (ea : Int32) : Met l yX5_isAct v_X5_isAct ({ frames := 1, cells := 0, slots := 0, locals := 20 }) (va_Pc [.int ka, .int aa, .int ba, .int ca, .int da, .int ea] (fun _ => True)) (vp_Si (fun (r : Int32) => (two r (okP ka aa ba ca da ea) 1 0))) 0 0 (fun _ => False) := by
  refine Met.ofW (cc := cX5_isAct) (maxL := 6) (ret := (some .boolean)) (by decide) rfl ?_
  intro p e s m args below meth c s₁ B hml hv
  obtain ⟨rfl, -⟩ := hv
  have hx := B.exec
  have hb := B.bytes
  have hr := B.returns
  have hts := atoms_spec (ws := v_X5_isAct) B.pre
  have hown : s.vm.findClass RX5 = some m.cls := findClass_of_methodNamed B.named
  have hlocks := B.notSynchronized
  have hl := lv_entry ([.int ka, .int aa, .int ba, .int ca, .int da, .int ea]) (n := 6) (Nat.le_of_ble_eq_true rfl)
  rw [lg_entry_eq]
  generalize (lg_sl ([.int ka, .int aa, .int ba, .int ca, .int da, .int ea]) ++ List.replicate (6 - (lg_sl ([.int ka, .int aa, .int ba, .int ca, .int da, .int ea])).length) Slot.unset).toArray = ls at hl ⊢
  replace hl : lv_has ls 6 [(0, .int ka), (1, .int aa), (2, .int ba), (3, .int ca), (4, .int da), (5, .int ea)] := hl
  have z_0 : (0 : Int32).toInt = 0 := by decide
  have z_1 : (1 : Int32).toInt = 1 := by decide
  have z_10 : (10 : Int32).toInt = 10 := by decide
  refine lv_iload_n hx hb dX5_isAct_0 rfl (lv_at hl 0 rfl) ?_
  have sw_1 : ka.toInt = 0 ∨ ka.toInt = 1 ∨ ka.toInt = 2 ∨ ka.toInt = 3 ∨ ka.toInt = 4 ∨ ka.toInt = 5 ∨ ka.toInt = 6 ∨ ka.toInt = 7 ∨ ka.toInt = 8 ∨ ka.toInt = 9 ∨ ka.toInt = 10 ∨ ka.toInt = 11 ∨ ka.toInt = 12 ∨ ka.toInt = 13 ∨ ka.toInt = 14 ∨ (ka.toInt < 0 ∨ 14 < ka.toInt) := by omega
  rcases sw_1 with sv_1 | sv_1 | sv_1 | sv_1 | sv_1 | sv_1 | sv_1 | sv_1 | sv_1 | sv_1 | sv_1 | sv_1 | sv_1 | sv_1 | sv_1 | sv_1
  · -- case 0
    refine lv_tableIn (tgt := 76) (off := 75) hx hb dX5_isAct_1 (by omega) (by omega) (by rw [sv_1]; rfl) (by decide) ?_
    refine lv_iload_n hx hb dX5_isAct_76 rfl (lv_at hl 1 rfl) ?_
    refine vp_callSi (va_runS (As := [.int aa]) (rest := []) ⟨hx, hb, hml, hown, hts⟩ (s_X5_isName l aa) (va_cwS 1 hts h_X5_isAct_X5_isName_115 rfl rfl rfl (by decide +kernel) ⟨Nat.le_of_ble_eq_true rfl, Nat.le_of_ble_eq_true rfl⟩) ⟨fun _ _ _ _ q => q, fun _ _ _ => ⟨rfl, trivial⟩⟩ rfl rfl hl.1 rfl (lv_room (Nat.le_of_ble_eq_true rfl)) dX5_isAct_77 ⟨Nat.le_of_ble_eq_true rfl, Nat.le_of_ble_eq_true rfl⟩).run (fun r_2 hw_2 => ?_)
    replace hw_2 : (two r_2 (V6 aa) 1 0) := hw_2
    have q_r_2 := hw_2
    refine lv_if_eq (tgt := 94) hx hb dX5_isAct_80 (by decide) (fun c_3 => ?_) (fun c_3 => ?_)
    · -- yes
      have k_3 : r_2.toInt = (0 : Int32).toInt := ci_eq c_3
      have kt_3 : ¬ (V6 aa) := two_z q_r_2 c_3
      refine lv_iconst (v := 0) hx hb dX5_isAct_94 (by decide) ?_
      exact W.zret (v := 0) (ty := .boolean) hx hb hr rfl (fun t ht hW => ⟨0, rfl, (show two (0 : Int32) (okP ka aa ba ca da ea) 1 0 from (Or.inr ⟨rfl, fun h9 => by have h8 := (okP_0 sv_1).mp h9; omega⟩)), ht⟩) (by intro q hq; cases hq) dX5_isAct_95
    · -- no
      have k_3 : ¬ r_2.toInt = (0 : Int32).toInt := ci_ne c_3
      have kt_3 : V6 aa := two_nz q_r_2 c_3
      refine lv_iload_n hx hb dX5_isAct_83 rfl (lv_at hl 2 rfl) ?_
      refine vp_callSi (va_runS (As := [.int ba]) (rest := []) ⟨hx, hb, hml, hown, hts⟩ (s_X5_isNumber l ba) (va_cwS 1 hts h_X5_isAct_X5_isNumber_119 rfl rfl rfl (by decide +kernel) ⟨Nat.le_of_ble_eq_true rfl, Nat.le_of_ble_eq_true rfl⟩) ⟨fun _ _ _ _ q => q, fun _ _ _ => ⟨rfl, trivial⟩⟩ rfl rfl hl.1 rfl (lv_room (Nat.le_of_ble_eq_true rfl)) dX5_isAct_84 ⟨Nat.le_of_ble_eq_true rfl, Nat.le_of_ble_eq_true rfl⟩).run (fun r_4 hw_4 => ?_)
      replace hw_4 : (two r_4 (VN ba) 1 0) := hw_4
      have q_r_4 := hw_4
      refine lv_if_eq (tgt := 94) hx hb dX5_isAct_87 (by decide) (fun c_5 => ?_) (fun c_5 => ?_)
      · -- yes
        have k_5 : r_4.toInt = (0 : Int32).toInt := ci_eq c_5
        have kt_5 : ¬ (VN ba) := two_z q_r_4 c_5
        refine lv_iconst (v := 0) hx hb dX5_isAct_94 (by decide) ?_
        exact W.zret (v := 0) (ty := .boolean) hx hb hr rfl (fun t ht hW => ⟨0, rfl, (show two (0 : Int32) (okP ka aa ba ca da ea) 1 0 from (Or.inr ⟨rfl, fun h9 => by have h8 := (okP_0 sv_1).mp h9; omega⟩)), ht⟩) (by intro q hq; cases hq) dX5_isAct_95
      · -- no
        have k_5 : ¬ r_4.toInt = (0 : Int32).toInt := ci_ne c_5
        have kt_5 : VN ba := two_nz q_r_4 c_5
        refine lv_iconst (v := 1) hx hb dX5_isAct_90 (by decide) ?_
        refine lv_goto (tgt := 95) hx hb dX5_isAct_91 (by decide) ?_
        exact W.zret (v := 1) (ty := .boolean) hx hb hr rfl (fun t ht hW => ⟨1, rfl, (show two (1 : Int32) (okP ka aa ba ca da ea) 1 0 from (Or.inl ⟨rfl, (okP_0 sv_1).mpr (by omega)⟩)), ht⟩) (by intro q hq; cases hq) dX5_isAct_95
  · -- case 1
    refine lv_tableIn (tgt := 96) (off := 95) hx hb dX5_isAct_1 (by omega) (by omega) (by rw [sv_1]; rfl) (by decide) ?_
    refine lv_iload_n hx hb dX5_isAct_96 rfl (lv_at hl 1 rfl) ?_
    refine vp_callSi (va_runS (As := [.int aa]) (rest := []) ⟨hx, hb, hml, hown, hts⟩ (s_X5_isName l aa) (va_cwS 1 hts h_X5_isAct_X5_isName_115 rfl rfl rfl (by decide +kernel) ⟨Nat.le_of_ble_eq_true rfl, Nat.le_of_ble_eq_true rfl⟩) ⟨fun _ _ _ _ q => q, fun _ _ _ => ⟨rfl, trivial⟩⟩ rfl rfl hl.1 rfl (lv_room (Nat.le_of_ble_eq_true rfl)) dX5_isAct_97 ⟨Nat.le_of_ble_eq_true rfl, Nat.le_of_ble_eq_true rfl⟩).run (fun r_6 hw_6 => ?_)
    replace hw_6 : (two r_6 (V6 aa) 1 0) := hw_6
    have q_r_6 := hw_6
    refine lv_if_eq (tgt := 126) hx hb dX5_isAct_100 (by decide) (fun c_7 => ?_) (fun c_7 => ?_)
    · -- yes
      have k_7 : r_6.toInt = (0 : Int32).toInt := ci_eq c_7
      have kt_7 : ¬ (V6 aa) := two_z q_r_6 c_7
      refine lv_iconst (v := 0) hx hb dX5_isAct_126 (by decide) ?_
      exact W.zret (v := 0) (ty := .boolean) hx hb hr rfl (fun t ht hW => ⟨0, rfl, (show two (0 : Int32) (okP ka aa ba ca da ea) 1 0 from (Or.inr ⟨rfl, fun h9 => by have h8 := (okP_1 sv_1).mp h9; omega⟩)), ht⟩) (by intro q hq; cases hq) dX5_isAct_127
    · -- no
      have k_7 : ¬ r_6.toInt = (0 : Int32).toInt := ci_ne c_7
      have kt_7 : V6 aa := two_nz q_r_6 c_7
      refine lv_iload_n hx hb dX5_isAct_103 rfl (lv_at hl 2 rfl) ?_
      refine vp_callSi (va_runS (As := [.int ba]) (rest := []) ⟨hx, hb, hml, hown, hts⟩ (s_X5_isNumber l ba) (va_cwS 1 hts h_X5_isAct_X5_isNumber_119 rfl rfl rfl (by decide +kernel) ⟨Nat.le_of_ble_eq_true rfl, Nat.le_of_ble_eq_true rfl⟩) ⟨fun _ _ _ _ q => q, fun _ _ _ => ⟨rfl, trivial⟩⟩ rfl rfl hl.1 rfl (lv_room (Nat.le_of_ble_eq_true rfl)) dX5_isAct_104 ⟨Nat.le_of_ble_eq_true rfl, Nat.le_of_ble_eq_true rfl⟩).run (fun r_8 hw_8 => ?_)
      replace hw_8 : (two r_8 (VN ba) 1 0) := hw_8
      have q_r_8 := hw_8
      refine lv_if_eq (tgt := 126) hx hb dX5_isAct_107 (by decide) (fun c_9 => ?_) (fun c_9 => ?_)
      · -- yes
        have k_9 : r_8.toInt = (0 : Int32).toInt := ci_eq c_9
        have kt_9 : ¬ (VN ba) := two_z q_r_8 c_9
        refine lv_iconst (v := 0) hx hb dX5_isAct_126 (by decide) ?_
        exact W.zret (v := 0) (ty := .boolean) hx hb hr rfl (fun t ht hW => ⟨0, rfl, (show two (0 : Int32) (okP ka aa ba ca da ea) 1 0 from (Or.inr ⟨rfl, fun h9 => by have h8 := (okP_1 sv_1).mp h9; omega⟩)), ht⟩) (by intro q hq; cases hq) dX5_isAct_127
      · -- no
        have k_9 : ¬ r_8.toInt = (0 : Int32).toInt := ci_ne c_9
        have kt_9 : VN ba := two_nz q_r_8 c_9
        refine lv_iload_n hx hb dX5_isAct_110 rfl (lv_at hl 3 rfl) ?_
        refine vp_callSi (va_runS (As := [.int ca]) (rest := []) ⟨hx, hb, hml, hown, hts⟩ (s_X5_isNumber l ca) (va_cwS 1 hts h_X5_isAct_X5_isNumber_119 rfl rfl rfl (by decide +kernel) ⟨Nat.le_of_ble_eq_true rfl, Nat.le_of_ble_eq_true rfl⟩) ⟨fun _ _ _ _ q => q, fun _ _ _ => ⟨rfl, trivial⟩⟩ rfl rfl hl.1 rfl (lv_room (Nat.le_of_ble_eq_true rfl)) dX5_isAct_111 ⟨Nat.le_of_ble_eq_true rfl, Nat.le_of_ble_eq_true rfl⟩).run (fun r_10 hw_10 => ?_)
        replace hw_10 : (two r_10 (VN ca) 1 0) := hw_10
        have q_r_10 := hw_10
        refine lv_if_eq (tgt := 126) hx hb dX5_isAct_114 (by decide) (fun c_11 => ?_) (fun c_11 => ?_)
        · -- yes
          have k_11 : r_10.toInt = (0 : Int32).toInt := ci_eq c_11
          have kt_11 : ¬ (VN ca) := two_z q_r_10 c_11
          refine lv_iconst (v := 0) hx hb dX5_isAct_126 (by decide) ?_
          exact W.zret (v := 0) (ty := .boolean) hx hb hr rfl (fun t ht hW => ⟨0, rfl, (show two (0 : Int32) (okP ka aa ba ca da ea) 1 0 from (Or.inr ⟨rfl, fun h9 => by have h8 := (okP_1 sv_1).mp h9; omega⟩)), ht⟩) (by intro q hq; cases hq) dX5_isAct_127
        · -- no
          have k_11 : ¬ r_10.toInt = (0 : Int32).toInt := ci_ne c_11
          have kt_11 : VN ca := two_nz q_r_10 c_11
          refine lv_iload_n hx hb dX5_isAct_117 rfl (lv_at hl 2 rfl) ?_
          refine lv_iload_n hx hb dX5_isAct_118 rfl (lv_at hl 3 rfl) ?_
          refine lv_icmp_gt (tgt := 126) hx hb dX5_isAct_119 (by decide) (fun c_12 => ?_) (fun c_12 => ?_)
          · -- yes
            have k_12 : ca.toInt < ba.toInt := ci_gt c_12
            refine lv_iconst (v := 0) hx hb dX5_isAct_126 (by decide) ?_
            exact W.zret (v := 0) (ty := .boolean) hx hb hr rfl (fun t ht hW => ⟨0, rfl, (show two (0 : Int32) (okP ka aa ba ca da ea) 1 0 from (Or.inr ⟨rfl, fun h9 => by have h8 := (okP_1 sv_1).mp h9; omega⟩)), ht⟩) (by intro q hq; cases hq) dX5_isAct_127
          · -- no
            have k_12 : ba.toInt ≤ ca.toInt := ci_ngt c_12
            refine lv_iconst (v := 1) hx hb dX5_isAct_122 (by decide) ?_
            refine lv_goto (tgt := 127) hx hb dX5_isAct_123 (by decide) ?_
            exact W.zret (v := 1) (ty := .boolean) hx hb hr rfl (fun t ht hW => ⟨1, rfl, (show two (1 : Int32) (okP ka aa ba ca da ea) 1 0 from (Or.inl ⟨rfl, (okP_1 sv_1).mpr (by omega)⟩)), ht⟩) (by intro q hq; cases hq) dX5_isAct_127
  · -- case 2
    refine lv_tableIn (tgt := 128) (off := 127) hx hb dX5_isAct_1 (by omega) (by omega) (by rw [sv_1]; rfl) (by decide) ?_
    refine lv_iload_n hx hb dX5_isAct_128 rfl (lv_at hl 1 rfl) ?_
    refine vp_callSi (va_runS (As := [.int aa]) (rest := []) ⟨hx, hb, hml, hown, hts⟩ (s_X5_isName l aa) (va_cwS 1 hts h_X5_isAct_X5_isName_115 rfl rfl rfl (by decide +kernel) ⟨Nat.le_of_ble_eq_true rfl, Nat.le_of_ble_eq_true rfl⟩) ⟨fun _ _ _ _ q => q, fun _ _ _ => ⟨rfl, trivial⟩⟩ rfl rfl hl.1 rfl (lv_room (Nat.le_of_ble_eq_true rfl)) dX5_isAct_129 ⟨Nat.le_of_ble_eq_true rfl, Nat.le_of_ble_eq_true rfl⟩).run (fun r_13 hw_13 => ?_)
    replace hw_13 : (two r_13 (V6 aa) 1 0) := hw_13
    have q_r_13 := hw_13
    refine lv_if_eq (tgt := 153) hx hb dX5_isAct_132 (by decide) (fun c_14 => ?_) (fun c_14 => ?_)
    · -- yes
      have k_14 : r_13.toInt = (0 : Int32).toInt := ci_eq c_14
      have kt_14 : ¬ (V6 aa) := two_z q_r_13 c_14
      refine lv_iconst (v := 0) hx hb dX5_isAct_153 (by decide) ?_
      exact W.zret (v := 0) (ty := .boolean) hx hb hr rfl (fun t ht hW => ⟨0, rfl, (show two (0 : Int32) (okP ka aa ba ca da ea) 1 0 from (Or.inr ⟨rfl, fun h9 => by have h8 := (okP_2 sv_1).mp h9; omega⟩)), ht⟩) (by intro q hq; cases hq) dX5_isAct_154
    · -- no
      have k_14 : ¬ r_13.toInt = (0 : Int32).toInt := ci_ne c_14
      have kt_14 : V6 aa := two_nz q_r_13 c_14
      refine lv_iload_n hx hb dX5_isAct_135 rfl (lv_at hl 2 rfl) ?_
      refine vp_callSi (va_runS (As := [.int ba]) (rest := []) ⟨hx, hb, hml, hown, hts⟩ (s_X5_isName l ba) (va_cwS 1 hts h_X5_isAct_X5_isName_115 rfl rfl rfl (by decide +kernel) ⟨Nat.le_of_ble_eq_true rfl, Nat.le_of_ble_eq_true rfl⟩) ⟨fun _ _ _ _ q => q, fun _ _ _ => ⟨rfl, trivial⟩⟩ rfl rfl hl.1 rfl (lv_room (Nat.le_of_ble_eq_true rfl)) dX5_isAct_136 ⟨Nat.le_of_ble_eq_true rfl, Nat.le_of_ble_eq_true rfl⟩).run (fun r_15 hw_15 => ?_)
      replace hw_15 : (two r_15 (V6 ba) 1 0) := hw_15
      have q_r_15 := hw_15
      refine lv_if_eq (tgt := 153) hx hb dX5_isAct_139 (by decide) (fun c_16 => ?_) (fun c_16 => ?_)
      · -- yes
        have k_16 : r_15.toInt = (0 : Int32).toInt := ci_eq c_16
        have kt_16 : ¬ (V6 ba) := two_z q_r_15 c_16
        refine lv_iconst (v := 0) hx hb dX5_isAct_153 (by decide) ?_
        exact W.zret (v := 0) (ty := .boolean) hx hb hr rfl (fun t ht hW => ⟨0, rfl, (show two (0 : Int32) (okP ka aa ba ca da ea) 1 0 from (Or.inr ⟨rfl, fun h9 => by have h8 := (okP_2 sv_1).mp h9; omega⟩)), ht⟩) (by intro q hq; cases hq) dX5_isAct_154
      · -- no
        have k_16 : ¬ r_15.toInt = (0 : Int32).toInt := ci_ne c_16
        have kt_16 : V6 ba := two_nz q_r_15 c_16
        refine lv_iload_n hx hb dX5_isAct_142 rfl (lv_at hl 3 rfl) ?_
        refine vp_callSi (va_runS (As := [.int ca]) (rest := []) ⟨hx, hb, hml, hown, hts⟩ (s_X5_isName l ca) (va_cwS 1 hts h_X5_isAct_X5_isName_115 rfl rfl rfl (by decide +kernel) ⟨Nat.le_of_ble_eq_true rfl, Nat.le_of_ble_eq_true rfl⟩) ⟨fun _ _ _ _ q => q, fun _ _ _ => ⟨rfl, trivial⟩⟩ rfl rfl hl.1 rfl (lv_room (Nat.le_of_ble_eq_true rfl)) dX5_isAct_143 ⟨Nat.le_of_ble_eq_true rfl, Nat.le_of_ble_eq_true rfl⟩).run (fun r_17 hw_17 => ?_)
        replace hw_17 : (two r_17 (V6 ca) 1 0) := hw_17
        have q_r_17 := hw_17
        refine lv_if_eq (tgt := 153) hx hb dX5_isAct_146 (by decide) (fun c_18 => ?_) (fun c_18 => ?_)
        · -- yes
          have k_18 : r_17.toInt = (0 : Int32).toInt := ci_eq c_18
          have kt_18 : ¬ (V6 ca) := two_z q_r_17 c_18
          refine lv_iconst (v := 0) hx hb dX5_isAct_153 (by decide) ?_
          exact W.zret (v := 0) (ty := .boolean) hx hb hr rfl (fun t ht hW => ⟨0, rfl, (show two (0 : Int32) (okP ka aa ba ca da ea) 1 0 from (Or.inr ⟨rfl, fun h9 => by have h8 := (okP_2 sv_1).mp h9; omega⟩)), ht⟩) (by intro q hq; cases hq) dX5_isAct_154
        · -- no
          have k_18 : ¬ r_17.toInt = (0 : Int32).toInt := ci_ne c_18
          have kt_18 : V6 ca := two_nz q_r_17 c_18
          refine lv_iconst (v := 1) hx hb dX5_isAct_149 (by decide) ?_
          refine lv_goto (tgt := 154) hx hb dX5_isAct_150 (by decide) ?_
          exact W.zret (v := 1) (ty := .boolean) hx hb hr rfl (fun t ht hW => ⟨1, rfl, (show two (1 : Int32) (okP ka aa ba ca da ea) 1 0 from (Or.inl ⟨rfl, (okP_2 sv_1).mpr (by omega)⟩)), ht⟩) (by intro q hq; cases hq) dX5_isAct_154
  · -- case 3
    refine lv_tableIn (tgt := 128) (off := 127) hx hb dX5_isAct_1 (by omega) (by omega) (by rw [sv_1]; rfl) (by decide) ?_
    refine lv_iload_n hx hb dX5_isAct_128 rfl (lv_at hl 1 rfl) ?_
    refine vp_callSi (va_runS (As := [.int aa]) (rest := []) ⟨hx, hb, hml, hown, hts⟩ (s_X5_isName l aa) (va_cwS 1 hts h_X5_isAct_X5_isName_115 rfl rfl rfl (by decide +kernel) ⟨Nat.le_of_ble_eq_true rfl, Nat.le_of_ble_eq_true rfl⟩) ⟨fun _ _ _ _ q => q, fun _ _ _ => ⟨rfl, trivial⟩⟩ rfl rfl hl.1 rfl (lv_room (Nat.le_of_ble_eq_true rfl)) dX5_isAct_129 ⟨Nat.le_of_ble_eq_true rfl, Nat.le_of_ble_eq_true rfl⟩).run (fun r_19 hw_19 => ?_)
    replace hw_19 : (two r_19 (V6 aa) 1 0) := hw_19
    have q_r_19 := hw_19
    refine lv_if_eq (tgt := 153) hx hb dX5_isAct_132 (by decide) (fun c_20 => ?_) (fun c_20 => ?_)
    · -- yes
      have k_20 : r_19.toInt = (0 : Int32).toInt := ci_eq c_20
      have kt_20 : ¬ (V6 aa) := two_z q_r_19 c_20
      refine lv_iconst (v := 0) hx hb dX5_isAct_153 (by decide) ?_
      exact W.zret (v := 0) (ty := .boolean) hx hb hr rfl (fun t ht hW => ⟨0, rfl, (show two (0 : Int32) (okP ka aa ba ca da ea) 1 0 from (Or.inr ⟨rfl, fun h9 => by have h8 := (okP_3 sv_1).mp h9; omega⟩)), ht⟩) (by intro q hq; cases hq) dX5_isAct_154
    · -- no
      have k_20 : ¬ r_19.toInt = (0 : Int32).toInt := ci_ne c_20
      have kt_20 : V6 aa := two_nz q_r_19 c_20
      refine lv_iload_n hx hb dX5_isAct_135 rfl (lv_at hl 2 rfl) ?_
      refine vp_callSi (va_runS (As := [.int ba]) (rest := []) ⟨hx, hb, hml, hown, hts⟩ (s_X5_isName l ba) (va_cwS 1 hts h_X5_isAct_X5_isName_115 rfl rfl rfl (by decide +kernel) ⟨Nat.le_of_ble_eq_true rfl, Nat.le_of_ble_eq_true rfl⟩) ⟨fun _ _ _ _ q => q, fun _ _ _ => ⟨rfl, trivial⟩⟩ rfl rfl hl.1 rfl (lv_room (Nat.le_of_ble_eq_true rfl)) dX5_isAct_136 ⟨Nat.le_of_ble_eq_true rfl, Nat.le_of_ble_eq_true rfl⟩).run (fun r_21 hw_21 => ?_)
      replace hw_21 : (two r_21 (V6 ba) 1 0) := hw_21
      have q_r_21 := hw_21
      refine lv_if_eq (tgt := 153) hx hb dX5_isAct_139 (by decide) (fun c_22 => ?_) (fun c_22 => ?_)
      · -- yes
        have k_22 : r_21.toInt = (0 : Int32).toInt := ci_eq c_22
        have kt_22 : ¬ (V6 ba) := two_z q_r_21 c_22
        refine lv_iconst (v := 0) hx hb dX5_isAct_153 (by decide) ?_
        exact W.zret (v := 0) (ty := .boolean) hx hb hr rfl (fun t ht hW => ⟨0, rfl, (show two (0 : Int32) (okP ka aa ba ca da ea) 1 0 from (Or.inr ⟨rfl, fun h9 => by have h8 := (okP_3 sv_1).mp h9; omega⟩)), ht⟩) (by intro q hq; cases hq) dX5_isAct_154
      · -- no
        have k_22 : ¬ r_21.toInt = (0 : Int32).toInt := ci_ne c_22
        have kt_22 : V6 ba := two_nz q_r_21 c_22
        refine lv_iload_n hx hb dX5_isAct_142 rfl (lv_at hl 3 rfl) ?_
        refine vp_callSi (va_runS (As := [.int ca]) (rest := []) ⟨hx, hb, hml, hown, hts⟩ (s_X5_isName l ca) (va_cwS 1 hts h_X5_isAct_X5_isName_115 rfl rfl rfl (by decide +kernel) ⟨Nat.le_of_ble_eq_true rfl, Nat.le_of_ble_eq_true rfl⟩) ⟨fun _ _ _ _ q => q, fun _ _ _ => ⟨rfl, trivial⟩⟩ rfl rfl hl.1 rfl (lv_room (Nat.le_of_ble_eq_true rfl)) dX5_isAct_143 ⟨Nat.le_of_ble_eq_true rfl, Nat.le_of_ble_eq_true rfl⟩).run (fun r_23 hw_23 => ?_)
        replace hw_23 : (two r_23 (V6 ca) 1 0) := hw_23
        have q_r_23 := hw_23
        refine lv_if_eq (tgt := 153) hx hb dX5_isAct_146 (by decide) (fun c_24 => ?_) (fun c_24 => ?_)
        · -- yes
          have k_24 : r_23.toInt = (0 : Int32).toInt := ci_eq c_24
          have kt_24 : ¬ (V6 ca) := two_z q_r_23 c_24
          refine lv_iconst (v := 0) hx hb dX5_isAct_153 (by decide) ?_
          exact W.zret (v := 0) (ty := .boolean) hx hb hr rfl (fun t ht hW => ⟨0, rfl, (show two (0 : Int32) (okP ka aa ba ca da ea) 1 0 from (Or.inr ⟨rfl, fun h9 => by have h8 := (okP_3 sv_1).mp h9; omega⟩)), ht⟩) (by intro q hq; cases hq) dX5_isAct_154
        · -- no
          have k_24 : ¬ r_23.toInt = (0 : Int32).toInt := ci_ne c_24
          have kt_24 : V6 ca := two_nz q_r_23 c_24
          refine lv_iconst (v := 1) hx hb dX5_isAct_149 (by decide) ?_
          refine lv_goto (tgt := 154) hx hb dX5_isAct_150 (by decide) ?_
          exact W.zret (v := 1) (ty := .boolean) hx hb hr rfl (fun t ht hW => ⟨1, rfl, (show two (1 : Int32) (okP ka aa ba ca da ea) 1 0 from (Or.inl ⟨rfl, (okP_3 sv_1).mpr (by omega)⟩)), ht⟩) (by intro q hq; cases hq) dX5_isAct_154
  · -- case 4
    refine lv_tableIn (tgt := 155) (off := 154) hx hb dX5_isAct_1 (by omega) (by omega) (by rw [sv_1]; rfl) (by decide) ?_
    refine lv_iload_n hx hb dX5_isAct_155 rfl (lv_at hl 1 rfl) ?_
    refine vp_callSi (va_runS (As := [.int aa]) (rest := []) ⟨hx, hb, hml, hown, hts⟩ (s_X5_isName l aa) (va_cwS 1 hts h_X5_isAct_X5_isName_115 rfl rfl rfl (by decide +kernel) ⟨Nat.le_of_ble_eq_true rfl, Nat.le_of_ble_eq_true rfl⟩) ⟨fun _ _ _ _ q => q, fun _ _ _ => ⟨rfl, trivial⟩⟩ rfl rfl hl.1 rfl (lv_room (Nat.le_of_ble_eq_true rfl)) dX5_isAct_156 ⟨Nat.le_of_ble_eq_true rfl, Nat.le_of_ble_eq_true rfl⟩).run (fun r_25 hw_25 => ?_)
    replace hw_25 : (two r_25 (V6 aa) 1 0) := hw_25
    have q_r_25 := hw_25
    refine lv_if_eq (tgt := 180) hx hb dX5_isAct_159 (by decide) (fun c_26 => ?_) (fun c_26 => ?_)
    · -- yes
      have k_26 : r_25.toInt = (0 : Int32).toInt := ci_eq c_26
      have kt_26 : ¬ (V6 aa) := two_z q_r_25 c_26
      refine lv_iconst (v := 0) hx hb dX5_isAct_180 (by decide) ?_
      exact W.zret (v := 0) (ty := .boolean) hx hb hr rfl (fun t ht hW => ⟨0, rfl, (show two (0 : Int32) (okP ka aa ba ca da ea) 1 0 from (Or.inr ⟨rfl, fun h9 => by have h8 := (okP_4 sv_1).mp h9; omega⟩)), ht⟩) (by intro q hq; cases hq) dX5_isAct_181
    · -- no
      have k_26 : ¬ r_25.toInt = (0 : Int32).toInt := ci_ne c_26
      have kt_26 : V6 aa := two_nz q_r_25 c_26
      refine lv_iload_n hx hb dX5_isAct_162 rfl (lv_at hl 2 rfl) ?_
      refine vp_callSi (va_runS (As := [.int ba]) (rest := []) ⟨hx, hb, hml, hown, hts⟩ (s_X5_isLane l ba) (va_cwS 1 hts h_X5_isAct_X5_isLane_122 rfl rfl rfl (by decide +kernel) ⟨Nat.le_of_ble_eq_true rfl, Nat.le_of_ble_eq_true rfl⟩) ⟨fun _ _ _ _ q => q, fun _ _ _ => ⟨rfl, trivial⟩⟩ rfl rfl hl.1 rfl (lv_room (Nat.le_of_ble_eq_true rfl)) dX5_isAct_163 ⟨Nat.le_of_ble_eq_true rfl, Nat.le_of_ble_eq_true rfl⟩).run (fun r_27 hw_27 => ?_)
      replace hw_27 : (two r_27 (V3 ba) 1 0) := hw_27
      have q_r_27 := hw_27
      refine lv_if_eq (tgt := 180) hx hb dX5_isAct_166 (by decide) (fun c_28 => ?_) (fun c_28 => ?_)
      · -- yes
        have k_28 : r_27.toInt = (0 : Int32).toInt := ci_eq c_28
        have kt_28 : ¬ (V3 ba) := two_z q_r_27 c_28
        refine lv_iconst (v := 0) hx hb dX5_isAct_180 (by decide) ?_
        exact W.zret (v := 0) (ty := .boolean) hx hb hr rfl (fun t ht hW => ⟨0, rfl, (show two (0 : Int32) (okP ka aa ba ca da ea) 1 0 from (Or.inr ⟨rfl, fun h9 => by have h8 := (okP_4 sv_1).mp h9; omega⟩)), ht⟩) (by intro q hq; cases hq) dX5_isAct_181
      · -- no
        have k_28 : ¬ r_27.toInt = (0 : Int32).toInt := ci_ne c_28
        have kt_28 : V3 ba := two_nz q_r_27 c_28
        refine lv_iload_n hx hb dX5_isAct_169 rfl (lv_at hl 3 rfl) ?_
        refine vp_callSi (va_runS (As := [.int ca]) (rest := []) ⟨hx, hb, hml, hown, hts⟩ (s_X5_isName l ca) (va_cwS 1 hts h_X5_isAct_X5_isName_115 rfl rfl rfl (by decide +kernel) ⟨Nat.le_of_ble_eq_true rfl, Nat.le_of_ble_eq_true rfl⟩) ⟨fun _ _ _ _ q => q, fun _ _ _ => ⟨rfl, trivial⟩⟩ rfl rfl hl.1 rfl (lv_room (Nat.le_of_ble_eq_true rfl)) dX5_isAct_170 ⟨Nat.le_of_ble_eq_true rfl, Nat.le_of_ble_eq_true rfl⟩).run (fun r_29 hw_29 => ?_)
        replace hw_29 : (two r_29 (V6 ca) 1 0) := hw_29
        have q_r_29 := hw_29
        refine lv_if_eq (tgt := 180) hx hb dX5_isAct_173 (by decide) (fun c_30 => ?_) (fun c_30 => ?_)
        · -- yes
          have k_30 : r_29.toInt = (0 : Int32).toInt := ci_eq c_30
          have kt_30 : ¬ (V6 ca) := two_z q_r_29 c_30
          refine lv_iconst (v := 0) hx hb dX5_isAct_180 (by decide) ?_
          exact W.zret (v := 0) (ty := .boolean) hx hb hr rfl (fun t ht hW => ⟨0, rfl, (show two (0 : Int32) (okP ka aa ba ca da ea) 1 0 from (Or.inr ⟨rfl, fun h9 => by have h8 := (okP_4 sv_1).mp h9; omega⟩)), ht⟩) (by intro q hq; cases hq) dX5_isAct_181
        · -- no
          have k_30 : ¬ r_29.toInt = (0 : Int32).toInt := ci_ne c_30
          have kt_30 : V6 ca := two_nz q_r_29 c_30
          refine lv_iconst (v := 1) hx hb dX5_isAct_176 (by decide) ?_
          refine lv_goto (tgt := 181) hx hb dX5_isAct_177 (by decide) ?_
          exact W.zret (v := 1) (ty := .boolean) hx hb hr rfl (fun t ht hW => ⟨1, rfl, (show two (1 : Int32) (okP ka aa ba ca da ea) 1 0 from (Or.inl ⟨rfl, (okP_4 sv_1).mpr (by omega)⟩)), ht⟩) (by intro q hq; cases hq) dX5_isAct_181
  · -- case 5
    refine lv_tableIn (tgt := 182) (off := 181) hx hb dX5_isAct_1 (by omega) (by omega) (by rw [sv_1]; rfl) (by decide) ?_
    refine lv_iload_n hx hb dX5_isAct_182 rfl (lv_at hl 1 rfl) ?_
    refine vp_callSi (va_runS (As := [.int aa]) (rest := []) ⟨hx, hb, hml, hown, hts⟩ (s_X5_isName l aa) (va_cwS 1 hts h_X5_isAct_X5_isName_115 rfl rfl rfl (by decide +kernel) ⟨Nat.le_of_ble_eq_true rfl, Nat.le_of_ble_eq_true rfl⟩) ⟨fun _ _ _ _ q => q, fun _ _ _ => ⟨rfl, trivial⟩⟩ rfl rfl hl.1 rfl (lv_room (Nat.le_of_ble_eq_true rfl)) dX5_isAct_183 ⟨Nat.le_of_ble_eq_true rfl, Nat.le_of_ble_eq_true rfl⟩).run (fun r_31 hw_31 => ?_)
    replace hw_31 : (two r_31 (V6 aa) 1 0) := hw_31
    have q_r_31 := hw_31
    rcases q_r_31 with ⟨rfl, k_32⟩ | ⟨rfl, k_32⟩
    · -- answer 1
      exact W.zret (v := 1) (ty := .boolean) hx hb hr rfl (fun t ht hW => ⟨1, rfl, (show two (1 : Int32) (okP ka aa ba ca da ea) 1 0 from (Or.inl ⟨rfl, (okP_5 sv_1).mpr (by omega)⟩)), ht⟩) (by intro q hq; cases hq) dX5_isAct_186
    · -- answer 0
      exact W.zret (v := 0) (ty := .boolean) hx hb hr rfl (fun t ht hW => ⟨0, rfl, (show two (0 : Int32) (okP ka aa ba ca da ea) 1 0 from (Or.inr ⟨rfl, fun h9 => by have h8 := (okP_5 sv_1).mp h9; omega⟩)), ht⟩) (by intro q hq; cases hq) dX5_isAct_186
  · -- case 6
    refine lv_tableIn (tgt := 187) (off := 186) hx hb dX5_isAct_1 (by omega) (by omega) (by rw [sv_1]; rfl) (by decide) ?_
    refine lv_iload_n hx hb dX5_isAct_187 rfl (lv_at hl 1 rfl) ?_
    refine vp_callSi (va_runS (As := [.int aa]) (rest := []) ⟨hx, hb, hml, hown, hts⟩ (s_X5_isName l aa) (va_cwS 1 hts h_X5_isAct_X5_isName_115 rfl rfl rfl (by decide +kernel) ⟨Nat.le_of_ble_eq_true rfl, Nat.le_of_ble_eq_true rfl⟩) ⟨fun _ _ _ _ q => q, fun _ _ _ => ⟨rfl, trivial⟩⟩ rfl rfl hl.1 rfl (lv_room (Nat.le_of_ble_eq_true rfl)) dX5_isAct_188 ⟨Nat.le_of_ble_eq_true rfl, Nat.le_of_ble_eq_true rfl⟩).run (fun r_33 hw_33 => ?_)
    replace hw_33 : (two r_33 (V6 aa) 1 0) := hw_33
    have q_r_33 := hw_33
    refine lv_if_eq (tgt := 205) hx hb dX5_isAct_191 (by decide) (fun c_34 => ?_) (fun c_34 => ?_)
    · -- yes
      have k_34 : r_33.toInt = (0 : Int32).toInt := ci_eq c_34
      have kt_34 : ¬ (V6 aa) := two_z q_r_33 c_34
      refine lv_iconst (v := 0) hx hb dX5_isAct_205 (by decide) ?_
      exact W.zret (v := 0) (ty := .boolean) hx hb hr rfl (fun t ht hW => ⟨0, rfl, (show two (0 : Int32) (okP ka aa ba ca da ea) 1 0 from (Or.inr ⟨rfl, fun h9 => by have h8 := (okP_6 sv_1).mp h9; omega⟩)), ht⟩) (by intro q hq; cases hq) dX5_isAct_206
    · -- no
      have k_34 : ¬ r_33.toInt = (0 : Int32).toInt := ci_ne c_34
      have kt_34 : V6 aa := two_nz q_r_33 c_34
      refine lv_iload_n hx hb dX5_isAct_194 rfl (lv_at hl 2 rfl) ?_
      refine vp_callSi (va_runS (As := [.int ba]) (rest := []) ⟨hx, hb, hml, hown, hts⟩ (s_X5_isName l ba) (va_cwS 1 hts h_X5_isAct_X5_isName_115 rfl rfl rfl (by decide +kernel) ⟨Nat.le_of_ble_eq_true rfl, Nat.le_of_ble_eq_true rfl⟩) ⟨fun _ _ _ _ q => q, fun _ _ _ => ⟨rfl, trivial⟩⟩ rfl rfl hl.1 rfl (lv_room (Nat.le_of_ble_eq_true rfl)) dX5_isAct_195 ⟨Nat.le_of_ble_eq_true rfl, Nat.le_of_ble_eq_true rfl⟩).run (fun r_35 hw_35 => ?_)
      replace hw_35 : (two r_35 (V6 ba) 1 0) := hw_35
      have q_r_35 := hw_35
      refine lv_if_eq (tgt := 205) hx hb dX5_isAct_198 (by decide) (fun c_36 => ?_) (fun c_36 => ?_)
      · -- yes
        have k_36 : r_35.toInt = (0 : Int32).toInt := ci_eq c_36
        have kt_36 : ¬ (V6 ba) := two_z q_r_35 c_36
        refine lv_iconst (v := 0) hx hb dX5_isAct_205 (by decide) ?_
        exact W.zret (v := 0) (ty := .boolean) hx hb hr rfl (fun t ht hW => ⟨0, rfl, (show two (0 : Int32) (okP ka aa ba ca da ea) 1 0 from (Or.inr ⟨rfl, fun h9 => by have h8 := (okP_6 sv_1).mp h9; omega⟩)), ht⟩) (by intro q hq; cases hq) dX5_isAct_206
      · -- no
        have k_36 : ¬ r_35.toInt = (0 : Int32).toInt := ci_ne c_36
        have kt_36 : V6 ba := two_nz q_r_35 c_36
        refine lv_iconst (v := 1) hx hb dX5_isAct_201 (by decide) ?_
        refine lv_goto (tgt := 206) hx hb dX5_isAct_202 (by decide) ?_
        exact W.zret (v := 1) (ty := .boolean) hx hb hr rfl (fun t ht hW => ⟨1, rfl, (show two (1 : Int32) (okP ka aa ba ca da ea) 1 0 from (Or.inl ⟨rfl, (okP_6 sv_1).mpr (by omega)⟩)), ht⟩) (by intro q hq; cases hq) dX5_isAct_206
  · -- case 7
    refine lv_tableIn (tgt := 128) (off := 127) hx hb dX5_isAct_1 (by omega) (by omega) (by rw [sv_1]; rfl) (by decide) ?_
    refine lv_iload_n hx hb dX5_isAct_128 rfl (lv_at hl 1 rfl) ?_
    refine vp_callSi (va_runS (As := [.int aa]) (rest := []) ⟨hx, hb, hml, hown, hts⟩ (s_X5_isName l aa) (va_cwS 1 hts h_X5_isAct_X5_isName_115 rfl rfl rfl (by decide +kernel) ⟨Nat.le_of_ble_eq_true rfl, Nat.le_of_ble_eq_true rfl⟩) ⟨fun _ _ _ _ q => q, fun _ _ _ => ⟨rfl, trivial⟩⟩ rfl rfl hl.1 rfl (lv_room (Nat.le_of_ble_eq_true rfl)) dX5_isAct_129 ⟨Nat.le_of_ble_eq_true rfl, Nat.le_of_ble_eq_true rfl⟩).run (fun r_37 hw_37 => ?_)
    replace hw_37 : (two r_37 (V6 aa) 1 0) := hw_37
    have q_r_37 := hw_37
    refine lv_if_eq (tgt := 153) hx hb dX5_isAct_132 (by decide) (fun c_38 => ?_) (fun c_38 => ?_)
    · -- yes
      have k_38 : r_37.toInt = (0 : Int32).toInt := ci_eq c_38
      have kt_38 : ¬ (V6 aa) := two_z q_r_37 c_38
      refine lv_iconst (v := 0) hx hb dX5_isAct_153 (by decide) ?_
      exact W.zret (v := 0) (ty := .boolean) hx hb hr rfl (fun t ht hW => ⟨0, rfl, (show two (0 : Int32) (okP ka aa ba ca da ea) 1 0 from (Or.inr ⟨rfl, fun h9 => by have h8 := (okP_7 sv_1).mp h9; omega⟩)), ht⟩) (by intro q hq; cases hq) dX5_isAct_154
    · -- no
      have k_38 : ¬ r_37.toInt = (0 : Int32).toInt := ci_ne c_38
      have kt_38 : V6 aa := two_nz q_r_37 c_38
      refine lv_iload_n hx hb dX5_isAct_135 rfl (lv_at hl 2 rfl) ?_
      refine vp_callSi (va_runS (As := [.int ba]) (rest := []) ⟨hx, hb, hml, hown, hts⟩ (s_X5_isName l ba) (va_cwS 1 hts h_X5_isAct_X5_isName_115 rfl rfl rfl (by decide +kernel) ⟨Nat.le_of_ble_eq_true rfl, Nat.le_of_ble_eq_true rfl⟩) ⟨fun _ _ _ _ q => q, fun _ _ _ => ⟨rfl, trivial⟩⟩ rfl rfl hl.1 rfl (lv_room (Nat.le_of_ble_eq_true rfl)) dX5_isAct_136 ⟨Nat.le_of_ble_eq_true rfl, Nat.le_of_ble_eq_true rfl⟩).run (fun r_39 hw_39 => ?_)
      replace hw_39 : (two r_39 (V6 ba) 1 0) := hw_39
      have q_r_39 := hw_39
      refine lv_if_eq (tgt := 153) hx hb dX5_isAct_139 (by decide) (fun c_40 => ?_) (fun c_40 => ?_)
      · -- yes
        have k_40 : r_39.toInt = (0 : Int32).toInt := ci_eq c_40
        have kt_40 : ¬ (V6 ba) := two_z q_r_39 c_40
        refine lv_iconst (v := 0) hx hb dX5_isAct_153 (by decide) ?_
        exact W.zret (v := 0) (ty := .boolean) hx hb hr rfl (fun t ht hW => ⟨0, rfl, (show two (0 : Int32) (okP ka aa ba ca da ea) 1 0 from (Or.inr ⟨rfl, fun h9 => by have h8 := (okP_7 sv_1).mp h9; omega⟩)), ht⟩) (by intro q hq; cases hq) dX5_isAct_154
      · -- no
        have k_40 : ¬ r_39.toInt = (0 : Int32).toInt := ci_ne c_40
        have kt_40 : V6 ba := two_nz q_r_39 c_40
        refine lv_iload_n hx hb dX5_isAct_142 rfl (lv_at hl 3 rfl) ?_
        refine vp_callSi (va_runS (As := [.int ca]) (rest := []) ⟨hx, hb, hml, hown, hts⟩ (s_X5_isName l ca) (va_cwS 1 hts h_X5_isAct_X5_isName_115 rfl rfl rfl (by decide +kernel) ⟨Nat.le_of_ble_eq_true rfl, Nat.le_of_ble_eq_true rfl⟩) ⟨fun _ _ _ _ q => q, fun _ _ _ => ⟨rfl, trivial⟩⟩ rfl rfl hl.1 rfl (lv_room (Nat.le_of_ble_eq_true rfl)) dX5_isAct_143 ⟨Nat.le_of_ble_eq_true rfl, Nat.le_of_ble_eq_true rfl⟩).run (fun r_41 hw_41 => ?_)
        replace hw_41 : (two r_41 (V6 ca) 1 0) := hw_41
        have q_r_41 := hw_41
        refine lv_if_eq (tgt := 153) hx hb dX5_isAct_146 (by decide) (fun c_42 => ?_) (fun c_42 => ?_)
        · -- yes
          have k_42 : r_41.toInt = (0 : Int32).toInt := ci_eq c_42
          have kt_42 : ¬ (V6 ca) := two_z q_r_41 c_42
          refine lv_iconst (v := 0) hx hb dX5_isAct_153 (by decide) ?_
          exact W.zret (v := 0) (ty := .boolean) hx hb hr rfl (fun t ht hW => ⟨0, rfl, (show two (0 : Int32) (okP ka aa ba ca da ea) 1 0 from (Or.inr ⟨rfl, fun h9 => by have h8 := (okP_7 sv_1).mp h9; omega⟩)), ht⟩) (by intro q hq; cases hq) dX5_isAct_154
        · -- no
          have k_42 : ¬ r_41.toInt = (0 : Int32).toInt := ci_ne c_42
          have kt_42 : V6 ca := two_nz q_r_41 c_42
          refine lv_iconst (v := 1) hx hb dX5_isAct_149 (by decide) ?_
          refine lv_goto (tgt := 154) hx hb dX5_isAct_150 (by decide) ?_
          exact W.zret (v := 1) (ty := .boolean) hx hb hr rfl (fun t ht hW => ⟨1, rfl, (show two (1 : Int32) (okP ka aa ba ca da ea) 1 0 from (Or.inl ⟨rfl, (okP_7 sv_1).mpr (by omega)⟩)), ht⟩) (by intro q hq; cases hq) dX5_isAct_154
  · -- case 8
    refine lv_tableIn (tgt := 187) (off := 186) hx hb dX5_isAct_1 (by omega) (by omega) (by rw [sv_1]; rfl) (by decide) ?_
    refine lv_iload_n hx hb dX5_isAct_187 rfl (lv_at hl 1 rfl) ?_
    refine vp_callSi (va_runS (As := [.int aa]) (rest := []) ⟨hx, hb, hml, hown, hts⟩ (s_X5_isName l aa) (va_cwS 1 hts h_X5_isAct_X5_isName_115 rfl rfl rfl (by decide +kernel) ⟨Nat.le_of_ble_eq_true rfl, Nat.le_of_ble_eq_true rfl⟩) ⟨fun _ _ _ _ q => q, fun _ _ _ => ⟨rfl, trivial⟩⟩ rfl rfl hl.1 rfl (lv_room (Nat.le_of_ble_eq_true rfl)) dX5_isAct_188 ⟨Nat.le_of_ble_eq_true rfl, Nat.le_of_ble_eq_true rfl⟩).run (fun r_43 hw_43 => ?_)
    replace hw_43 : (two r_43 (V6 aa) 1 0) := hw_43
    have q_r_43 := hw_43
    refine lv_if_eq (tgt := 205) hx hb dX5_isAct_191 (by decide) (fun c_44 => ?_) (fun c_44 => ?_)
    · -- yes
      have k_44 : r_43.toInt = (0 : Int32).toInt := ci_eq c_44
      have kt_44 : ¬ (V6 aa) := two_z q_r_43 c_44
      refine lv_iconst (v := 0) hx hb dX5_isAct_205 (by decide) ?_
      exact W.zret (v := 0) (ty := .boolean) hx hb hr rfl (fun t ht hW => ⟨0, rfl, (show two (0 : Int32) (okP ka aa ba ca da ea) 1 0 from (Or.inr ⟨rfl, fun h9 => by have h8 := (okP_8 sv_1).mp h9; omega⟩)), ht⟩) (by intro q hq; cases hq) dX5_isAct_206
    · -- no
      have k_44 : ¬ r_43.toInt = (0 : Int32).toInt := ci_ne c_44
      have kt_44 : V6 aa := two_nz q_r_43 c_44
      refine lv_iload_n hx hb dX5_isAct_194 rfl (lv_at hl 2 rfl) ?_
      refine vp_callSi (va_runS (As := [.int ba]) (rest := []) ⟨hx, hb, hml, hown, hts⟩ (s_X5_isName l ba) (va_cwS 1 hts h_X5_isAct_X5_isName_115 rfl rfl rfl (by decide +kernel) ⟨Nat.le_of_ble_eq_true rfl, Nat.le_of_ble_eq_true rfl⟩) ⟨fun _ _ _ _ q => q, fun _ _ _ => ⟨rfl, trivial⟩⟩ rfl rfl hl.1 rfl (lv_room (Nat.le_of_ble_eq_true rfl)) dX5_isAct_195 ⟨Nat.le_of_ble_eq_true rfl, Nat.le_of_ble_eq_true rfl⟩).run (fun r_45 hw_45 => ?_)
      replace hw_45 : (two r_45 (V6 ba) 1 0) := hw_45
      have q_r_45 := hw_45
      refine lv_if_eq (tgt := 205) hx hb dX5_isAct_198 (by decide) (fun c_46 => ?_) (fun c_46 => ?_)
      · -- yes
        have k_46 : r_45.toInt = (0 : Int32).toInt := ci_eq c_46
        have kt_46 : ¬ (V6 ba) := two_z q_r_45 c_46
        refine lv_iconst (v := 0) hx hb dX5_isAct_205 (by decide) ?_
        exact W.zret (v := 0) (ty := .boolean) hx hb hr rfl (fun t ht hW => ⟨0, rfl, (show two (0 : Int32) (okP ka aa ba ca da ea) 1 0 from (Or.inr ⟨rfl, fun h9 => by have h8 := (okP_8 sv_1).mp h9; omega⟩)), ht⟩) (by intro q hq; cases hq) dX5_isAct_206
      · -- no
        have k_46 : ¬ r_45.toInt = (0 : Int32).toInt := ci_ne c_46
        have kt_46 : V6 ba := two_nz q_r_45 c_46
        refine lv_iconst (v := 1) hx hb dX5_isAct_201 (by decide) ?_
        refine lv_goto (tgt := 206) hx hb dX5_isAct_202 (by decide) ?_
        exact W.zret (v := 1) (ty := .boolean) hx hb hr rfl (fun t ht hW => ⟨1, rfl, (show two (1 : Int32) (okP ka aa ba ca da ea) 1 0 from (Or.inl ⟨rfl, (okP_8 sv_1).mpr (by omega)⟩)), ht⟩) (by intro q hq; cases hq) dX5_isAct_206
  · -- case 9
    refine lv_tableIn (tgt := 207) (off := 206) hx hb dX5_isAct_1 (by omega) (by omega) (by rw [sv_1]; rfl) (by decide) ?_
    refine lv_iload_n hx hb dX5_isAct_207 rfl (lv_at hl 1 rfl) ?_
    refine vp_callSi (va_runS (As := [.int aa]) (rest := []) ⟨hx, hb, hml, hown, hts⟩ (s_X5_isName l aa) (va_cwS 1 hts h_X5_isAct_X5_isName_115 rfl rfl rfl (by decide +kernel) ⟨Nat.le_of_ble_eq_true rfl, Nat.le_of_ble_eq_true rfl⟩) ⟨fun _ _ _ _ q => q, fun _ _ _ => ⟨rfl, trivial⟩⟩ rfl rfl hl.1 rfl (lv_room (Nat.le_of_ble_eq_true rfl)) dX5_isAct_208 ⟨Nat.le_of_ble_eq_true rfl, Nat.le_of_ble_eq_true rfl⟩).run (fun r_47 hw_47 => ?_)
    replace hw_47 : (two r_47 (V6 aa) 1 0) := hw_47
    have q_r_47 := hw_47
    refine lv_if_eq (tgt := 240) hx hb dX5_isAct_211 (by decide) (fun c_48 => ?_) (fun c_48 => ?_)
    · -- yes
      have k_48 : r_47.toInt = (0 : Int32).toInt := ci_eq c_48
      have kt_48 : ¬ (V6 aa) := two_z q_r_47 c_48
      refine lv_iconst (v := 0) hx hb dX5_isAct_240 (by decide) ?_
      exact W.zret (v := 0) (ty := .boolean) hx hb hr rfl (fun t ht hW => ⟨0, rfl, (show two (0 : Int32) (okP ka aa ba ca da ea) 1 0 from (Or.inr ⟨rfl, fun h9 => by have h8 := (okP_9 sv_1).mp h9; omega⟩)), ht⟩) (by intro q hq; cases hq) dX5_isAct_241
    · -- no
      have k_48 : ¬ r_47.toInt = (0 : Int32).toInt := ci_ne c_48
      have kt_48 : V6 aa := two_nz q_r_47 c_48
      refine lv_iload_n hx hb dX5_isAct_214 rfl (lv_at hl 2 rfl) ?_
      refine vp_callSi (va_runS (As := [.int ba]) (rest := []) ⟨hx, hb, hml, hown, hts⟩ (s_X5_isLane l ba) (va_cwS 1 hts h_X5_isAct_X5_isLane_122 rfl rfl rfl (by decide +kernel) ⟨Nat.le_of_ble_eq_true rfl, Nat.le_of_ble_eq_true rfl⟩) ⟨fun _ _ _ _ q => q, fun _ _ _ => ⟨rfl, trivial⟩⟩ rfl rfl hl.1 rfl (lv_room (Nat.le_of_ble_eq_true rfl)) dX5_isAct_215 ⟨Nat.le_of_ble_eq_true rfl, Nat.le_of_ble_eq_true rfl⟩).run (fun r_49 hw_49 => ?_)
      replace hw_49 : (two r_49 (V3 ba) 1 0) := hw_49
      have q_r_49 := hw_49
      refine lv_if_eq (tgt := 240) hx hb dX5_isAct_218 (by decide) (fun c_50 => ?_) (fun c_50 => ?_)
      · -- yes
        have k_50 : r_49.toInt = (0 : Int32).toInt := ci_eq c_50
        have kt_50 : ¬ (V3 ba) := two_z q_r_49 c_50
        refine lv_iconst (v := 0) hx hb dX5_isAct_240 (by decide) ?_
        exact W.zret (v := 0) (ty := .boolean) hx hb hr rfl (fun t ht hW => ⟨0, rfl, (show two (0 : Int32) (okP ka aa ba ca da ea) 1 0 from (Or.inr ⟨rfl, fun h9 => by have h8 := (okP_9 sv_1).mp h9; omega⟩)), ht⟩) (by intro q hq; cases hq) dX5_isAct_241
      · -- no
        have k_50 : ¬ r_49.toInt = (0 : Int32).toInt := ci_ne c_50
        have kt_50 : V3 ba := two_nz q_r_49 c_50
        refine lv_iload_n hx hb dX5_isAct_221 rfl (lv_at hl 3 rfl) ?_
        refine vp_callSi (va_runS (As := [.int ca]) (rest := []) ⟨hx, hb, hml, hown, hts⟩ (s_X5_isName l ca) (va_cwS 1 hts h_X5_isAct_X5_isName_115 rfl rfl rfl (by decide +kernel) ⟨Nat.le_of_ble_eq_true rfl, Nat.le_of_ble_eq_true rfl⟩) ⟨fun _ _ _ _ q => q, fun _ _ _ => ⟨rfl, trivial⟩⟩ rfl rfl hl.1 rfl (lv_room (Nat.le_of_ble_eq_true rfl)) dX5_isAct_222 ⟨Nat.le_of_ble_eq_true rfl, Nat.le_of_ble_eq_true rfl⟩).run (fun r_51 hw_51 => ?_)
        replace hw_51 : (two r_51 (V6 ca) 1 0) := hw_51
        have q_r_51 := hw_51
        refine lv_if_eq (tgt := 240) hx hb dX5_isAct_225 (by decide) (fun c_52 => ?_) (fun c_52 => ?_)
        · -- yes
          have k_52 : r_51.toInt = (0 : Int32).toInt := ci_eq c_52
          have kt_52 : ¬ (V6 ca) := two_z q_r_51 c_52
          refine lv_iconst (v := 0) hx hb dX5_isAct_240 (by decide) ?_
          exact W.zret (v := 0) (ty := .boolean) hx hb hr rfl (fun t ht hW => ⟨0, rfl, (show two (0 : Int32) (okP ka aa ba ca da ea) 1 0 from (Or.inr ⟨rfl, fun h9 => by have h8 := (okP_9 sv_1).mp h9; omega⟩)), ht⟩) (by intro q hq; cases hq) dX5_isAct_241
        · -- no
          have k_52 : ¬ r_51.toInt = (0 : Int32).toInt := ci_ne c_52
          have kt_52 : V6 ca := two_nz q_r_51 c_52
          refine lv_iload hx hb dX5_isAct_228 (lv_at hl 4 rfl) ?_
          refine vp_callSi (va_runS (As := [.int da]) (rest := []) ⟨hx, hb, hml, hown, hts⟩ (s_X5_isName l da) (va_cwS 1 hts h_X5_isAct_X5_isName_115 rfl rfl rfl (by decide +kernel) ⟨Nat.le_of_ble_eq_true rfl, Nat.le_of_ble_eq_true rfl⟩) ⟨fun _ _ _ _ q => q, fun _ _ _ => ⟨rfl, trivial⟩⟩ rfl rfl hl.1 rfl (lv_room (Nat.le_of_ble_eq_true rfl)) dX5_isAct_230 ⟨Nat.le_of_ble_eq_true rfl, Nat.le_of_ble_eq_true rfl⟩).run (fun r_53 hw_53 => ?_)
          replace hw_53 : (two r_53 (V6 da) 1 0) := hw_53
          have q_r_53 := hw_53
          refine lv_if_eq (tgt := 240) hx hb dX5_isAct_233 (by decide) (fun c_54 => ?_) (fun c_54 => ?_)
          · -- yes
            have k_54 : r_53.toInt = (0 : Int32).toInt := ci_eq c_54
            have kt_54 : ¬ (V6 da) := two_z q_r_53 c_54
            refine lv_iconst (v := 0) hx hb dX5_isAct_240 (by decide) ?_
            exact W.zret (v := 0) (ty := .boolean) hx hb hr rfl (fun t ht hW => ⟨0, rfl, (show two (0 : Int32) (okP ka aa ba ca da ea) 1 0 from (Or.inr ⟨rfl, fun h9 => by have h8 := (okP_9 sv_1).mp h9; omega⟩)), ht⟩) (by intro q hq; cases hq) dX5_isAct_241
          · -- no
            have k_54 : ¬ r_53.toInt = (0 : Int32).toInt := ci_ne c_54
            have kt_54 : V6 da := two_nz q_r_53 c_54
            refine lv_iconst (v := 1) hx hb dX5_isAct_236 (by decide) ?_
            refine lv_goto (tgt := 241) hx hb dX5_isAct_237 (by decide) ?_
            exact W.zret (v := 1) (ty := .boolean) hx hb hr rfl (fun t ht hW => ⟨1, rfl, (show two (1 : Int32) (okP ka aa ba ca da ea) 1 0 from (Or.inl ⟨rfl, (okP_9 sv_1).mpr (by omega)⟩)), ht⟩) (by intro q hq; cases hq) dX5_isAct_241
  · -- case 10
    refine lv_tableIn (tgt := 242) (off := 241) hx hb dX5_isAct_1 (by omega) (by omega) (by rw [sv_1]; rfl) (by decide) ?_
    refine lv_iload_n hx hb dX5_isAct_242 rfl (lv_at hl 1 rfl) ?_
    refine vp_callSi (va_runS (As := [.int aa]) (rest := []) ⟨hx, hb, hml, hown, hts⟩ (s_X5_isName l aa) (va_cwS 1 hts h_X5_isAct_X5_isName_115 rfl rfl rfl (by decide +kernel) ⟨Nat.le_of_ble_eq_true rfl, Nat.le_of_ble_eq_true rfl⟩) ⟨fun _ _ _ _ q => q, fun _ _ _ => ⟨rfl, trivial⟩⟩ rfl rfl hl.1 rfl (lv_room (Nat.le_of_ble_eq_true rfl)) dX5_isAct_243 ⟨Nat.le_of_ble_eq_true rfl, Nat.le_of_ble_eq_true rfl⟩).run (fun r_55 hw_55 => ?_)
    replace hw_55 : (two r_55 (V6 aa) 1 0) := hw_55
    have q_r_55 := hw_55
    refine lv_if_eq (tgt := 275) hx hb dX5_isAct_246 (by decide) (fun c_56 => ?_) (fun c_56 => ?_)
    · -- yes
      have k_56 : r_55.toInt = (0 : Int32).toInt := ci_eq c_56
      have kt_56 : ¬ (V6 aa) := two_z q_r_55 c_56
      refine lv_iconst (v := 0) hx hb dX5_isAct_275 (by decide) ?_
      exact W.zret (v := 0) (ty := .boolean) hx hb hr rfl (fun t ht hW => ⟨0, rfl, (show two (0 : Int32) (okP ka aa ba ca da ea) 1 0 from (Or.inr ⟨rfl, fun h9 => by have h8 := (okP_10 sv_1).mp h9; omega⟩)), ht⟩) (by intro q hq; cases hq) dX5_isAct_276
    · -- no
      have k_56 : ¬ r_55.toInt = (0 : Int32).toInt := ci_ne c_56
      have kt_56 : V6 aa := two_nz q_r_55 c_56
      refine lv_iload_n hx hb dX5_isAct_249 rfl (lv_at hl 2 rfl) ?_
      refine vp_callSi (va_runS (As := [.int ba]) (rest := []) ⟨hx, hb, hml, hown, hts⟩ (s_X5_isName l ba) (va_cwS 1 hts h_X5_isAct_X5_isName_115 rfl rfl rfl (by decide +kernel) ⟨Nat.le_of_ble_eq_true rfl, Nat.le_of_ble_eq_true rfl⟩) ⟨fun _ _ _ _ q => q, fun _ _ _ => ⟨rfl, trivial⟩⟩ rfl rfl hl.1 rfl (lv_room (Nat.le_of_ble_eq_true rfl)) dX5_isAct_250 ⟨Nat.le_of_ble_eq_true rfl, Nat.le_of_ble_eq_true rfl⟩).run (fun r_57 hw_57 => ?_)
      replace hw_57 : (two r_57 (V6 ba) 1 0) := hw_57
      have q_r_57 := hw_57
      refine lv_if_eq (tgt := 275) hx hb dX5_isAct_253 (by decide) (fun c_58 => ?_) (fun c_58 => ?_)
      · -- yes
        have k_58 : r_57.toInt = (0 : Int32).toInt := ci_eq c_58
        have kt_58 : ¬ (V6 ba) := two_z q_r_57 c_58
        refine lv_iconst (v := 0) hx hb dX5_isAct_275 (by decide) ?_
        exact W.zret (v := 0) (ty := .boolean) hx hb hr rfl (fun t ht hW => ⟨0, rfl, (show two (0 : Int32) (okP ka aa ba ca da ea) 1 0 from (Or.inr ⟨rfl, fun h9 => by have h8 := (okP_10 sv_1).mp h9; omega⟩)), ht⟩) (by intro q hq; cases hq) dX5_isAct_276
      · -- no
        have k_58 : ¬ r_57.toInt = (0 : Int32).toInt := ci_ne c_58
        have kt_58 : V6 ba := two_nz q_r_57 c_58
        refine lv_iload_n hx hb dX5_isAct_256 rfl (lv_at hl 3 rfl) ?_
        refine vp_callSi (va_runS (As := [.int ca]) (rest := []) ⟨hx, hb, hml, hown, hts⟩ (s_X5_isLane l ca) (va_cwS 1 hts h_X5_isAct_X5_isLane_122 rfl rfl rfl (by decide +kernel) ⟨Nat.le_of_ble_eq_true rfl, Nat.le_of_ble_eq_true rfl⟩) ⟨fun _ _ _ _ q => q, fun _ _ _ => ⟨rfl, trivial⟩⟩ rfl rfl hl.1 rfl (lv_room (Nat.le_of_ble_eq_true rfl)) dX5_isAct_257 ⟨Nat.le_of_ble_eq_true rfl, Nat.le_of_ble_eq_true rfl⟩).run (fun r_59 hw_59 => ?_)
        replace hw_59 : (two r_59 (V3 ca) 1 0) := hw_59
        have q_r_59 := hw_59
        refine lv_if_eq (tgt := 275) hx hb dX5_isAct_260 (by decide) (fun c_60 => ?_) (fun c_60 => ?_)
        · -- yes
          have k_60 : r_59.toInt = (0 : Int32).toInt := ci_eq c_60
          have kt_60 : ¬ (V3 ca) := two_z q_r_59 c_60
          refine lv_iconst (v := 0) hx hb dX5_isAct_275 (by decide) ?_
          exact W.zret (v := 0) (ty := .boolean) hx hb hr rfl (fun t ht hW => ⟨0, rfl, (show two (0 : Int32) (okP ka aa ba ca da ea) 1 0 from (Or.inr ⟨rfl, fun h9 => by have h8 := (okP_10 sv_1).mp h9; omega⟩)), ht⟩) (by intro q hq; cases hq) dX5_isAct_276
        · -- no
          have k_60 : ¬ r_59.toInt = (0 : Int32).toInt := ci_ne c_60
          have kt_60 : V3 ca := two_nz q_r_59 c_60
          refine lv_iload hx hb dX5_isAct_263 (lv_at hl 4 rfl) ?_
          refine vp_callSi (va_runS (As := [.int da]) (rest := []) ⟨hx, hb, hml, hown, hts⟩ (s_X5_isName l da) (va_cwS 1 hts h_X5_isAct_X5_isName_115 rfl rfl rfl (by decide +kernel) ⟨Nat.le_of_ble_eq_true rfl, Nat.le_of_ble_eq_true rfl⟩) ⟨fun _ _ _ _ q => q, fun _ _ _ => ⟨rfl, trivial⟩⟩ rfl rfl hl.1 rfl (lv_room (Nat.le_of_ble_eq_true rfl)) dX5_isAct_265 ⟨Nat.le_of_ble_eq_true rfl, Nat.le_of_ble_eq_true rfl⟩).run (fun r_61 hw_61 => ?_)
          replace hw_61 : (two r_61 (V6 da) 1 0) := hw_61
          have q_r_61 := hw_61
          refine lv_if_eq (tgt := 275) hx hb dX5_isAct_268 (by decide) (fun c_62 => ?_) (fun c_62 => ?_)
          · -- yes
            have k_62 : r_61.toInt = (0 : Int32).toInt := ci_eq c_62
            have kt_62 : ¬ (V6 da) := two_z q_r_61 c_62
            refine lv_iconst (v := 0) hx hb dX5_isAct_275 (by decide) ?_
            exact W.zret (v := 0) (ty := .boolean) hx hb hr rfl (fun t ht hW => ⟨0, rfl, (show two (0 : Int32) (okP ka aa ba ca da ea) 1 0 from (Or.inr ⟨rfl, fun h9 => by have h8 := (okP_10 sv_1).mp h9; omega⟩)), ht⟩) (by intro q hq; cases hq) dX5_isAct_276
          · -- no
            have k_62 : ¬ r_61.toInt = (0 : Int32).toInt := ci_ne c_62
            have kt_62 : V6 da := two_nz q_r_61 c_62
            refine lv_iconst (v := 1) hx hb dX5_isAct_271 (by decide) ?_
            refine lv_goto (tgt := 276) hx hb dX5_isAct_272 (by decide) ?_
            exact W.zret (v := 1) (ty := .boolean) hx hb hr rfl (fun t ht hW => ⟨1, rfl, (show two (1 : Int32) (okP ka aa ba ca da ea) 1 0 from (Or.inl ⟨rfl, (okP_10 sv_1).mpr (by omega)⟩)), ht⟩) (by intro q hq; cases hq) dX5_isAct_276
  · -- case 11
    refine lv_tableIn (tgt := 277) (off := 276) hx hb dX5_isAct_1 (by omega) (by omega) (by rw [sv_1]; rfl) (by decide) ?_
    refine lv_iload_n hx hb dX5_isAct_277 rfl (lv_at hl 1 rfl) ?_
    refine vp_callSi (va_runS (As := [.int aa]) (rest := []) ⟨hx, hb, hml, hown, hts⟩ (s_X5_isName l aa) (va_cwS 1 hts h_X5_isAct_X5_isName_115 rfl rfl rfl (by decide +kernel) ⟨Nat.le_of_ble_eq_true rfl, Nat.le_of_ble_eq_true rfl⟩) ⟨fun _ _ _ _ q => q, fun _ _ _ => ⟨rfl, trivial⟩⟩ rfl rfl hl.1 rfl (lv_room (Nat.le_of_ble_eq_true rfl)) dX5_isAct_278 ⟨Nat.le_of_ble_eq_true rfl, Nat.le_of_ble_eq_true rfl⟩).run (fun r_63 hw_63 => ?_)
    replace hw_63 : (two r_63 (V6 aa) 1 0) := hw_63
    have q_r_63 := hw_63
    refine lv_if_eq (tgt := 318) hx hb dX5_isAct_281 (by decide) (fun c_64 => ?_) (fun c_64 => ?_)
    · -- yes
      have k_64 : r_63.toInt = (0 : Int32).toInt := ci_eq c_64
      have kt_64 : ¬ (V6 aa) := two_z q_r_63 c_64
      refine lv_iconst (v := 0) hx hb dX5_isAct_318 (by decide) ?_
      exact W.zret (v := 0) (ty := .boolean) hx hb hr rfl (fun t ht hW => ⟨0, rfl, (show two (0 : Int32) (okP ka aa ba ca da ea) 1 0 from (Or.inr ⟨rfl, fun h9 => by have h8 := (okP_11 sv_1).mp h9; omega⟩)), ht⟩) (by intro q hq; cases hq) dX5_isAct_319
    · -- no
      have k_64 : ¬ r_63.toInt = (0 : Int32).toInt := ci_ne c_64
      have kt_64 : V6 aa := two_nz q_r_63 c_64
      refine lv_iload_n hx hb dX5_isAct_284 rfl (lv_at hl 2 rfl) ?_
      refine vp_callSi (va_runS (As := [.int ba]) (rest := []) ⟨hx, hb, hml, hown, hts⟩ (s_X5_isName l ba) (va_cwS 1 hts h_X5_isAct_X5_isName_115 rfl rfl rfl (by decide +kernel) ⟨Nat.le_of_ble_eq_true rfl, Nat.le_of_ble_eq_true rfl⟩) ⟨fun _ _ _ _ q => q, fun _ _ _ => ⟨rfl, trivial⟩⟩ rfl rfl hl.1 rfl (lv_room (Nat.le_of_ble_eq_true rfl)) dX5_isAct_285 ⟨Nat.le_of_ble_eq_true rfl, Nat.le_of_ble_eq_true rfl⟩).run (fun r_65 hw_65 => ?_)
      replace hw_65 : (two r_65 (V6 ba) 1 0) := hw_65
      have q_r_65 := hw_65
      refine lv_if_eq (tgt := 318) hx hb dX5_isAct_288 (by decide) (fun c_66 => ?_) (fun c_66 => ?_)
      · -- yes
        have k_66 : r_65.toInt = (0 : Int32).toInt := ci_eq c_66
        have kt_66 : ¬ (V6 ba) := two_z q_r_65 c_66
        refine lv_iconst (v := 0) hx hb dX5_isAct_318 (by decide) ?_
        exact W.zret (v := 0) (ty := .boolean) hx hb hr rfl (fun t ht hW => ⟨0, rfl, (show two (0 : Int32) (okP ka aa ba ca da ea) 1 0 from (Or.inr ⟨rfl, fun h9 => by have h8 := (okP_11 sv_1).mp h9; omega⟩)), ht⟩) (by intro q hq; cases hq) dX5_isAct_319
      · -- no
        have k_66 : ¬ r_65.toInt = (0 : Int32).toInt := ci_ne c_66
        have kt_66 : V6 ba := two_nz q_r_65 c_66
        refine lv_iload_n hx hb dX5_isAct_291 rfl (lv_at hl 3 rfl) ?_
        refine vp_callSi (va_runS (As := [.int ca]) (rest := []) ⟨hx, hb, hml, hown, hts⟩ (s_X5_isName l ca) (va_cwS 1 hts h_X5_isAct_X5_isName_115 rfl rfl rfl (by decide +kernel) ⟨Nat.le_of_ble_eq_true rfl, Nat.le_of_ble_eq_true rfl⟩) ⟨fun _ _ _ _ q => q, fun _ _ _ => ⟨rfl, trivial⟩⟩ rfl rfl hl.1 rfl (lv_room (Nat.le_of_ble_eq_true rfl)) dX5_isAct_292 ⟨Nat.le_of_ble_eq_true rfl, Nat.le_of_ble_eq_true rfl⟩).run (fun r_67 hw_67 => ?_)
        replace hw_67 : (two r_67 (V6 ca) 1 0) := hw_67
        have q_r_67 := hw_67
        refine lv_if_eq (tgt := 318) hx hb dX5_isAct_295 (by decide) (fun c_68 => ?_) (fun c_68 => ?_)
        · -- yes
          have k_68 : r_67.toInt = (0 : Int32).toInt := ci_eq c_68
          have kt_68 : ¬ (V6 ca) := two_z q_r_67 c_68
          refine lv_iconst (v := 0) hx hb dX5_isAct_318 (by decide) ?_
          exact W.zret (v := 0) (ty := .boolean) hx hb hr rfl (fun t ht hW => ⟨0, rfl, (show two (0 : Int32) (okP ka aa ba ca da ea) 1 0 from (Or.inr ⟨rfl, fun h9 => by have h8 := (okP_11 sv_1).mp h9; omega⟩)), ht⟩) (by intro q hq; cases hq) dX5_isAct_319
        · -- no
          have k_68 : ¬ r_67.toInt = (0 : Int32).toInt := ci_ne c_68
          have kt_68 : V6 ca := two_nz q_r_67 c_68
          refine lv_iload hx hb dX5_isAct_298 (lv_at hl 4 rfl) ?_
          refine vp_callSi (va_runS (As := [.int da]) (rest := []) ⟨hx, hb, hml, hown, hts⟩ (s_X5_isName l da) (va_cwS 1 hts h_X5_isAct_X5_isName_115 rfl rfl rfl (by decide +kernel) ⟨Nat.le_of_ble_eq_true rfl, Nat.le_of_ble_eq_true rfl⟩) ⟨fun _ _ _ _ q => q, fun _ _ _ => ⟨rfl, trivial⟩⟩ rfl rfl hl.1 rfl (lv_room (Nat.le_of_ble_eq_true rfl)) dX5_isAct_300 ⟨Nat.le_of_ble_eq_true rfl, Nat.le_of_ble_eq_true rfl⟩).run (fun r_69 hw_69 => ?_)
          replace hw_69 : (two r_69 (V6 da) 1 0) := hw_69
          have q_r_69 := hw_69
          refine lv_if_eq (tgt := 318) hx hb dX5_isAct_303 (by decide) (fun c_70 => ?_) (fun c_70 => ?_)
          · -- yes
            have k_70 : r_69.toInt = (0 : Int32).toInt := ci_eq c_70
            have kt_70 : ¬ (V6 da) := two_z q_r_69 c_70
            refine lv_iconst (v := 0) hx hb dX5_isAct_318 (by decide) ?_
            exact W.zret (v := 0) (ty := .boolean) hx hb hr rfl (fun t ht hW => ⟨0, rfl, (show two (0 : Int32) (okP ka aa ba ca da ea) 1 0 from (Or.inr ⟨rfl, fun h9 => by have h8 := (okP_11 sv_1).mp h9; omega⟩)), ht⟩) (by intro q hq; cases hq) dX5_isAct_319
          · -- no
            have k_70 : ¬ r_69.toInt = (0 : Int32).toInt := ci_ne c_70
            have kt_70 : V6 da := two_nz q_r_69 c_70
            refine lv_iload hx hb dX5_isAct_306 (lv_at hl 5 rfl) ?_
            refine vp_callSi (va_runS (As := [.int ea]) (rest := []) ⟨hx, hb, hml, hown, hts⟩ (s_X5_isName l ea) (va_cwS 1 hts h_X5_isAct_X5_isName_115 rfl rfl rfl (by decide +kernel) ⟨Nat.le_of_ble_eq_true rfl, Nat.le_of_ble_eq_true rfl⟩) ⟨fun _ _ _ _ q => q, fun _ _ _ => ⟨rfl, trivial⟩⟩ rfl rfl hl.1 rfl (lv_room (Nat.le_of_ble_eq_true rfl)) dX5_isAct_308 ⟨Nat.le_of_ble_eq_true rfl, Nat.le_of_ble_eq_true rfl⟩).run (fun r_71 hw_71 => ?_)
            replace hw_71 : (two r_71 (V6 ea) 1 0) := hw_71
            have q_r_71 := hw_71
            refine lv_if_eq (tgt := 318) hx hb dX5_isAct_311 (by decide) (fun c_72 => ?_) (fun c_72 => ?_)
            · -- yes
              have k_72 : r_71.toInt = (0 : Int32).toInt := ci_eq c_72
              have kt_72 : ¬ (V6 ea) := two_z q_r_71 c_72
              refine lv_iconst (v := 0) hx hb dX5_isAct_318 (by decide) ?_
              exact W.zret (v := 0) (ty := .boolean) hx hb hr rfl (fun t ht hW => ⟨0, rfl, (show two (0 : Int32) (okP ka aa ba ca da ea) 1 0 from (Or.inr ⟨rfl, fun h9 => by have h8 := (okP_11 sv_1).mp h9; omega⟩)), ht⟩) (by intro q hq; cases hq) dX5_isAct_319
            · -- no
              have k_72 : ¬ r_71.toInt = (0 : Int32).toInt := ci_ne c_72
              have kt_72 : V6 ea := two_nz q_r_71 c_72
              refine lv_iconst (v := 1) hx hb dX5_isAct_314 (by decide) ?_
              refine lv_goto (tgt := 319) hx hb dX5_isAct_315 (by decide) ?_
              exact W.zret (v := 1) (ty := .boolean) hx hb hr rfl (fun t ht hW => ⟨1, rfl, (show two (1 : Int32) (okP ka aa ba ca da ea) 1 0 from (Or.inl ⟨rfl, (okP_11 sv_1).mpr (by omega)⟩)), ht⟩) (by intro q hq; cases hq) dX5_isAct_319
  · -- case 12
    refine lv_tableIn (tgt := 320) (off := 319) hx hb dX5_isAct_1 (by omega) (by omega) (by rw [sv_1]; rfl) (by decide) ?_
    refine lv_iload_n hx hb dX5_isAct_320 rfl (lv_at hl 1 rfl) ?_
    refine vp_callSi (va_runS (As := [.int aa]) (rest := []) ⟨hx, hb, hml, hown, hts⟩ (s_X5_isName l aa) (va_cwS 1 hts h_X5_isAct_X5_isName_115 rfl rfl rfl (by decide +kernel) ⟨Nat.le_of_ble_eq_true rfl, Nat.le_of_ble_eq_true rfl⟩) ⟨fun _ _ _ _ q => q, fun _ _ _ => ⟨rfl, trivial⟩⟩ rfl rfl hl.1 rfl (lv_room (Nat.le_of_ble_eq_true rfl)) dX5_isAct_321 ⟨Nat.le_of_ble_eq_true rfl, Nat.le_of_ble_eq_true rfl⟩).run (fun r_73 hw_73 => ?_)
    replace hw_73 : (two r_73 (V6 aa) 1 0) := hw_73
    have q_r_73 := hw_73
    refine lv_if_eq (tgt := 361) hx hb dX5_isAct_324 (by decide) (fun c_74 => ?_) (fun c_74 => ?_)
    · -- yes
      have k_74 : r_73.toInt = (0 : Int32).toInt := ci_eq c_74
      have kt_74 : ¬ (V6 aa) := two_z q_r_73 c_74
      refine lv_iconst (v := 0) hx hb dX5_isAct_361 (by decide) ?_
      exact W.zret (v := 0) (ty := .boolean) hx hb hr rfl (fun t ht hW => ⟨0, rfl, (show two (0 : Int32) (okP ka aa ba ca da ea) 1 0 from (Or.inr ⟨rfl, fun h9 => by have h8 := (okP_12 sv_1).mp h9; omega⟩)), ht⟩) (by intro q hq; cases hq) dX5_isAct_362
    · -- no
      have k_74 : ¬ r_73.toInt = (0 : Int32).toInt := ci_ne c_74
      have kt_74 : V6 aa := two_nz q_r_73 c_74
      refine lv_iload_n hx hb dX5_isAct_327 rfl (lv_at hl 2 rfl) ?_
      refine vp_callSi (va_runS (As := [.int ba]) (rest := []) ⟨hx, hb, hml, hown, hts⟩ (s_X5_isLane l ba) (va_cwS 1 hts h_X5_isAct_X5_isLane_122 rfl rfl rfl (by decide +kernel) ⟨Nat.le_of_ble_eq_true rfl, Nat.le_of_ble_eq_true rfl⟩) ⟨fun _ _ _ _ q => q, fun _ _ _ => ⟨rfl, trivial⟩⟩ rfl rfl hl.1 rfl (lv_room (Nat.le_of_ble_eq_true rfl)) dX5_isAct_328 ⟨Nat.le_of_ble_eq_true rfl, Nat.le_of_ble_eq_true rfl⟩).run (fun r_75 hw_75 => ?_)
      replace hw_75 : (two r_75 (V3 ba) 1 0) := hw_75
      have q_r_75 := hw_75
      refine lv_if_eq (tgt := 361) hx hb dX5_isAct_331 (by decide) (fun c_76 => ?_) (fun c_76 => ?_)
      · -- yes
        have k_76 : r_75.toInt = (0 : Int32).toInt := ci_eq c_76
        have kt_76 : ¬ (V3 ba) := two_z q_r_75 c_76
        refine lv_iconst (v := 0) hx hb dX5_isAct_361 (by decide) ?_
        exact W.zret (v := 0) (ty := .boolean) hx hb hr rfl (fun t ht hW => ⟨0, rfl, (show two (0 : Int32) (okP ka aa ba ca da ea) 1 0 from (Or.inr ⟨rfl, fun h9 => by have h8 := (okP_12 sv_1).mp h9; omega⟩)), ht⟩) (by intro q hq; cases hq) dX5_isAct_362
      · -- no
        have k_76 : ¬ r_75.toInt = (0 : Int32).toInt := ci_ne c_76
        have kt_76 : V3 ba := two_nz q_r_75 c_76
        refine lv_iload_n hx hb dX5_isAct_334 rfl (lv_at hl 3 rfl) ?_
        refine vp_callSi (va_runS (As := [.int ca]) (rest := []) ⟨hx, hb, hml, hown, hts⟩ (s_X5_isName l ca) (va_cwS 1 hts h_X5_isAct_X5_isName_115 rfl rfl rfl (by decide +kernel) ⟨Nat.le_of_ble_eq_true rfl, Nat.le_of_ble_eq_true rfl⟩) ⟨fun _ _ _ _ q => q, fun _ _ _ => ⟨rfl, trivial⟩⟩ rfl rfl hl.1 rfl (lv_room (Nat.le_of_ble_eq_true rfl)) dX5_isAct_335 ⟨Nat.le_of_ble_eq_true rfl, Nat.le_of_ble_eq_true rfl⟩).run (fun r_77 hw_77 => ?_)
        replace hw_77 : (two r_77 (V6 ca) 1 0) := hw_77
        have q_r_77 := hw_77
        refine lv_if_eq (tgt := 361) hx hb dX5_isAct_338 (by decide) (fun c_78 => ?_) (fun c_78 => ?_)
        · -- yes
          have k_78 : r_77.toInt = (0 : Int32).toInt := ci_eq c_78
          have kt_78 : ¬ (V6 ca) := two_z q_r_77 c_78
          refine lv_iconst (v := 0) hx hb dX5_isAct_361 (by decide) ?_
          exact W.zret (v := 0) (ty := .boolean) hx hb hr rfl (fun t ht hW => ⟨0, rfl, (show two (0 : Int32) (okP ka aa ba ca da ea) 1 0 from (Or.inr ⟨rfl, fun h9 => by have h8 := (okP_12 sv_1).mp h9; omega⟩)), ht⟩) (by intro q hq; cases hq) dX5_isAct_362
        · -- no
          have k_78 : ¬ r_77.toInt = (0 : Int32).toInt := ci_ne c_78
          have kt_78 : V6 ca := two_nz q_r_77 c_78
          refine lv_iload hx hb dX5_isAct_341 (lv_at hl 4 rfl) ?_
          refine vp_callSi (va_runS (As := [.int da]) (rest := []) ⟨hx, hb, hml, hown, hts⟩ (s_X5_isName l da) (va_cwS 1 hts h_X5_isAct_X5_isName_115 rfl rfl rfl (by decide +kernel) ⟨Nat.le_of_ble_eq_true rfl, Nat.le_of_ble_eq_true rfl⟩) ⟨fun _ _ _ _ q => q, fun _ _ _ => ⟨rfl, trivial⟩⟩ rfl rfl hl.1 rfl (lv_room (Nat.le_of_ble_eq_true rfl)) dX5_isAct_343 ⟨Nat.le_of_ble_eq_true rfl, Nat.le_of_ble_eq_true rfl⟩).run (fun r_79 hw_79 => ?_)
          replace hw_79 : (two r_79 (V6 da) 1 0) := hw_79
          have q_r_79 := hw_79
          refine lv_if_eq (tgt := 361) hx hb dX5_isAct_346 (by decide) (fun c_80 => ?_) (fun c_80 => ?_)
          · -- yes
            have k_80 : r_79.toInt = (0 : Int32).toInt := ci_eq c_80
            have kt_80 : ¬ (V6 da) := two_z q_r_79 c_80
            refine lv_iconst (v := 0) hx hb dX5_isAct_361 (by decide) ?_
            exact W.zret (v := 0) (ty := .boolean) hx hb hr rfl (fun t ht hW => ⟨0, rfl, (show two (0 : Int32) (okP ka aa ba ca da ea) 1 0 from (Or.inr ⟨rfl, fun h9 => by have h8 := (okP_12 sv_1).mp h9; omega⟩)), ht⟩) (by intro q hq; cases hq) dX5_isAct_362
          · -- no
            have k_80 : ¬ r_79.toInt = (0 : Int32).toInt := ci_ne c_80
            have kt_80 : V6 da := two_nz q_r_79 c_80
            refine lv_iload hx hb dX5_isAct_349 (lv_at hl 5 rfl) ?_
            refine vp_callSi (va_runS (As := [.int ea]) (rest := []) ⟨hx, hb, hml, hown, hts⟩ (s_X5_isName l ea) (va_cwS 1 hts h_X5_isAct_X5_isName_115 rfl rfl rfl (by decide +kernel) ⟨Nat.le_of_ble_eq_true rfl, Nat.le_of_ble_eq_true rfl⟩) ⟨fun _ _ _ _ q => q, fun _ _ _ => ⟨rfl, trivial⟩⟩ rfl rfl hl.1 rfl (lv_room (Nat.le_of_ble_eq_true rfl)) dX5_isAct_351 ⟨Nat.le_of_ble_eq_true rfl, Nat.le_of_ble_eq_true rfl⟩).run (fun r_81 hw_81 => ?_)
            replace hw_81 : (two r_81 (V6 ea) 1 0) := hw_81
            have q_r_81 := hw_81
            refine lv_if_eq (tgt := 361) hx hb dX5_isAct_354 (by decide) (fun c_82 => ?_) (fun c_82 => ?_)
            · -- yes
              have k_82 : r_81.toInt = (0 : Int32).toInt := ci_eq c_82
              have kt_82 : ¬ (V6 ea) := two_z q_r_81 c_82
              refine lv_iconst (v := 0) hx hb dX5_isAct_361 (by decide) ?_
              exact W.zret (v := 0) (ty := .boolean) hx hb hr rfl (fun t ht hW => ⟨0, rfl, (show two (0 : Int32) (okP ka aa ba ca da ea) 1 0 from (Or.inr ⟨rfl, fun h9 => by have h8 := (okP_12 sv_1).mp h9; omega⟩)), ht⟩) (by intro q hq; cases hq) dX5_isAct_362
            · -- no
              have k_82 : ¬ r_81.toInt = (0 : Int32).toInt := ci_ne c_82
              have kt_82 : V6 ea := two_nz q_r_81 c_82
              refine lv_iconst (v := 1) hx hb dX5_isAct_357 (by decide) ?_
              refine lv_goto (tgt := 362) hx hb dX5_isAct_358 (by decide) ?_
              exact W.zret (v := 1) (ty := .boolean) hx hb hr rfl (fun t ht hW => ⟨1, rfl, (show two (1 : Int32) (okP ka aa ba ca da ea) 1 0 from (Or.inl ⟨rfl, (okP_12 sv_1).mpr (by omega)⟩)), ht⟩) (by intro q hq; cases hq) dX5_isAct_362
  · -- case 13
    refine lv_tableIn (tgt := 187) (off := 186) hx hb dX5_isAct_1 (by omega) (by omega) (by rw [sv_1]; rfl) (by decide) ?_
    refine lv_iload_n hx hb dX5_isAct_187 rfl (lv_at hl 1 rfl) ?_
    refine vp_callSi (va_runS (As := [.int aa]) (rest := []) ⟨hx, hb, hml, hown, hts⟩ (s_X5_isName l aa) (va_cwS 1 hts h_X5_isAct_X5_isName_115 rfl rfl rfl (by decide +kernel) ⟨Nat.le_of_ble_eq_true rfl, Nat.le_of_ble_eq_true rfl⟩) ⟨fun _ _ _ _ q => q, fun _ _ _ => ⟨rfl, trivial⟩⟩ rfl rfl hl.1 rfl (lv_room (Nat.le_of_ble_eq_true rfl)) dX5_isAct_188 ⟨Nat.le_of_ble_eq_true rfl, Nat.le_of_ble_eq_true rfl⟩).run (fun r_83 hw_83 => ?_)
    replace hw_83 : (two r_83 (V6 aa) 1 0) := hw_83
    have q_r_83 := hw_83
    refine lv_if_eq (tgt := 205) hx hb dX5_isAct_191 (by decide) (fun c_84 => ?_) (fun c_84 => ?_)
    · -- yes
      have k_84 : r_83.toInt = (0 : Int32).toInt := ci_eq c_84
      have kt_84 : ¬ (V6 aa) := two_z q_r_83 c_84
      refine lv_iconst (v := 0) hx hb dX5_isAct_205 (by decide) ?_
      exact W.zret (v := 0) (ty := .boolean) hx hb hr rfl (fun t ht hW => ⟨0, rfl, (show two (0 : Int32) (okP ka aa ba ca da ea) 1 0 from (Or.inr ⟨rfl, fun h9 => by have h8 := (okP_13 sv_1).mp h9; omega⟩)), ht⟩) (by intro q hq; cases hq) dX5_isAct_206
    · -- no
      have k_84 : ¬ r_83.toInt = (0 : Int32).toInt := ci_ne c_84
      have kt_84 : V6 aa := two_nz q_r_83 c_84
      refine lv_iload_n hx hb dX5_isAct_194 rfl (lv_at hl 2 rfl) ?_
      refine vp_callSi (va_runS (As := [.int ba]) (rest := []) ⟨hx, hb, hml, hown, hts⟩ (s_X5_isName l ba) (va_cwS 1 hts h_X5_isAct_X5_isName_115 rfl rfl rfl (by decide +kernel) ⟨Nat.le_of_ble_eq_true rfl, Nat.le_of_ble_eq_true rfl⟩) ⟨fun _ _ _ _ q => q, fun _ _ _ => ⟨rfl, trivial⟩⟩ rfl rfl hl.1 rfl (lv_room (Nat.le_of_ble_eq_true rfl)) dX5_isAct_195 ⟨Nat.le_of_ble_eq_true rfl, Nat.le_of_ble_eq_true rfl⟩).run (fun r_85 hw_85 => ?_)
      replace hw_85 : (two r_85 (V6 ba) 1 0) := hw_85
      have q_r_85 := hw_85
      refine lv_if_eq (tgt := 205) hx hb dX5_isAct_198 (by decide) (fun c_86 => ?_) (fun c_86 => ?_)
      · -- yes
        have k_86 : r_85.toInt = (0 : Int32).toInt := ci_eq c_86
        have kt_86 : ¬ (V6 ba) := two_z q_r_85 c_86
        refine lv_iconst (v := 0) hx hb dX5_isAct_205 (by decide) ?_
        exact W.zret (v := 0) (ty := .boolean) hx hb hr rfl (fun t ht hW => ⟨0, rfl, (show two (0 : Int32) (okP ka aa ba ca da ea) 1 0 from (Or.inr ⟨rfl, fun h9 => by have h8 := (okP_13 sv_1).mp h9; omega⟩)), ht⟩) (by intro q hq; cases hq) dX5_isAct_206
      · -- no
        have k_86 : ¬ r_85.toInt = (0 : Int32).toInt := ci_ne c_86
        have kt_86 : V6 ba := two_nz q_r_85 c_86
        refine lv_iconst (v := 1) hx hb dX5_isAct_201 (by decide) ?_
        refine lv_goto (tgt := 206) hx hb dX5_isAct_202 (by decide) ?_
        exact W.zret (v := 1) (ty := .boolean) hx hb hr rfl (fun t ht hW => ⟨1, rfl, (show two (1 : Int32) (okP ka aa ba ca da ea) 1 0 from (Or.inl ⟨rfl, (okP_13 sv_1).mpr (by omega)⟩)), ht⟩) (by intro q hq; cases hq) dX5_isAct_206
  · -- case 14
    refine lv_tableIn (tgt := 363) (off := 362) hx hb dX5_isAct_1 (by omega) (by omega) (by rw [sv_1]; rfl) (by decide) ?_
    refine lv_iload_n hx hb dX5_isAct_363 rfl (lv_at hl 2 rfl) ?_
    refine lv_iconst (v := 1) hx hb dX5_isAct_364 (by decide) ?_
    refine lv_icmp_lt (tgt := 378) hx hb dX5_isAct_365 (by decide) (fun c_87 => ?_) (fun c_87 => ?_)
    · -- yes
      have k_87 : ba.toInt < (1 : Int32).toInt := ci_lt c_87
      refine lv_iconst (v := 0) hx hb dX5_isAct_378 (by decide) ?_
      exact W.zret (v := 0) (ty := .boolean) hx hb hr rfl (fun t ht hW => ⟨0, rfl, (show two (0 : Int32) (okP ka aa ba ca da ea) 1 0 from (Or.inr ⟨rfl, fun h9 => by have h8 := (okP_14 sv_1).mp h9; omega⟩)), ht⟩) (by intro q hq; cases hq) dX5_isAct_379
    · -- no
      have k_87 : (1 : Int32).toInt ≤ ba.toInt := ci_nlt c_87
      refine lv_iload_n hx hb dX5_isAct_368 rfl (lv_at hl 2 rfl) ?_
      refine lv_bipush (v := 10) hx hb dX5_isAct_369 (by decide) ?_
      refine lv_icmp_gt (tgt := 378) hx hb dX5_isAct_371 (by decide) (fun c_88 => ?_) (fun c_88 => ?_)
      · -- yes
        have k_88 : (10 : Int32).toInt < ba.toInt := ci_gt c_88
        refine lv_iconst (v := 0) hx hb dX5_isAct_378 (by decide) ?_
        exact W.zret (v := 0) (ty := .boolean) hx hb hr rfl (fun t ht hW => ⟨0, rfl, (show two (0 : Int32) (okP ka aa ba ca da ea) 1 0 from (Or.inr ⟨rfl, fun h9 => by have h8 := (okP_14 sv_1).mp h9; omega⟩)), ht⟩) (by intro q hq; cases hq) dX5_isAct_379
      · -- no
        have k_88 : ba.toInt ≤ (10 : Int32).toInt := ci_ngt c_88
        refine lv_iconst (v := 1) hx hb dX5_isAct_374 (by decide) ?_
        refine lv_goto (tgt := 379) hx hb dX5_isAct_375 (by decide) ?_
        exact W.zret (v := 1) (ty := .boolean) hx hb hr rfl (fun t ht hW => ⟨1, rfl, (show two (1 : Int32) (okP ka aa ba ca da ea) 1 0 from (Or.inl ⟨rfl, (okP_14 sv_1).mpr (by omega)⟩)), ht⟩) (by intro q hq; cases hq) dX5_isAct_379
  · -- case None
    refine lv_tableOut (tgt := 380) hx hb dX5_isAct_1 sv_1 (by decide) ?_
    refine lv_iconst (v := 0) hx hb dX5_isAct_380 (by decide) ?_
    exact W.zret (v := 0) (ty := .boolean) hx hb hr rfl (fun t ht hW => ⟨0, rfl, (show two (0 : Int32) (okP ka aa ba ca da ea) 1 0 from (Or.inr ⟨rfl, okP_out sv_1⟩)), ht⟩) (by intro q hq; cases hq) dX5_isAct_381

def v_X3_append : List Cond := .code yX3_append cX3_append 8 (some .int) :: ([.fieldLink RX3 19 "ArraySegments$Program" "count" "I", .fieldLink RX3 11 "ArraySegments$Program" "rows" "[I", .fieldLink RX3 15 "ArraySegments$Program" "dropped" "[Z"] ++ (wsX30))
theorem inv_X3_append_X3 : ∀ w ∈ wsX30, w ∈ v_X3_append := fun _ h => List.mem_cons_of_mem _ (List.mem_append_right _ (h))
set_option maxRecDepth 20000 in
theorem gd_X3_append : gdL v_X3_append := gdC (gdW (by decide +kernel)) (gdA (gdW (by decide +kernel)) gd_wsX30)
abbrev sw_X3_append (cI cJ cZ : ClassId) (ph : Nat) (pa_rows : Nat) (pa_dropped : Nat) (p_count : Int32) (pc_rows : Nat → Int32) (pc_dropped : Nat → Int32) (ka : Int32) (aa : Int32) (ba : Int32) (ca : Int32) (da : Int32) (ea : Int32) : va_W := [(ph, .inr (3, [.ref pa_rows, .ref pa_dropped, .int p_count])), (pa_rows, .inl (cI, 240, .inl pc_rows)), (pa_dropped, .inl (cZ, 40, .inl pc_dropped))]
set_option maxHeartbeats 8000000 in
set_option maxRecDepth 100000 in
theorem s_X3_append (l : Launch) (dC : Nat → ClassId) (dI : Nat → Nat → Nat) (cI cJ cZ : ClassId) (ph : Nat) (pa_rows : Nat) (pa_dropped : Nat) (p_count : Int32) (pc_rows : Nat → Int32) (pc_dropped : Nat → Int32) (ka : Int32) (aa : Int32) (ba : Int32) (ca : Int32) (da : Int32) (ea : Int32) (sz : Nat) (hy_count : 0 ≤ p_count.toInt ∧ p_count.toInt ≤ 39) : Met l yX3_append v_X3_append ({ frames := 0, cells := 0, slots := 0, locals := 0 }) (va_Pc [.ref ph, .int ka, .int aa, .int ba, .int ca, .int da, .int ea] (cPre dC dI cI cJ cZ sz (sw_X3_append cI cJ cZ ph pa_rows pa_dropped p_count pc_rows pc_dropped ka aa ba ca da ea))) (va_Qi (fun (r : Int32) (u : Int32 × (Nat → Int32) × (Nat → Int32)) => (r.toInt = p_count.toInt) ∧ ((u.1).toInt = p_count.toInt + 1) ∧ ((u.2.1) = (upd (upd (upd (upd (upd (upd pc_rows (6 * p_count.toInt.toNat) ka) (6 * p_count.toInt.toNat + 1) aa) (6 * p_count.toInt.toNat + 2) ba) (6 * p_count.toInt.toNat + 3) ca) (6 * p_count.toInt.toNat + 4) da) (6 * p_count.toInt.toNat + 5) ea)) ∧ ((u.2.2) = (upd pc_dropped (p_count.toInt.toNat) 0))) (fun (u : Int32 × (Nat → Int32) × (Nat → Int32)) => cPost dC dI cI cJ cZ (va_A (sw_X3_append cI cJ cZ ph pa_rows pa_dropped p_count pc_rows pc_dropped ka aa ba ca da ea) sz) [(ph, .inr (3, [.ref pa_rows, .ref pa_dropped, .int (u.1)])), (pa_rows, .inl (cI, 240, .inl (u.2.1))), (pa_dropped, .inl (cZ, 40, .inl (u.2.2)))]) (va_A (sw_X3_append cI cJ cZ ph pa_rows pa_dropped p_count pc_rows pc_dropped ka aa ba ca da ea) sz)) 0 0 (va_A (sw_X3_append cI cJ cZ ph pa_rows pa_dropped p_count pc_rows pc_dropped ka aa ba ca da ea) sz) := by
  refine Met.ofW (cc := cX3_append) (maxL := 8) (ret := (some .int)) (by decide) rfl ?_
  intro p e s m args below meth c s₁ B hml hv
  obtain ⟨rfl, hsz, hP, hK, hD0, hN⟩ := hv
  have hx := B.exec
  have hb := B.bytes
  have hr := B.returns
  have hts := atoms_spec (ws := v_X3_append) B.pre
  have hown : s.vm.findClass RX3 = some m.cls := findClass_of_methodNamed B.named
  have hlocks := B.notSynchronized
  subst hsz
  have hD := hD0.self (sz := s.heap.size)
  generalize hAe : va_A (sw_X3_append cI cJ cZ ph pa_rows pa_dropped p_count pc_rows pc_dropped ka aa ba ca da ea) s.heap.size = A at hD ⊢
  have hA : ∀ q : Nat, s.heap.size ≤ q → A q := fun q h => by rw [← hAe]; exact Or.inr h
  clear hAe hD0
  have hS : va_S A s.heap s.heap [] := va_S.rf
  replace hP : va_P (dC, dI) vwCl [(ph, .inr (3, [.ref pa_rows, .ref pa_dropped, .int p_count])), (pa_rows, .inl (cI, 240, .inl pc_rows)), (pa_dropped, .inl (cZ, 40, .inl pc_dropped))] s.heap := hP
  replace hD : va_D A [(ph, .inr (3, [.ref pa_rows, .ref pa_dropped, .int p_count])), (pa_rows, .inl (cI, 240, .inl pc_rows)), (pa_dropped, .inl (cZ, 40, .inl pc_dropped))] := hD
  have hl := lv_entry ([.ref ph, .int ka, .int aa, .int ba, .int ca, .int da, .int ea]) (n := 8) (Nat.le_of_ble_eq_true rfl)
  rw [lg_entry_eq]
  generalize (lg_sl ([.ref ph, .int ka, .int aa, .int ba, .int ca, .int da, .int ea]) ++ List.replicate (8 - (lg_sl ([.ref ph, .int ka, .int aa, .int ba, .int ca, .int da, .int ea])).length) Slot.unset).toArray = ls at hl ⊢
  replace hl : lv_has ls 8 [(0, .ref ph), (1, .int ka), (2, .int aa), (3, .int ba), (4, .int ca), (5, .int da), (6, .int ea)] := hl
  have z_0 : (0 : Int32).toInt = 0 := by decide
  have z_1 : (1 : Int32).toInt = 1 := by decide
  have z_2 : (2 : Int32).toInt = 2 := by decide
  have z_3 : (3 : Int32).toInt = 3 := by decide
  have z_4 : (4 : Int32).toInt = 4 := by decide
  have z_5 : (5 : Int32).toInt = 5 := by decide
  refine lv_aload_n hx hb dX3_append_0 rfl (lv_at hl 0 rfl) ?_
  refine va_get (D := (dC, dI)) (ci := 3) (v := .int p_count) (C := RX3) (T := TX3) (N := 3) hx hb hts inv_X3_append_X3 hown hK hP 0 rfl rfl 2 (by decide) (hts (.fieldLink RX3 19 "ArraySegments$Program" "count" "I") (List.mem_of_getElem? (i := 1) rfl)) (fun _ h9 => h9) rfl dX3_append_1 ?_
  refine lv_bipush (v := 6) hx hb dX3_append_4 (by decide) ?_
  refine sf_imul (w := p_count.toInt) (z := 6) hx hb dX3_append_6 rfl (by decide) ⟨by omega, by omega⟩ (fun v_1 q_v_1 => ?_)
  refine lv_istore (lv' := [(7, .int v_1), (0, .ref ph), (1, .int ka), (2, .int aa), (3, .int ba), (4, .int ca), (5, .int da), (6, .int ea)]) hx hb dX3_append_7 hl (by decide) rfl (fun ls1 hl1 => ?_)
  replace hl := hl1; clear hl1
  refine lv_aload_n hx hb dX3_append_9 rfl (lv_at hl 1 rfl) ?_
  refine va_get (D := (dC, dI)) (ci := 3) (v := .ref pa_rows) (C := RX3) (T := TX3) (N := 3) hx hb hts inv_X3_append_X3 hown hK hP 0 rfl rfl 0 (by decide) (hts (.fieldLink RX3 11 "ArraySegments$Program" "rows" "[I") (List.mem_of_getElem? (i := 2) rfl)) (fun _ h9 => h9) rfl dX3_append_10 ?_
  refine lv_iload hx hb dX3_append_13 (lv_at hl 0 rfl) ?_
  refine lv_iload_n hx hb dX3_append_15 rfl (lv_at hl 2 rfl) ?_
  refine va_iast hx hb hK hP hD hS 1 0 rfl rfl (vp_in_iff.mpr ⟨by omega, by omega⟩) dX3_append_16 (fun H_2 locs_2 hP1 hD1 hS1 => ?_)
  rw [show (v_1).toNatClampNeg = 6 * p_count.toInt.toNat from by have := nn_cl (z := v_1) (by omega); omega] at hP1 hD1
  replace hP : va_P (dC, dI) vwCl [(ph, .inr (3, [.ref pa_rows, .ref pa_dropped, .int p_count])), (pa_rows, .inl (cI, 240, .inl (upd pc_rows (6 * p_count.toInt.toNat) ka))), (pa_dropped, .inl (cZ, 40, .inl pc_dropped))] H_2 := hP1
  replace hD : va_D A [(ph, .inr (3, [.ref pa_rows, .ref pa_dropped, .int p_count])), (pa_rows, .inl (cI, 240, .inl (upd pc_rows (6 * p_count.toInt.toNat) ka))), (pa_dropped, .inl (cZ, 40, .inl pc_dropped))] := hD1
  replace hS := hS1
  clear hP1 hD1 hS1
  refine lv_aload_n hx hb dX3_append_17 rfl (lv_at hl 1 rfl) ?_
  refine va_get (D := (dC, dI)) (ci := 3) (v := .ref pa_rows) (C := RX3) (T := TX3) (N := 3) hx hb hts inv_X3_append_X3 hown hK hP 0 rfl rfl 0 (by decide) (hts (.fieldLink RX3 11 "ArraySegments$Program" "rows" "[I") (List.mem_of_getElem? (i := 2) rfl)) (fun _ h9 => h9) rfl dX3_append_18 ?_
  refine lv_iload hx hb dX3_append_21 (lv_at hl 0 rfl) ?_
  refine lv_iconst (v := 1) hx hb dX3_append_23 (by decide) ?_
  refine sf_iadd hx hb dX3_append_24 ⟨by omega, by omega⟩ (fun v_3 q_v_3 => ?_)
  refine lv_iload_n hx hb dX3_append_25 rfl (lv_at hl 3 rfl) ?_
  refine va_iast hx hb hK hP hD hS 1 0 rfl rfl (vp_in_iff.mpr ⟨by omega, by omega⟩) dX3_append_26 (fun H_4 locs_4 hP1 hD1 hS1 => ?_)
  rw [show (v_3).toNatClampNeg = 6 * p_count.toInt.toNat + 1 from by have := nn_cl (z := v_3) (by omega); omega] at hP1 hD1
  replace hP : va_P (dC, dI) vwCl [(ph, .inr (3, [.ref pa_rows, .ref pa_dropped, .int p_count])), (pa_rows, .inl (cI, 240, .inl (upd (upd pc_rows (6 * p_count.toInt.toNat) ka) (6 * p_count.toInt.toNat + 1) aa))), (pa_dropped, .inl (cZ, 40, .inl pc_dropped))] H_4 := hP1
  replace hD : va_D A [(ph, .inr (3, [.ref pa_rows, .ref pa_dropped, .int p_count])), (pa_rows, .inl (cI, 240, .inl (upd (upd pc_rows (6 * p_count.toInt.toNat) ka) (6 * p_count.toInt.toNat + 1) aa))), (pa_dropped, .inl (cZ, 40, .inl pc_dropped))] := hD1
  replace hS := hS1
  clear hP1 hD1 hS1
  refine lv_aload_n hx hb dX3_append_27 rfl (lv_at hl 1 rfl) ?_
  refine va_get (D := (dC, dI)) (ci := 3) (v := .ref pa_rows) (C := RX3) (T := TX3) (N := 3) hx hb hts inv_X3_append_X3 hown hK hP 0 rfl rfl 0 (by decide) (hts (.fieldLink RX3 11 "ArraySegments$Program" "rows" "[I") (List.mem_of_getElem? (i := 2) rfl)) (fun _ h9 => h9) rfl dX3_append_28 ?_
  refine lv_iload hx hb dX3_append_31 (lv_at hl 0 rfl) ?_
  refine lv_iconst (v := 2) hx hb dX3_append_33 (by decide) ?_
  refine sf_iadd hx hb dX3_append_34 ⟨by omega, by omega⟩ (fun v_5 q_v_5 => ?_)
  refine lv_iload_n hx hb dX3_append_35 rfl (lv_at hl 4 rfl) ?_
  refine va_iast hx hb hK hP hD hS 1 0 rfl rfl (vp_in_iff.mpr ⟨by omega, by omega⟩) dX3_append_36 (fun H_6 locs_6 hP1 hD1 hS1 => ?_)
  rw [show (v_5).toNatClampNeg = 6 * p_count.toInt.toNat + 2 from by have := nn_cl (z := v_5) (by omega); omega] at hP1 hD1
  replace hP : va_P (dC, dI) vwCl [(ph, .inr (3, [.ref pa_rows, .ref pa_dropped, .int p_count])), (pa_rows, .inl (cI, 240, .inl (upd (upd (upd pc_rows (6 * p_count.toInt.toNat) ka) (6 * p_count.toInt.toNat + 1) aa) (6 * p_count.toInt.toNat + 2) ba))), (pa_dropped, .inl (cZ, 40, .inl pc_dropped))] H_6 := hP1
  replace hD : va_D A [(ph, .inr (3, [.ref pa_rows, .ref pa_dropped, .int p_count])), (pa_rows, .inl (cI, 240, .inl (upd (upd (upd pc_rows (6 * p_count.toInt.toNat) ka) (6 * p_count.toInt.toNat + 1) aa) (6 * p_count.toInt.toNat + 2) ba))), (pa_dropped, .inl (cZ, 40, .inl pc_dropped))] := hD1
  replace hS := hS1
  clear hP1 hD1 hS1
  refine lv_aload_n hx hb dX3_append_37 rfl (lv_at hl 1 rfl) ?_
  refine va_get (D := (dC, dI)) (ci := 3) (v := .ref pa_rows) (C := RX3) (T := TX3) (N := 3) hx hb hts inv_X3_append_X3 hown hK hP 0 rfl rfl 0 (by decide) (hts (.fieldLink RX3 11 "ArraySegments$Program" "rows" "[I") (List.mem_of_getElem? (i := 2) rfl)) (fun _ h9 => h9) rfl dX3_append_38 ?_
  refine lv_iload hx hb dX3_append_41 (lv_at hl 0 rfl) ?_
  refine lv_iconst (v := 3) hx hb dX3_append_43 (by decide) ?_
  refine sf_iadd hx hb dX3_append_44 ⟨by omega, by omega⟩ (fun v_7 q_v_7 => ?_)
  refine lv_iload hx hb dX3_append_45 (lv_at hl 5 rfl) ?_
  refine va_iast hx hb hK hP hD hS 1 0 rfl rfl (vp_in_iff.mpr ⟨by omega, by omega⟩) dX3_append_47 (fun H_8 locs_8 hP1 hD1 hS1 => ?_)
  rw [show (v_7).toNatClampNeg = 6 * p_count.toInt.toNat + 3 from by have := nn_cl (z := v_7) (by omega); omega] at hP1 hD1
  replace hP : va_P (dC, dI) vwCl [(ph, .inr (3, [.ref pa_rows, .ref pa_dropped, .int p_count])), (pa_rows, .inl (cI, 240, .inl (upd (upd (upd (upd pc_rows (6 * p_count.toInt.toNat) ka) (6 * p_count.toInt.toNat + 1) aa) (6 * p_count.toInt.toNat + 2) ba) (6 * p_count.toInt.toNat + 3) ca))), (pa_dropped, .inl (cZ, 40, .inl pc_dropped))] H_8 := hP1
  replace hD : va_D A [(ph, .inr (3, [.ref pa_rows, .ref pa_dropped, .int p_count])), (pa_rows, .inl (cI, 240, .inl (upd (upd (upd (upd pc_rows (6 * p_count.toInt.toNat) ka) (6 * p_count.toInt.toNat + 1) aa) (6 * p_count.toInt.toNat + 2) ba) (6 * p_count.toInt.toNat + 3) ca))), (pa_dropped, .inl (cZ, 40, .inl pc_dropped))] := hD1
  replace hS := hS1
  clear hP1 hD1 hS1
  refine lv_aload_n hx hb dX3_append_48 rfl (lv_at hl 1 rfl) ?_
  refine va_get (D := (dC, dI)) (ci := 3) (v := .ref pa_rows) (C := RX3) (T := TX3) (N := 3) hx hb hts inv_X3_append_X3 hown hK hP 0 rfl rfl 0 (by decide) (hts (.fieldLink RX3 11 "ArraySegments$Program" "rows" "[I") (List.mem_of_getElem? (i := 2) rfl)) (fun _ h9 => h9) rfl dX3_append_49 ?_
  refine lv_iload hx hb dX3_append_52 (lv_at hl 0 rfl) ?_
  refine lv_iconst (v := 4) hx hb dX3_append_54 (by decide) ?_
  refine sf_iadd hx hb dX3_append_55 ⟨by omega, by omega⟩ (fun v_9 q_v_9 => ?_)
  refine lv_iload hx hb dX3_append_56 (lv_at hl 6 rfl) ?_
  refine va_iast hx hb hK hP hD hS 1 0 rfl rfl (vp_in_iff.mpr ⟨by omega, by omega⟩) dX3_append_58 (fun H_10 locs_10 hP1 hD1 hS1 => ?_)
  rw [show (v_9).toNatClampNeg = 6 * p_count.toInt.toNat + 4 from by have := nn_cl (z := v_9) (by omega); omega] at hP1 hD1
  replace hP : va_P (dC, dI) vwCl [(ph, .inr (3, [.ref pa_rows, .ref pa_dropped, .int p_count])), (pa_rows, .inl (cI, 240, .inl (upd (upd (upd (upd (upd pc_rows (6 * p_count.toInt.toNat) ka) (6 * p_count.toInt.toNat + 1) aa) (6 * p_count.toInt.toNat + 2) ba) (6 * p_count.toInt.toNat + 3) ca) (6 * p_count.toInt.toNat + 4) da))), (pa_dropped, .inl (cZ, 40, .inl pc_dropped))] H_10 := hP1
  replace hD : va_D A [(ph, .inr (3, [.ref pa_rows, .ref pa_dropped, .int p_count])), (pa_rows, .inl (cI, 240, .inl (upd (upd (upd (upd (upd pc_rows (6 * p_count.toInt.toNat) ka) (6 * p_count.toInt.toNat + 1) aa) (6 * p_count.toInt.toNat + 2) ba) (6 * p_count.toInt.toNat + 3) ca) (6 * p_count.toInt.toNat + 4) da))), (pa_dropped, .inl (cZ, 40, .inl pc_dropped))] := hD1
  replace hS := hS1
  clear hP1 hD1 hS1
  refine lv_aload_n hx hb dX3_append_59 rfl (lv_at hl 1 rfl) ?_
  refine va_get (D := (dC, dI)) (ci := 3) (v := .ref pa_rows) (C := RX3) (T := TX3) (N := 3) hx hb hts inv_X3_append_X3 hown hK hP 0 rfl rfl 0 (by decide) (hts (.fieldLink RX3 11 "ArraySegments$Program" "rows" "[I") (List.mem_of_getElem? (i := 2) rfl)) (fun _ h9 => h9) rfl dX3_append_60 ?_
  refine lv_iload hx hb dX3_append_63 (lv_at hl 0 rfl) ?_
  refine lv_iconst (v := 5) hx hb dX3_append_65 (by decide) ?_
  refine sf_iadd hx hb dX3_append_66 ⟨by omega, by omega⟩ (fun v_11 q_v_11 => ?_)
  refine lv_iload hx hb dX3_append_67 (lv_at hl 7 rfl) ?_
  refine va_iast hx hb hK hP hD hS 1 0 rfl rfl (vp_in_iff.mpr ⟨by omega, by omega⟩) dX3_append_69 (fun H_12 locs_12 hP1 hD1 hS1 => ?_)
  rw [show (v_11).toNatClampNeg = 6 * p_count.toInt.toNat + 5 from by have := nn_cl (z := v_11) (by omega); omega] at hP1 hD1
  replace hP : va_P (dC, dI) vwCl [(ph, .inr (3, [.ref pa_rows, .ref pa_dropped, .int p_count])), (pa_rows, .inl (cI, 240, .inl (upd (upd (upd (upd (upd (upd pc_rows (6 * p_count.toInt.toNat) ka) (6 * p_count.toInt.toNat + 1) aa) (6 * p_count.toInt.toNat + 2) ba) (6 * p_count.toInt.toNat + 3) ca) (6 * p_count.toInt.toNat + 4) da) (6 * p_count.toInt.toNat + 5) ea))), (pa_dropped, .inl (cZ, 40, .inl pc_dropped))] H_12 := hP1
  replace hD : va_D A [(ph, .inr (3, [.ref pa_rows, .ref pa_dropped, .int p_count])), (pa_rows, .inl (cI, 240, .inl (upd (upd (upd (upd (upd (upd pc_rows (6 * p_count.toInt.toNat) ka) (6 * p_count.toInt.toNat + 1) aa) (6 * p_count.toInt.toNat + 2) ba) (6 * p_count.toInt.toNat + 3) ca) (6 * p_count.toInt.toNat + 4) da) (6 * p_count.toInt.toNat + 5) ea))), (pa_dropped, .inl (cZ, 40, .inl pc_dropped))] := hD1
  replace hS := hS1
  clear hP1 hD1 hS1
  refine lv_aload_n hx hb dX3_append_70 rfl (lv_at hl 1 rfl) ?_
  refine va_get (D := (dC, dI)) (ci := 3) (v := .ref pa_dropped) (C := RX3) (T := TX3) (N := 3) hx hb hts inv_X3_append_X3 hown hK hP 0 rfl rfl 1 (by decide) (hts (.fieldLink RX3 15 "ArraySegments$Program" "dropped" "[Z") (List.mem_of_getElem? (i := 3) rfl)) (fun _ h9 => h9) rfl dX3_append_71 ?_
  refine lv_aload_n hx hb dX3_append_74 rfl (lv_at hl 1 rfl) ?_
  refine va_get (D := (dC, dI)) (ci := 3) (v := .int p_count) (C := RX3) (T := TX3) (N := 3) hx hb hts inv_X3_append_X3 hown hK hP 0 rfl rfl 2 (by decide) (hts (.fieldLink RX3 19 "ArraySegments$Program" "count" "I") (List.mem_of_getElem? (i := 1) rfl)) (fun _ h9 => h9) rfl dX3_append_75 ?_
  refine lv_iconst (v := 0) hx hb dX3_append_78 (by decide) ?_
  refine va_zast hx hb hK hP hD hS 2 2 rfl rfl (vp_in_iff.mpr ⟨by omega, by omega⟩) dX3_append_79 (fun H_13 locs_13 hP1 hD1 hS1 => ?_)
  rw [show (p_count).toNatClampNeg = p_count.toInt.toNat from by have := nn_cl (z := p_count) (by omega); omega] at hP1 hD1
  rw [show vp_nar .boolean 0 = 0 from rfl] at hP1 hD1
  replace hP : va_P (dC, dI) vwCl [(ph, .inr (3, [.ref pa_rows, .ref pa_dropped, .int p_count])), (pa_rows, .inl (cI, 240, .inl (upd (upd (upd (upd (upd (upd pc_rows (6 * p_count.toInt.toNat) ka) (6 * p_count.toInt.toNat + 1) aa) (6 * p_count.toInt.toNat + 2) ba) (6 * p_count.toInt.toNat + 3) ca) (6 * p_count.toInt.toNat + 4) da) (6 * p_count.toInt.toNat + 5) ea))), (pa_dropped, .inl (cZ, 40, .inl (upd pc_dropped (p_count.toInt.toNat) 0)))] H_13 := hP1
  replace hD : va_D A [(ph, .inr (3, [.ref pa_rows, .ref pa_dropped, .int p_count])), (pa_rows, .inl (cI, 240, .inl (upd (upd (upd (upd (upd (upd pc_rows (6 * p_count.toInt.toNat) ka) (6 * p_count.toInt.toNat + 1) aa) (6 * p_count.toInt.toNat + 2) ba) (6 * p_count.toInt.toNat + 3) ca) (6 * p_count.toInt.toNat + 4) da) (6 * p_count.toInt.toNat + 5) ea))), (pa_dropped, .inl (cZ, 40, .inl (upd pc_dropped (p_count.toInt.toNat) 0)))] := hD1
  replace hS := hS1
  clear hP1 hD1 hS1
  refine lv_aload_n hx hb dX3_append_80 rfl (lv_at hl 1 rfl) ?_
  refine lv_dup hx hb dX3_append_81 rfl ?_
  refine va_get (D := (dC, dI)) (ci := 3) (v := .int p_count) (C := RX3) (T := TX3) (N := 3) hx hb hts inv_X3_append_X3 hown hK hP 0 rfl rfl 2 (by decide) (hts (.fieldLink RX3 19 "ArraySegments$Program" "count" "I") (List.mem_of_getElem? (i := 1) rfl)) (fun _ h9 => h9) rfl dX3_append_82 ?_
  refine lv_iconst (v := 1) hx hb dX3_append_85 (by decide) ?_
  refine sf_iadd hx hb dX3_append_86 ⟨by omega, by omega⟩ (fun v_14 q_v_14 => ?_)
  refine va_put (D := (dC, dI)) (ci := 3) (v := .int v_14) (ty := .int) (C := RX3) (T := TX3) (N := 3) hx hb hts inv_X3_append_X3 tyX3 tyX3_ok nmX3 hown hK hP hD hS 0 rfl rfl 2 (by decide) (hts (.fieldLink RX3 19 "ArraySegments$Program" "count" "I") (List.mem_of_getElem? (i := 1) rfl)) (fun _ h9 => h9) rfl (by decide +kernel) rfl rfl (Nat.le_of_ble_eq_true rfl) dX3_append_87 (fun H_15 locs_15 hP1 hD1 hS1 => ?_)
  replace hP : va_P (dC, dI) vwCl [(ph, .inr (3, [.ref pa_rows, .ref pa_dropped, .int v_14])), (pa_rows, .inl (cI, 240, .inl (upd (upd (upd (upd (upd (upd pc_rows (6 * p_count.toInt.toNat) ka) (6 * p_count.toInt.toNat + 1) aa) (6 * p_count.toInt.toNat + 2) ba) (6 * p_count.toInt.toNat + 3) ca) (6 * p_count.toInt.toNat + 4) da) (6 * p_count.toInt.toNat + 5) ea))), (pa_dropped, .inl (cZ, 40, .inl (upd pc_dropped (p_count.toInt.toNat) 0)))] H_15 := hP1
  replace hD : va_D A [(ph, .inr (3, [.ref pa_rows, .ref pa_dropped, .int v_14])), (pa_rows, .inl (cI, 240, .inl (upd (upd (upd (upd (upd (upd pc_rows (6 * p_count.toInt.toNat) ka) (6 * p_count.toInt.toNat + 1) aa) (6 * p_count.toInt.toNat + 2) ba) (6 * p_count.toInt.toNat + 3) ca) (6 * p_count.toInt.toNat + 4) da) (6 * p_count.toInt.toNat + 5) ea))), (pa_dropped, .inl (cZ, 40, .inl (upd pc_dropped (p_count.toInt.toNat) 0)))] := hD1
  replace hS := hS1
  clear hP1 hD1 hS1
  refine lv_aload_n hx hb dX3_append_90 rfl (lv_at hl 1 rfl) ?_
  refine va_get (D := (dC, dI)) (ci := 3) (v := .int v_14) (C := RX3) (T := TX3) (N := 3) hx hb hts inv_X3_append_X3 hown hK hP 0 rfl rfl 2 (by decide) (hts (.fieldLink RX3 19 "ArraySegments$Program" "count" "I") (List.mem_of_getElem? (i := 1) rfl)) (fun _ h9 => h9) rfl dX3_append_91 ?_
  refine lv_iconst (v := 1) hx hb dX3_append_94 (by decide) ?_
  refine sf_isub hx hb dX3_append_95 ⟨by omega, by omega⟩ (fun v_16 q_v_16 => ?_)
  have hP9 := hP.sub (ws' := [(ph, .inr (3, [.ref pa_rows, .ref pa_dropped, .int v_14])), (pa_rows, .inl (cI, 240, .inl (upd (upd (upd (upd (upd (upd pc_rows (6 * p_count.toInt.toNat) ka) (6 * p_count.toInt.toNat + 1) aa) (6 * p_count.toInt.toNat + 2) ba) (6 * p_count.toInt.toNat + 3) ca) (6 * p_count.toInt.toNat + 4) da) (6 * p_count.toInt.toNat + 5) ea))), (pa_dropped, .inl (cZ, 40, .inl (upd pc_dropped (p_count.toInt.toNat) 0)))]) [0, 1, 2] rfl
  have hD9 := hD.sub (ws' := [(ph, .inr (3, [.ref pa_rows, .ref pa_dropped, .int v_14])), (pa_rows, .inl (cI, 240, .inl (upd (upd (upd (upd (upd (upd pc_rows (6 * p_count.toInt.toNat) ka) (6 * p_count.toInt.toNat + 1) aa) (6 * p_count.toInt.toNat + 2) ba) (6 * p_count.toInt.toNat + 3) ca) (6 * p_count.toInt.toNat + 4) da) (6 * p_count.toInt.toNat + 5) ea))), (pa_dropped, .inl (cZ, 40, .inl (upd pc_dropped (p_count.toInt.toNat) 0)))]) [0, 1, 2] (by decide) rfl
  exact W.iret (v := v_16) hx hb hr (fun t ht hW => ⟨⟨v_16, (v_14, (upd (upd (upd (upd (upd (upd pc_rows (6 * p_count.toInt.toNat) ka) (6 * p_count.toInt.toNat + 1) aa) (6 * p_count.toInt.toNat + 2) ba) (6 * p_count.toInt.toNat + 3) ca) (6 * p_count.toInt.toNat + 4) da) (6 * p_count.toInt.toNat + 5) ea), (upd pc_dropped (p_count.toInt.toNat) 0)), rfl, ⟨(show v_16.toInt = p_count.toInt from (by first | assumption | omega)), (show v_14.toInt = p_count.toInt + 1 from (by omega)), (show (upd (upd (upd (upd (upd (upd pc_rows (6 * p_count.toInt.toNat) ka) (6 * p_count.toInt.toNat + 1) aa) (6 * p_count.toInt.toNat + 2) ba) (6 * p_count.toInt.toNat + 3) ca) (6 * p_count.toInt.toNat + 4) da) (6 * p_count.toInt.toNat + 5) ea) = (upd (upd (upd (upd (upd (upd pc_rows (6 * p_count.toInt.toNat) ka) (6 * p_count.toInt.toNat + 1) aa) (6 * p_count.toInt.toNat + 2) ba) (6 * p_count.toInt.toNat + 3) ca) (6 * p_count.toInt.toNat + 4) da) (6 * p_count.toInt.toNat + 5) ea) from rfl), (show (upd pc_dropped (p_count.toInt.toNat) 0) = (upd pc_dropped (p_count.toInt.toNat) 0) from rfl)⟩, by rw [ht]; exact hP9, va_K.moved hW.alike hK, hD9⟩, hS.F ht⟩) hS.2.2 dX3_append_96

def v_X3_removeAll : List Cond := .code yX3_removeAll cX3_removeAll 1 none :: ([.fieldLink RX3 19 "ArraySegments$Program" "count" "I"] ++ (wsX30))
theorem inv_X3_removeAll_X3 : ∀ w ∈ wsX30, w ∈ v_X3_removeAll := fun _ h => List.mem_cons_of_mem _ (List.mem_append_right _ (h))
set_option maxRecDepth 20000 in
theorem gd_X3_removeAll : gdL v_X3_removeAll := gdC (gdW (by decide +kernel)) (gdA (gdW (by decide +kernel)) gd_wsX30)
abbrev sw_X3_removeAll (cI cJ cZ : ClassId) (ph : Nat) (p_rows : Value) (p_dropped : Value) (p_count : Int32) : va_W := [(ph, .inr (3, [p_rows, p_dropped, .int p_count]))]
set_option maxHeartbeats 8000000 in
set_option maxRecDepth 100000 in
theorem s_X3_removeAll (l : Launch) (dC : Nat → ClassId) (dI : Nat → Nat → Nat) (cI cJ cZ : ClassId) (ph : Nat) (p_rows : Value) (p_dropped : Value) (p_count : Int32) (sz : Nat) : Met l yX3_removeAll v_X3_removeAll ({ frames := 0, cells := 0, slots := 0, locals := 0 }) (va_Pc [.ref ph] (cPre dC dI cI cJ cZ sz (sw_X3_removeAll cI cJ cZ ph p_rows p_dropped p_count))) (va_Qv (fun (u : Int32) => ((u) = 0)) (fun (u : Int32) => cPost dC dI cI cJ cZ (va_A (sw_X3_removeAll cI cJ cZ ph p_rows p_dropped p_count) sz) [(ph, .inr (3, [p_rows, p_dropped, .int (u)]))]) (va_A (sw_X3_removeAll cI cJ cZ ph p_rows p_dropped p_count) sz)) 0 0 (va_A (sw_X3_removeAll cI cJ cZ ph p_rows p_dropped p_count) sz) := by
  refine Met.ofW (cc := cX3_removeAll) (maxL := 1) (ret := none) (by decide) rfl ?_
  intro p e s m args below meth c s₁ B hml hv
  obtain ⟨rfl, hsz, hP, hK, hD0, hN⟩ := hv
  have hx := B.exec
  have hb := B.bytes
  have hr := B.returns
  have hts := atoms_spec (ws := v_X3_removeAll) B.pre
  have hown : s.vm.findClass RX3 = some m.cls := findClass_of_methodNamed B.named
  have hlocks := B.notSynchronized
  subst hsz
  have hD := hD0.self (sz := s.heap.size)
  generalize hAe : va_A (sw_X3_removeAll cI cJ cZ ph p_rows p_dropped p_count) s.heap.size = A at hD ⊢
  have hA : ∀ q : Nat, s.heap.size ≤ q → A q := fun q h => by rw [← hAe]; exact Or.inr h
  clear hAe hD0
  have hS : va_S A s.heap s.heap [] := va_S.rf
  replace hP : va_P (dC, dI) vwCl [(ph, .inr (3, [p_rows, p_dropped, .int p_count]))] s.heap := hP
  replace hD : va_D A [(ph, .inr (3, [p_rows, p_dropped, .int p_count]))] := hD
  have hl := lv_entry ([.ref ph]) (n := 1) (Nat.le_of_ble_eq_true rfl)
  rw [lg_entry_eq]
  generalize (lg_sl ([.ref ph]) ++ List.replicate (1 - (lg_sl ([.ref ph])).length) Slot.unset).toArray = ls at hl ⊢
  replace hl : lv_has ls 1 [(0, .ref ph)] := hl
  have z_0 : (0 : Int32).toInt = 0 := by decide
  have z_1 : (1 : Int32).toInt = 1 := by decide
  refine lv_aload_n hx hb dX3_removeAll_0 rfl (lv_at hl 0 rfl) ?_
  refine lv_iconst (v := 0) hx hb dX3_removeAll_1 (by decide) ?_
  refine va_put (D := (dC, dI)) (ci := 3) (v := .int 0) (ty := .int) (C := RX3) (T := TX3) (N := 3) hx hb hts inv_X3_removeAll_X3 tyX3 tyX3_ok nmX3 hown hK hP hD hS 0 rfl rfl 2 (by decide) (hts (.fieldLink RX3 19 "ArraySegments$Program" "count" "I") (List.mem_of_getElem? (i := 1) rfl)) (fun _ h9 => h9) rfl (by decide +kernel) rfl rfl (Nat.le_of_ble_eq_true rfl) dX3_removeAll_2 (fun H_1 locs_1 hP1 hD1 hS1 => ?_)
  replace hP : va_P (dC, dI) vwCl [(ph, .inr (3, [p_rows, p_dropped, .int 0]))] H_1 := hP1
  replace hD : va_D A [(ph, .inr (3, [p_rows, p_dropped, .int 0]))] := hD1
  replace hS := hS1
  clear hP1 hD1 hS1
  have hP9 := hP.sub (ws' := [(ph, .inr (3, [p_rows, p_dropped, .int 0]))]) [0] rfl
  have hD9 := hD.sub (ws' := [(ph, .inr (3, [p_rows, p_dropped, .int 0]))]) [0] (by decide) rfl
  exact W.vret hx hb hr (fun t ht hW => ⟨⟨(0 : Int32), rfl, (show (0 : Int32) = 0 from rfl), by rw [ht]; exact hP9, va_K.moved hW.alike hK, hD9⟩, hS.F ht⟩) hS.2.2 dX3_removeAll_5

def v_X4_clear : List Cond := .code yX4_clear cX4_clear 2 (some .int) :: ([.fieldLink RX4 10 "ArraySegments" "program" "LArraySegments$Program;", .fieldLink RX4 34 "ArraySegments$Program" "count" "I", .methodLink RX4 37 yX3_removeAll, .instanceMethod yX3_removeAll, .selects RX3 yX3_removeAll yX3_removeAll, .initialized RX3, .methodLink RX4 40 yX4_programChanged, .instanceMethod yX4_programChanged, .selects RX4 yX4_programChanged yX4_programChanged, .initialized RX4] ++ (wsX40 ++ (wsX30 ++ (v_X3_removeAll ++ (v_X4_programChanged)))))
theorem inv_X4_clear_X4 : ∀ w ∈ wsX40, w ∈ v_X4_clear := fun _ h => List.mem_cons_of_mem _ (List.mem_append_right _ (List.mem_append_left _ h))
theorem inv_X4_clear_X3 : ∀ w ∈ wsX30, w ∈ v_X4_clear := fun _ h => List.mem_cons_of_mem _ (List.mem_append_right _ (List.mem_append_right _ (List.mem_append_left _ h)))
theorem im_X4_clear_X3_removeAll : ∀ w ∈ v_X3_removeAll, w ∈ v_X4_clear := fun _ h => List.mem_cons_of_mem _ (List.mem_append_right _ (List.mem_append_right _ (List.mem_append_right _ (List.mem_append_left _ h))))
theorem im_X4_clear_X4_programChanged : ∀ w ∈ v_X4_programChanged, w ∈ v_X4_clear := fun _ h => List.mem_cons_of_mem _ (List.mem_append_right _ (List.mem_append_right _ (List.mem_append_right _ (List.mem_append_right _ (h)))))
set_option maxRecDepth 20000 in
theorem gd_X4_clear : gdL v_X4_clear := gdC (gdW (by decide +kernel)) (gdA (gdW (by decide +kernel)) (gdA gd_wsX40 (gdA gd_wsX30 (gdA gd_X3_removeAll gd_X4_programChanged))))
set_option maxRecDepth 20000 in
theorem h_X4_clear_X3_removeAll_37 : GoodIn v_X4_clear (wsV RX4 37 RX3 yX3_removeAll v_X3_removeAll) := gdI [3, 4, 5, 6] rfl (by decide +kernel) (im_X4_clear_X3_removeAll) gd_X3_removeAll
set_option maxRecDepth 20000 in
theorem h_X4_clear_X4_programChanged_40 : GoodIn v_X4_clear (wsV RX4 40 RX4 yX4_programChanged v_X4_programChanged) := gdI [7, 8, 9, 10] rfl (by decide +kernel) (im_X4_clear_X4_programChanged) gd_X4_programChanged
abbrev sw_X4_clear (cI cJ cZ : ClassId) (xh : Nat) (ph : Nat) (lh : Nat) (mh : Nat) (x_lastStatus : Int32) (p_rows : Value) (p_dropped : Value) (p_count : Int32) (l_now : Value) (l_ahead : Value) (l_isOld : Int32) (l_isReached : Value) (l_mayThrow : Value) (l_gatheredAny : Int32) (l_gatheredLeast : Int32) (l_gatheredGreatest : Int32) (m_hasRun : Int32) (m_thrown : Int32) (m_thrownAt : Int32) (ma_values : Nat) (ma_meant : Nat) (m_lanes : Value) (m_lengths : Value) (m_cells : Value) (m_state : Int64) (mc_values : Nat → Int32) (mc_meant : Nat → Int32) : va_W := [(xh, .inr (4, [.ref ph, .ref lh, .ref mh, .int x_lastStatus])), (ph, .inr (3, [p_rows, p_dropped, .int p_count])), (lh, .inr (1, [l_now, l_ahead, .int l_isOld, l_isReached, l_mayThrow, .int l_gatheredAny, .int l_gatheredLeast, .int l_gatheredGreatest])), (mh, .inr (2, [.int m_hasRun, .int m_thrown, .int m_thrownAt, .ref ma_values, .ref ma_meant, m_lanes, m_lengths, m_cells, .long m_state])), (ma_values, .inl (cI, 6, .inl mc_values)), (ma_meant, .inl (cI, 6, .inl mc_meant))]
set_option maxHeartbeats 8000000 in
set_option maxRecDepth 100000 in
theorem s_X4_clear (l : Launch) (dC : Nat → ClassId) (dI : Nat → Nat → Nat) (cI cJ cZ : ClassId) (xh : Nat) (ph : Nat) (lh : Nat) (mh : Nat) (x_lastStatus : Int32) (p_rows : Value) (p_dropped : Value) (p_count : Int32) (l_now : Value) (l_ahead : Value) (l_isOld : Int32) (l_isReached : Value) (l_mayThrow : Value) (l_gatheredAny : Int32) (l_gatheredLeast : Int32) (l_gatheredGreatest : Int32) (m_hasRun : Int32) (m_thrown : Int32) (m_thrownAt : Int32) (ma_values : Nat) (ma_meant : Nat) (m_lanes : Value) (m_lengths : Value) (m_cells : Value) (m_state : Int64) (mc_values : Nat → Int32) (mc_meant : Nat → Int32) (sz : Nat) (q_l_isOld : kZ l_isOld) (q_l_gatheredAny : kZ l_gatheredAny) (q_m_hasRun : kZ m_hasRun) (h_mc_meant : ∀ j : Nat, kSITE (mc_meant j)) : Met l yX4_clear v_X4_clear ({ frames := 2, cells := 0, slots := 0, locals := 41 }) (va_Pc [.ref xh] (cPre dC dI cI cJ cZ sz (sw_X4_clear cI cJ cZ xh ph lh mh x_lastStatus p_rows p_dropped p_count l_now l_ahead l_isOld l_isReached l_mayThrow l_gatheredAny l_gatheredLeast l_gatheredGreatest m_hasRun m_thrown m_thrownAt ma_values ma_meant m_lanes m_lengths m_cells m_state mc_values mc_meant))) (va_Qi (fun (r : Int32) (u : Int32 × Int32 × Int32 × Int32 × Int32 × (Nat → Int32) × (Nat → Int32)) => (r = p_count) ∧ (kZ (u.2.1)) ∧ (kZ (u.2.2.1)) ∧ (∀ j : Nat, kSITE ((u.2.2.2.2.2.2) j)) ∧ ((u.1) = 0)) (fun (u : Int32 × Int32 × Int32 × Int32 × Int32 × (Nat → Int32) × (Nat → Int32)) => cPost dC dI cI cJ cZ (va_A (sw_X4_clear cI cJ cZ xh ph lh mh x_lastStatus p_rows p_dropped p_count l_now l_ahead l_isOld l_isReached l_mayThrow l_gatheredAny l_gatheredLeast l_gatheredGreatest m_hasRun m_thrown m_thrownAt ma_values ma_meant m_lanes m_lengths m_cells m_state mc_values mc_meant) sz) [(xh, .inr (4, [.ref ph, .ref lh, .ref mh, .int x_lastStatus])), (ph, .inr (3, [p_rows, p_dropped, .int (u.1)])), (lh, .inr (1, [l_now, l_ahead, .int (u.2.1), l_isReached, l_mayThrow, .int l_gatheredAny, .int l_gatheredLeast, .int l_gatheredGreatest])), (mh, .inr (2, [.int (u.2.2.1), .int (u.2.2.2.1), .int (u.2.2.2.2.1), .ref ma_values, .ref ma_meant, m_lanes, m_lengths, m_cells, .long m_state])), (ma_values, .inl (cI, 6, .inl (u.2.2.2.2.2.1))), (ma_meant, .inl (cI, 6, .inl (u.2.2.2.2.2.2)))]) (va_A (sw_X4_clear cI cJ cZ xh ph lh mh x_lastStatus p_rows p_dropped p_count l_now l_ahead l_isOld l_isReached l_mayThrow l_gatheredAny l_gatheredLeast l_gatheredGreatest m_hasRun m_thrown m_thrownAt ma_values ma_meant m_lanes m_lengths m_cells m_state mc_values mc_meant) sz)) 0 0 (va_A (sw_X4_clear cI cJ cZ xh ph lh mh x_lastStatus p_rows p_dropped p_count l_now l_ahead l_isOld l_isReached l_mayThrow l_gatheredAny l_gatheredLeast l_gatheredGreatest m_hasRun m_thrown m_thrownAt ma_values ma_meant m_lanes m_lengths m_cells m_state mc_values mc_meant) sz) := by
  refine Met.ofW (cc := cX4_clear) (maxL := 2) (ret := (some .int)) (by decide) rfl ?_
  intro p e s m args below meth c s₁ B hml hv
  obtain ⟨rfl, hsz, hP, hK, hD0, hN⟩ := hv
  have hx := B.exec
  have hb := B.bytes
  have hr := B.returns
  have hts := atoms_spec (ws := v_X4_clear) B.pre
  have hown : s.vm.findClass RX4 = some m.cls := findClass_of_methodNamed B.named
  have hlocks := B.notSynchronized
  subst hsz
  have hD := hD0.self (sz := s.heap.size)
  generalize hAe : va_A (sw_X4_clear cI cJ cZ xh ph lh mh x_lastStatus p_rows p_dropped p_count l_now l_ahead l_isOld l_isReached l_mayThrow l_gatheredAny l_gatheredLeast l_gatheredGreatest m_hasRun m_thrown m_thrownAt ma_values ma_meant m_lanes m_lengths m_cells m_state mc_values mc_meant) s.heap.size = A at hD ⊢
  have hA : ∀ q : Nat, s.heap.size ≤ q → A q := fun q h => by rw [← hAe]; exact Or.inr h
  clear hAe hD0
  have hS : va_S A s.heap s.heap [] := va_S.rf
  replace hP : va_P (dC, dI) vwCl [(xh, .inr (4, [.ref ph, .ref lh, .ref mh, .int x_lastStatus])), (ph, .inr (3, [p_rows, p_dropped, .int p_count])), (lh, .inr (1, [l_now, l_ahead, .int l_isOld, l_isReached, l_mayThrow, .int l_gatheredAny, .int l_gatheredLeast, .int l_gatheredGreatest])), (mh, .inr (2, [.int m_hasRun, .int m_thrown, .int m_thrownAt, .ref ma_values, .ref ma_meant, m_lanes, m_lengths, m_cells, .long m_state])), (ma_values, .inl (cI, 6, .inl mc_values)), (ma_meant, .inl (cI, 6, .inl mc_meant))] s.heap := hP
  replace hD : va_D A [(xh, .inr (4, [.ref ph, .ref lh, .ref mh, .int x_lastStatus])), (ph, .inr (3, [p_rows, p_dropped, .int p_count])), (lh, .inr (1, [l_now, l_ahead, .int l_isOld, l_isReached, l_mayThrow, .int l_gatheredAny, .int l_gatheredLeast, .int l_gatheredGreatest])), (mh, .inr (2, [.int m_hasRun, .int m_thrown, .int m_thrownAt, .ref ma_values, .ref ma_meant, m_lanes, m_lengths, m_cells, .long m_state])), (ma_values, .inl (cI, 6, .inl mc_values)), (ma_meant, .inl (cI, 6, .inl mc_meant))] := hD
  have hl := lv_entry ([.ref xh]) (n := 2) (Nat.le_of_ble_eq_true rfl)
  rw [lg_entry_eq]
  generalize (lg_sl ([.ref xh]) ++ List.replicate (2 - (lg_sl ([.ref xh])).length) Slot.unset).toArray = ls at hl ⊢
  replace hl : lv_has ls 2 [(0, .ref xh)] := hl
  have z_0 : (0 : Int32).toInt = 0 := by decide
  have z_1 : (1 : Int32).toInt = 1 := by decide
  refine lv_aload_n hx hb dX4_clear_0 rfl (lv_at hl 0 rfl) ?_
  refine va_get (D := (dC, dI)) (ci := 4) (v := .ref ph) (C := RX4) (T := TX4) (N := 4) hx hb hts inv_X4_clear_X4 hown hK hP 0 rfl rfl 0 (by decide) (hts (.fieldLink RX4 10 "ArraySegments" "program" "LArraySegments$Program;") (List.mem_of_getElem? (i := 1) rfl)) (fun _ h9 => h9) rfl dX4_clear_1 ?_
  refine va_get (D := (dC, dI)) (ci := 3) (v := .int p_count) (C := RX3) (T := TX3) (N := 3) hx hb hts inv_X4_clear_X3 hown hK hP 1 rfl rfl 2 (by decide) (hts (.fieldLink RX4 34 "ArraySegments$Program" "count" "I") (List.mem_of_getElem? (i := 2) rfl)) (fun _ h9 => h9) rfl dX4_clear_4 ?_
  refine lv_istore_n (lv' := [(1, .int p_count), (0, .ref xh)]) hx hb dX4_clear_7 rfl hl (by decide) rfl (fun ls1 hl1 => ?_)
  replace hl := hl1; clear hl1
  refine lv_aload_n hx hb dX4_clear_8 rfl (lv_at hl 1 rfl) ?_
  refine va_get (D := (dC, dI)) (ci := 4) (v := .ref ph) (C := RX4) (T := TX4) (N := 4) hx hb hts inv_X4_clear_X4 hown hK hP 0 rfl rfl 0 (by decide) (hts (.fieldLink RX4 10 "ArraySegments" "program" "LArraySegments$Program;") (List.mem_of_getElem? (i := 1) rfl)) (fun _ h9 => h9) rfl dX4_clear_9 ?_
  have hPc := hP.sub (ws' := [(ph, .inr (3, [p_rows, p_dropped, .int p_count]))]) [1] rfl
  have hDc := hD.sub (ws' := [(ph, .inr (3, [p_rows, p_dropped, .int p_count]))]) [1] (by decide) rfl
  have hFc := va_free (wc := [(ph, .inr (3, [p_rows, p_dropped, .int p_count]))]) hD hS hA [1] rfl
  refine va_callv (va_runV (As := []) (rest := []) ⟨hx, hb, hml, hown, hts⟩ (s_X3_removeAll l dC dI cI cJ cZ ph p_rows p_dropped p_count s.heap.size) (cwV 0 hts h_X4_clear_X3_removeAll_37 rfl rfl rfl (by decide +kernel) ⟨Nat.le_of_ble_eq_true rfl, Nat.le_of_ble_eq_true rfl⟩) ⟨cPre_blind, va_recv hK hPc (ci := 3) (q0 := 0) rfl rfl, cPre_of hK hN hPc hDc⟩ rfl rfl hl.1 rfl (lv_room (Nat.le_of_ble_eq_true rfl)) dX4_clear_12 ⟨Nat.le_of_ble_eq_true rfl, Nat.le_of_ble_eq_true rfl⟩) hS (fun q _ h => hFc q h) hFc (fun u_1 t_1 H_1 locs_1 ht hvm hw_1 hB hz1 hk1 hS1 => ?_)
  obtain ⟨v_2, rfl⟩ : ∃ z, z = u_1 := ⟨_, rfl⟩
  obtain ⟨hP1, hK1, hD1⟩ := hB
  rw [ht] at hP1
  obtain ⟨hP2, hD2⟩ := va_join (wr := [(xh, .inr (4, [.ref ph, .ref lh, .ref mh, .int x_lastStatus])), (lh, .inr (1, [l_now, l_ahead, .int l_isOld, l_isReached, l_mayThrow, .int l_gatheredAny, .int l_gatheredLeast, .int l_gatheredGreatest])), (mh, .inr (2, [.int m_hasRun, .int m_thrown, .int m_thrownAt, .ref ma_values, .ref ma_meant, m_lanes, m_lengths, m_cells, .long m_state])), (ma_values, .inl (cI, 6, .inl mc_values)), (ma_meant, .inl (cI, 6, .inl mc_meant))]) (w1 := [(ph, .inr (3, [p_rows, p_dropped, .int v_2]))]) hP hD [1] [0, 2, 3, 4, 5] rfl rfl (by decide) (by decide) hk1 hFc hP1 hD1
  clear hPc hDc hFc hP1 hD1 hK1 hk1 hz1 hvm ht
  replace hP : va_P (dC, dI) vwCl [(xh, .inr (4, [.ref ph, .ref lh, .ref mh, .int x_lastStatus])), (lh, .inr (1, [l_now, l_ahead, .int l_isOld, l_isReached, l_mayThrow, .int l_gatheredAny, .int l_gatheredLeast, .int l_gatheredGreatest])), (mh, .inr (2, [.int m_hasRun, .int m_thrown, .int m_thrownAt, .ref ma_values, .ref ma_meant, m_lanes, m_lengths, m_cells, .long m_state])), (ma_values, .inl (cI, 6, .inl mc_values)), (ma_meant, .inl (cI, 6, .inl mc_meant)), (ph, .inr (3, [p_rows, p_dropped, .int v_2]))] H_1 := hP2
  replace hD : va_D A [(xh, .inr (4, [.ref ph, .ref lh, .ref mh, .int x_lastStatus])), (lh, .inr (1, [l_now, l_ahead, .int l_isOld, l_isReached, l_mayThrow, .int l_gatheredAny, .int l_gatheredLeast, .int l_gatheredGreatest])), (mh, .inr (2, [.int m_hasRun, .int m_thrown, .int m_thrownAt, .ref ma_values, .ref ma_meant, m_lanes, m_lengths, m_cells, .long m_state])), (ma_values, .inl (cI, 6, .inl mc_values)), (ma_meant, .inl (cI, 6, .inl mc_meant)), (ph, .inr (3, [p_rows, p_dropped, .int v_2]))] := hD2
  replace hS := hS1
  clear hP2 hD2 hS1
  replace hw_1 : (v_2 = 0) := hw_1
  have x_1_0 := hw_1
  refine lv_aload_n hx hb dX4_clear_15 rfl (lv_at hl 1 rfl) ?_
  have hPc := hP.sub (ws' := [(xh, .inr (4, [.ref ph, .ref lh, .ref mh, .int x_lastStatus])), (lh, .inr (1, [l_now, l_ahead, .int l_isOld, l_isReached, l_mayThrow, .int l_gatheredAny, .int l_gatheredLeast, .int l_gatheredGreatest])), (mh, .inr (2, [.int m_hasRun, .int m_thrown, .int m_thrownAt, .ref ma_values, .ref ma_meant, m_lanes, m_lengths, m_cells, .long m_state])), (ma_values, .inl (cI, 6, .inl mc_values)), (ma_meant, .inl (cI, 6, .inl mc_meant))]) [0, 1, 2, 3, 4] rfl
  have hDc := hD.sub (ws' := [(xh, .inr (4, [.ref ph, .ref lh, .ref mh, .int x_lastStatus])), (lh, .inr (1, [l_now, l_ahead, .int l_isOld, l_isReached, l_mayThrow, .int l_gatheredAny, .int l_gatheredLeast, .int l_gatheredGreatest])), (mh, .inr (2, [.int m_hasRun, .int m_thrown, .int m_thrownAt, .ref ma_values, .ref ma_meant, m_lanes, m_lengths, m_cells, .long m_state])), (ma_values, .inl (cI, 6, .inl mc_values)), (ma_meant, .inl (cI, 6, .inl mc_meant))]) [0, 1, 2, 3, 4] (by decide) rfl
  have hFc := va_free (wc := [(xh, .inr (4, [.ref ph, .ref lh, .ref mh, .int x_lastStatus])), (lh, .inr (1, [l_now, l_ahead, .int l_isOld, l_isReached, l_mayThrow, .int l_gatheredAny, .int l_gatheredLeast, .int l_gatheredGreatest])), (mh, .inr (2, [.int m_hasRun, .int m_thrown, .int m_thrownAt, .ref ma_values, .ref ma_meant, m_lanes, m_lengths, m_cells, .long m_state])), (ma_values, .inl (cI, 6, .inl mc_values)), (ma_meant, .inl (cI, 6, .inl mc_meant))]) hD hS hA [0, 1, 2, 3, 4] rfl
  refine va_callv (va_runV (As := []) (rest := []) ⟨hx, hb, hml, hown, hts⟩ (s_X4_programChanged l dC dI cI cJ cZ xh (.ref ph) lh mh x_lastStatus l_now l_ahead l_isOld l_isReached l_mayThrow l_gatheredAny l_gatheredLeast l_gatheredGreatest m_hasRun m_thrown m_thrownAt ma_values ma_meant m_lanes m_lengths m_cells m_state mc_values mc_meant H_1.size q_l_isOld q_l_gatheredAny q_m_hasRun h_mc_meant) (cwV 0 hts h_X4_clear_X4_programChanged_40 rfl rfl rfl (by decide +kernel) ⟨Nat.le_of_ble_eq_true rfl, Nat.le_of_ble_eq_true rfl⟩) ⟨cPre_blind, va_recv hK hPc (ci := 4) (q0 := 0) rfl rfl, cPre_of hK hN hPc hDc⟩ rfl rfl hl.1 rfl (lv_room (Nat.le_of_ble_eq_true rfl)) dX4_clear_16 ⟨Nat.le_of_ble_eq_true rfl, Nat.le_of_ble_eq_true rfl⟩) hS (fun q _ h => hFc q h) hFc (fun u_3 t_3 H_3 locs_3 ht hvm hw_3 hB hz1 hk1 hS1 => ?_)
  obtain ⟨v_4, v_5, v_6, v_7, f_8, f_9⟩ := u_3
  obtain ⟨hP1, hK1, hD1⟩ := hB
  rw [ht] at hP1
  obtain ⟨hP2, hD2⟩ := va_join (wr := [(ph, .inr (3, [p_rows, p_dropped, .int v_2]))]) (w1 := [(xh, .inr (4, [.ref ph, .ref lh, .ref mh, .int x_lastStatus])), (lh, .inr (1, [l_now, l_ahead, .int v_4, l_isReached, l_mayThrow, .int l_gatheredAny, .int l_gatheredLeast, .int l_gatheredGreatest])), (mh, .inr (2, [.int v_5, .int v_6, .int v_7, .ref ma_values, .ref ma_meant, m_lanes, m_lengths, m_cells, .long m_state])), (ma_values, .inl (cI, 6, .inl f_8)), (ma_meant, .inl (cI, 6, .inl f_9))]) hP hD [0, 1, 2, 3, 4] [5] rfl rfl (by decide) (by decide) hk1 hFc hP1 hD1
  clear hPc hDc hFc hP1 hD1 hK1 hk1 hz1 hvm ht
  replace hP : va_P (dC, dI) vwCl [(ph, .inr (3, [p_rows, p_dropped, .int v_2])), (xh, .inr (4, [.ref ph, .ref lh, .ref mh, .int x_lastStatus])), (lh, .inr (1, [l_now, l_ahead, .int v_4, l_isReached, l_mayThrow, .int l_gatheredAny, .int l_gatheredLeast, .int l_gatheredGreatest])), (mh, .inr (2, [.int v_5, .int v_6, .int v_7, .ref ma_values, .ref ma_meant, m_lanes, m_lengths, m_cells, .long m_state])), (ma_values, .inl (cI, 6, .inl f_8)), (ma_meant, .inl (cI, 6, .inl f_9))] H_3 := hP2
  replace hD : va_D A [(ph, .inr (3, [p_rows, p_dropped, .int v_2])), (xh, .inr (4, [.ref ph, .ref lh, .ref mh, .int x_lastStatus])), (lh, .inr (1, [l_now, l_ahead, .int v_4, l_isReached, l_mayThrow, .int l_gatheredAny, .int l_gatheredLeast, .int l_gatheredGreatest])), (mh, .inr (2, [.int v_5, .int v_6, .int v_7, .ref ma_values, .ref ma_meant, m_lanes, m_lengths, m_cells, .long m_state])), (ma_values, .inl (cI, 6, .inl f_8)), (ma_meant, .inl (cI, 6, .inl f_9))] := hD2
  replace hS := hS1
  clear hP2 hD2 hS1
  replace hw_3 : (kZ v_4) ∧ (kZ v_5) ∧ (∀ j : Nat, kSITE (f_9 j)) := hw_3
  obtain ⟨q_v_4, q_v_5, h_f_9⟩ := hw_3
  refine lv_iload_n hx hb dX4_clear_19 rfl (lv_at hl 0 rfl) ?_
  have hP9 := hP.sub (ws' := [(xh, .inr (4, [.ref ph, .ref lh, .ref mh, .int x_lastStatus])), (ph, .inr (3, [p_rows, p_dropped, .int v_2])), (lh, .inr (1, [l_now, l_ahead, .int v_4, l_isReached, l_mayThrow, .int l_gatheredAny, .int l_gatheredLeast, .int l_gatheredGreatest])), (mh, .inr (2, [.int v_5, .int v_6, .int v_7, .ref ma_values, .ref ma_meant, m_lanes, m_lengths, m_cells, .long m_state])), (ma_values, .inl (cI, 6, .inl f_8)), (ma_meant, .inl (cI, 6, .inl f_9))]) [1, 0, 2, 3, 4, 5] rfl
  have hD9 := hD.sub (ws' := [(xh, .inr (4, [.ref ph, .ref lh, .ref mh, .int x_lastStatus])), (ph, .inr (3, [p_rows, p_dropped, .int v_2])), (lh, .inr (1, [l_now, l_ahead, .int v_4, l_isReached, l_mayThrow, .int l_gatheredAny, .int l_gatheredLeast, .int l_gatheredGreatest])), (mh, .inr (2, [.int v_5, .int v_6, .int v_7, .ref ma_values, .ref ma_meant, m_lanes, m_lengths, m_cells, .long m_state])), (ma_values, .inl (cI, 6, .inl f_8)), (ma_meant, .inl (cI, 6, .inl f_9))]) [1, 0, 2, 3, 4, 5] (by decide) rfl
  exact W.iret (v := p_count) hx hb hr (fun t ht hW => ⟨⟨p_count, (v_2, v_4, v_5, v_6, v_7, f_8, f_9), rfl, ⟨(show p_count = p_count from rfl), (show kZ v_4 from q_v_4), (show kZ v_5 from q_v_5), (show ∀ j : Nat, kSITE (f_9 j) from h_f_9), (show v_2 = 0 from x_1_0)⟩, by rw [ht]; exact hP9, va_K.moved hW.alike hK, hD9⟩, hS.F ht⟩) hS.2.2 dX4_clear_20

def v_X4_act : List Cond := .code yX4_act cX4_act 8 (some .int) :: ([.methodLink RX4 43 yX3_isAct, .static yX3_isAct, .initialized RX3, .fieldLink RX4 10 "ArraySegments" "program" "LArraySegments$Program;", .fieldLink RX4 34 "ArraySegments$Program" "count" "I", .methodLink RX4 47 yX3_append, .instanceMethod yX3_append, .selects RX3 yX3_append yX3_append, .methodLink RX4 40 yX4_programChanged, .instanceMethod yX4_programChanged, .selects RX4 yX4_programChanged yX4_programChanged, .initialized RX4] ++ (wsX40 ++ (wsX30 ++ (v_X3_isAct ++ (v_X3_append ++ (v_X4_programChanged))))))
theorem inv_X4_act_X4 : ∀ w ∈ wsX40, w ∈ v_X4_act := fun _ h => List.mem_cons_of_mem _ (List.mem_append_right _ (List.mem_append_left _ h))
theorem inv_X4_act_X3 : ∀ w ∈ wsX30, w ∈ v_X4_act := fun _ h => List.mem_cons_of_mem _ (List.mem_append_right _ (List.mem_append_right _ (List.mem_append_left _ h)))
theorem im_X4_act_X3_isAct : ∀ w ∈ v_X3_isAct, w ∈ v_X4_act := fun _ h => List.mem_cons_of_mem _ (List.mem_append_right _ (List.mem_append_right _ (List.mem_append_right _ (List.mem_append_left _ h))))
theorem im_X4_act_X3_append : ∀ w ∈ v_X3_append, w ∈ v_X4_act := fun _ h => List.mem_cons_of_mem _ (List.mem_append_right _ (List.mem_append_right _ (List.mem_append_right _ (List.mem_append_right _ (List.mem_append_left _ h)))))
theorem im_X4_act_X4_programChanged : ∀ w ∈ v_X4_programChanged, w ∈ v_X4_act := fun _ h => List.mem_cons_of_mem _ (List.mem_append_right _ (List.mem_append_right _ (List.mem_append_right _ (List.mem_append_right _ (List.mem_append_right _ (h))))))
set_option maxRecDepth 20000 in
theorem gd_X4_act : gdL v_X4_act := gdC (gdW (by decide +kernel)) (gdA (gdW (by decide +kernel)) (gdA gd_wsX40 (gdA gd_wsX30 (gdA gd_X3_isAct (gdA gd_X3_append gd_X4_programChanged)))))
set_option maxRecDepth 20000 in
theorem h_X4_act_X3_isAct_43 : GoodIn v_X4_act (va_wsS RX4 43 yX3_isAct v_X3_isAct) := gdI [1, 2, 3] rfl (by decide +kernel) (im_X4_act_X3_isAct) gd_X3_isAct
set_option maxRecDepth 20000 in
theorem h_X4_act_X3_append_47 : GoodIn v_X4_act (wsV RX4 47 RX3 yX3_append v_X3_append) := gdI [6, 7, 8, 3] rfl (by decide +kernel) (im_X4_act_X3_append) gd_X3_append
set_option maxRecDepth 20000 in
theorem h_X4_act_X4_programChanged_40 : GoodIn v_X4_act (wsV RX4 40 RX4 yX4_programChanged v_X4_programChanged) := gdI [9, 10, 11, 12] rfl (by decide +kernel) (im_X4_act_X4_programChanged) gd_X4_programChanged
abbrev sw_X4_act (cI cJ cZ : ClassId) (xh : Nat) (ph : Nat) (lh : Nat) (mh : Nat) (x_lastStatus : Int32) (pa_rows : Nat) (pa_dropped : Nat) (p_count : Int32) (pc_rows : Nat → Int32) (pc_dropped : Nat → Int32) (l_now : Value) (l_ahead : Value) (l_isOld : Int32) (l_isReached : Value) (l_mayThrow : Value) (l_gatheredAny : Int32) (l_gatheredLeast : Int32) (l_gatheredGreatest : Int32) (m_hasRun : Int32) (m_thrown : Int32) (m_thrownAt : Int32) (ma_values : Nat) (ma_meant : Nat) (m_lanes : Value) (m_lengths : Value) (m_cells : Value) (m_state : Int64) (mc_values : Nat → Int32) (mc_meant : Nat → Int32) (ka : Int32) (aa : Int32) (ba : Int32) (ca : Int32) (da : Int32) (ea : Int32) : va_W := [(xh, .inr (4, [.ref ph, .ref lh, .ref mh, .int x_lastStatus])), (ph, .inr (3, [.ref pa_rows, .ref pa_dropped, .int p_count])), (pa_rows, .inl (cI, 240, .inl pc_rows)), (pa_dropped, .inl (cZ, 40, .inl pc_dropped)), (lh, .inr (1, [l_now, l_ahead, .int l_isOld, l_isReached, l_mayThrow, .int l_gatheredAny, .int l_gatheredLeast, .int l_gatheredGreatest])), (mh, .inr (2, [.int m_hasRun, .int m_thrown, .int m_thrownAt, .ref ma_values, .ref ma_meant, m_lanes, m_lengths, m_cells, .long m_state])), (ma_values, .inl (cI, 6, .inl mc_values)), (ma_meant, .inl (cI, 6, .inl mc_meant))]
set_option maxHeartbeats 8000000 in
set_option maxRecDepth 100000 in
theorem s_X4_act (l : Launch) (dC : Nat → ClassId) (dI : Nat → Nat → Nat) (cI cJ cZ : ClassId) (xh : Nat) (ph : Nat) (lh : Nat) (mh : Nat) (x_lastStatus : Int32) (pa_rows : Nat) (pa_dropped : Nat) (p_count : Int32) (pc_rows : Nat → Int32) (pc_dropped : Nat → Int32) (l_now : Value) (l_ahead : Value) (l_isOld : Int32) (l_isReached : Value) (l_mayThrow : Value) (l_gatheredAny : Int32) (l_gatheredLeast : Int32) (l_gatheredGreatest : Int32) (m_hasRun : Int32) (m_thrown : Int32) (m_thrownAt : Int32) (ma_values : Nat) (ma_meant : Nat) (m_lanes : Value) (m_lengths : Value) (m_cells : Value) (m_state : Int64) (mc_values : Nat → Int32) (mc_meant : Nat → Int32) (ka : Int32) (aa : Int32) (ba : Int32) (ca : Int32) (da : Int32) (ea : Int32) (sz : Nat) (q_l_isOld : kZ l_isOld) (q_l_gatheredAny : kZ l_gatheredAny) (q_m_hasRun : kZ m_hasRun) (h_mc_meant : ∀ j : Nat, kSITE (mc_meant j)) (hy_count : 0 ≤ p_count.toInt ∧ p_count.toInt ≤ 40) : Met l yX4_act v_X4_act ({ frames := 2, cells := 0, slots := 0, locals := 45 }) (va_Pc [.ref xh, .int ka, .int aa, .int ba, .int ca, .int da, .int ea] (cPre dC dI cI cJ cZ sz (sw_X4_act cI cJ cZ xh ph lh mh x_lastStatus pa_rows pa_dropped p_count pc_rows pc_dropped l_now l_ahead l_isOld l_isReached l_mayThrow l_gatheredAny l_gatheredLeast l_gatheredGreatest m_hasRun m_thrown m_thrownAt ma_values ma_meant m_lanes m_lengths m_cells m_state mc_values mc_meant ka aa ba ca da ea))) (va_Qi (fun (r : Int32) (u : Int32 × (Nat → Int32) × (Nat → Int32) × Int32 × Int32 × Int32 × Int32 × (Nat → Int32) × (Nat → Int32)) => ((r = -2 ∧ ¬ okP ka aa ba ca da ea) ∨ (r = -4 ∧ okP ka aa ba ca da ea ∧ 40 ≤ p_count.toInt) ∨ (r.toInt = p_count.toInt ∧ okP ka aa ba ca da ea ∧ p_count.toInt < 40)) ∧ (kZ (u.2.2.2.1)) ∧ (kZ (u.2.2.2.2.1)) ∧ (∀ j : Nat, kSITE ((u.2.2.2.2.2.2.2.2) j)) ∧ (((¬ okP ka aa ba ca da ea ∨ 40 ≤ p_count.toInt) ∧ (u.1) = p_count ∧ (u.2.1) = pc_rows ∧ (u.2.2.1) = pc_dropped) ∨ (okP ka aa ba ca da ea ∧ p_count.toInt < 40 ∧ (u.1).toInt = p_count.toInt + 1 ∧ (u.2.1) = (upd (upd (upd (upd (upd (upd pc_rows (6 * p_count.toInt.toNat) ka) (6 * p_count.toInt.toNat + 1) aa) (6 * p_count.toInt.toNat + 2) ba) (6 * p_count.toInt.toNat + 3) ca) (6 * p_count.toInt.toNat + 4) da) (6 * p_count.toInt.toNat + 5) ea) ∧ (u.2.2.1) = (upd pc_dropped (p_count.toInt.toNat) 0)))) (fun (u : Int32 × (Nat → Int32) × (Nat → Int32) × Int32 × Int32 × Int32 × Int32 × (Nat → Int32) × (Nat → Int32)) => cPost dC dI cI cJ cZ (va_A (sw_X4_act cI cJ cZ xh ph lh mh x_lastStatus pa_rows pa_dropped p_count pc_rows pc_dropped l_now l_ahead l_isOld l_isReached l_mayThrow l_gatheredAny l_gatheredLeast l_gatheredGreatest m_hasRun m_thrown m_thrownAt ma_values ma_meant m_lanes m_lengths m_cells m_state mc_values mc_meant ka aa ba ca da ea) sz) [(xh, .inr (4, [.ref ph, .ref lh, .ref mh, .int x_lastStatus])), (ph, .inr (3, [.ref pa_rows, .ref pa_dropped, .int (u.1)])), (pa_rows, .inl (cI, 240, .inl (u.2.1))), (pa_dropped, .inl (cZ, 40, .inl (u.2.2.1))), (lh, .inr (1, [l_now, l_ahead, .int (u.2.2.2.1), l_isReached, l_mayThrow, .int l_gatheredAny, .int l_gatheredLeast, .int l_gatheredGreatest])), (mh, .inr (2, [.int (u.2.2.2.2.1), .int (u.2.2.2.2.2.1), .int (u.2.2.2.2.2.2.1), .ref ma_values, .ref ma_meant, m_lanes, m_lengths, m_cells, .long m_state])), (ma_values, .inl (cI, 6, .inl (u.2.2.2.2.2.2.2.1))), (ma_meant, .inl (cI, 6, .inl (u.2.2.2.2.2.2.2.2)))]) (va_A (sw_X4_act cI cJ cZ xh ph lh mh x_lastStatus pa_rows pa_dropped p_count pc_rows pc_dropped l_now l_ahead l_isOld l_isReached l_mayThrow l_gatheredAny l_gatheredLeast l_gatheredGreatest m_hasRun m_thrown m_thrownAt ma_values ma_meant m_lanes m_lengths m_cells m_state mc_values mc_meant ka aa ba ca da ea) sz)) 0 0 (va_A (sw_X4_act cI cJ cZ xh ph lh mh x_lastStatus pa_rows pa_dropped p_count pc_rows pc_dropped l_now l_ahead l_isOld l_isReached l_mayThrow l_gatheredAny l_gatheredLeast l_gatheredGreatest m_hasRun m_thrown m_thrownAt ma_values ma_meant m_lanes m_lengths m_cells m_state mc_values mc_meant ka aa ba ca da ea) sz) := by
  refine Met.ofW (cc := cX4_act) (maxL := 8) (ret := (some .int)) (by decide) rfl ?_
  intro p e s m args below meth c s₁ B hml hv
  obtain ⟨rfl, hsz, hP, hK, hD0, hN⟩ := hv
  have hx := B.exec
  have hb := B.bytes
  have hr := B.returns
  have hts := atoms_spec (ws := v_X4_act) B.pre
  have hown : s.vm.findClass RX4 = some m.cls := findClass_of_methodNamed B.named
  have hlocks := B.notSynchronized
  subst hsz
  have hD := hD0.self (sz := s.heap.size)
  generalize hAe : va_A (sw_X4_act cI cJ cZ xh ph lh mh x_lastStatus pa_rows pa_dropped p_count pc_rows pc_dropped l_now l_ahead l_isOld l_isReached l_mayThrow l_gatheredAny l_gatheredLeast l_gatheredGreatest m_hasRun m_thrown m_thrownAt ma_values ma_meant m_lanes m_lengths m_cells m_state mc_values mc_meant ka aa ba ca da ea) s.heap.size = A at hD ⊢
  have hA : ∀ q : Nat, s.heap.size ≤ q → A q := fun q h => by rw [← hAe]; exact Or.inr h
  clear hAe hD0
  have hS : va_S A s.heap s.heap [] := va_S.rf
  replace hP : va_P (dC, dI) vwCl [(xh, .inr (4, [.ref ph, .ref lh, .ref mh, .int x_lastStatus])), (ph, .inr (3, [.ref pa_rows, .ref pa_dropped, .int p_count])), (pa_rows, .inl (cI, 240, .inl pc_rows)), (pa_dropped, .inl (cZ, 40, .inl pc_dropped)), (lh, .inr (1, [l_now, l_ahead, .int l_isOld, l_isReached, l_mayThrow, .int l_gatheredAny, .int l_gatheredLeast, .int l_gatheredGreatest])), (mh, .inr (2, [.int m_hasRun, .int m_thrown, .int m_thrownAt, .ref ma_values, .ref ma_meant, m_lanes, m_lengths, m_cells, .long m_state])), (ma_values, .inl (cI, 6, .inl mc_values)), (ma_meant, .inl (cI, 6, .inl mc_meant))] s.heap := hP
  replace hD : va_D A [(xh, .inr (4, [.ref ph, .ref lh, .ref mh, .int x_lastStatus])), (ph, .inr (3, [.ref pa_rows, .ref pa_dropped, .int p_count])), (pa_rows, .inl (cI, 240, .inl pc_rows)), (pa_dropped, .inl (cZ, 40, .inl pc_dropped)), (lh, .inr (1, [l_now, l_ahead, .int l_isOld, l_isReached, l_mayThrow, .int l_gatheredAny, .int l_gatheredLeast, .int l_gatheredGreatest])), (mh, .inr (2, [.int m_hasRun, .int m_thrown, .int m_thrownAt, .ref ma_values, .ref ma_meant, m_lanes, m_lengths, m_cells, .long m_state])), (ma_values, .inl (cI, 6, .inl mc_values)), (ma_meant, .inl (cI, 6, .inl mc_meant))] := hD
  have hl := lv_entry ([.ref xh, .int ka, .int aa, .int ba, .int ca, .int da, .int ea]) (n := 8) (Nat.le_of_ble_eq_true rfl)
  rw [lg_entry_eq]
  generalize (lg_sl ([.ref xh, .int ka, .int aa, .int ba, .int ca, .int da, .int ea]) ++ List.replicate (8 - (lg_sl ([.ref xh, .int ka, .int aa, .int ba, .int ca, .int da, .int ea])).length) Slot.unset).toArray = ls at hl ⊢
  replace hl : lv_has ls 8 [(0, .ref xh), (1, .int ka), (2, .int aa), (3, .int ba), (4, .int ca), (5, .int da), (6, .int ea)] := hl
  have z_m4 : (-4 : Int32).toInt = -4 := by decide
  have z_m2 : (-2 : Int32).toInt = -2 := by decide
  have z_0 : (0 : Int32).toInt = 0 := by decide
  have z_1 : (1 : Int32).toInt = 1 := by decide
  have z_40 : (40 : Int32).toInt = 40 := by decide
  refine lv_iload_n hx hb dX4_act_0 rfl (lv_at hl 1 rfl) ?_
  refine lv_iload_n hx hb dX4_act_1 rfl (lv_at hl 2 rfl) ?_
  refine lv_iload_n hx hb dX4_act_2 rfl (lv_at hl 3 rfl) ?_
  refine lv_iload hx hb dX4_act_3 (lv_at hl 4 rfl) ?_
  refine lv_iload hx hb dX4_act_5 (lv_at hl 5 rfl) ?_
  refine lv_iload hx hb dX4_act_7 (lv_at hl 6 rfl) ?_
  have hPc := hP.sub (ws' := []) [] rfl
  have hDc := hD.sub (ws' := []) [] (by decide) rfl
  have hFc := va_free (wc := []) hD hS hA [] rfl
  refine va_calli (va_runS (As := [.int ka, .int aa, .int ba, .int ca, .int da, .int ea]) (rest := []) ⟨hx, hb, hml, hown, hts⟩ (s_X3_isAct l dC dI cI cJ cZ ka aa ba ca da ea s.heap.size) (va_cwS 6 hts h_X4_act_X3_isAct_43 rfl rfl rfl (by decide +kernel) ⟨Nat.le_of_ble_eq_true rfl, Nat.le_of_ble_eq_true rfl⟩) ⟨cPre_blind, cPre_of hK hN hPc hDc⟩ rfl rfl hl.1 rfl (lv_room (Nat.le_of_ble_eq_true rfl)) dX4_act_9 ⟨Nat.le_of_ble_eq_true rfl, Nat.le_of_ble_eq_true rfl⟩) hS (fun q _ h => hFc q h) hFc (fun r_1 u_1 t_1 H_1 locs_1 ht hvm hw_1 hB hz1 hk1 hS1 => ?_)
  obtain ⟨hP1, hK1, hD1⟩ := hB
  rw [ht] at hP1
  obtain ⟨hP2, hD2⟩ := va_join (wr := [(xh, .inr (4, [.ref ph, .ref lh, .ref mh, .int x_lastStatus])), (ph, .inr (3, [.ref pa_rows, .ref pa_dropped, .int p_count])), (pa_rows, .inl (cI, 240, .inl pc_rows)), (pa_dropped, .inl (cZ, 40, .inl pc_dropped)), (lh, .inr (1, [l_now, l_ahead, .int l_isOld, l_isReached, l_mayThrow, .int l_gatheredAny, .int l_gatheredLeast, .int l_gatheredGreatest])), (mh, .inr (2, [.int m_hasRun, .int m_thrown, .int m_thrownAt, .ref ma_values, .ref ma_meant, m_lanes, m_lengths, m_cells, .long m_state])), (ma_values, .inl (cI, 6, .inl mc_values)), (ma_meant, .inl (cI, 6, .inl mc_meant))]) (w1 := []) hP hD [] [0, 1, 2, 3, 4, 5, 6, 7] rfl rfl (by decide) (by decide) hk1 hFc hP1 hD1
  clear hPc hDc hFc hP1 hD1 hK1 hk1 hz1 hvm ht
  replace hP : va_P (dC, dI) vwCl [(xh, .inr (4, [.ref ph, .ref lh, .ref mh, .int x_lastStatus])), (ph, .inr (3, [.ref pa_rows, .ref pa_dropped, .int p_count])), (pa_rows, .inl (cI, 240, .inl pc_rows)), (pa_dropped, .inl (cZ, 40, .inl pc_dropped)), (lh, .inr (1, [l_now, l_ahead, .int l_isOld, l_isReached, l_mayThrow, .int l_gatheredAny, .int l_gatheredLeast, .int l_gatheredGreatest])), (mh, .inr (2, [.int m_hasRun, .int m_thrown, .int m_thrownAt, .ref ma_values, .ref ma_meant, m_lanes, m_lengths, m_cells, .long m_state])), (ma_values, .inl (cI, 6, .inl mc_values)), (ma_meant, .inl (cI, 6, .inl mc_meant))] H_1 := hP2
  replace hD : va_D A [(xh, .inr (4, [.ref ph, .ref lh, .ref mh, .int x_lastStatus])), (ph, .inr (3, [.ref pa_rows, .ref pa_dropped, .int p_count])), (pa_rows, .inl (cI, 240, .inl pc_rows)), (pa_dropped, .inl (cZ, 40, .inl pc_dropped)), (lh, .inr (1, [l_now, l_ahead, .int l_isOld, l_isReached, l_mayThrow, .int l_gatheredAny, .int l_gatheredLeast, .int l_gatheredGreatest])), (mh, .inr (2, [.int m_hasRun, .int m_thrown, .int m_thrownAt, .ref ma_values, .ref ma_meant, m_lanes, m_lengths, m_cells, .long m_state])), (ma_values, .inl (cI, 6, .inl mc_values)), (ma_meant, .inl (cI, 6, .inl mc_meant))] := hD2
  replace hS := hS1
  clear hP2 hD2 hS1
  replace hw_1 : (two r_1 (okP ka aa ba ca da ea) 1 0) := hw_1
  have q_r_1 := hw_1
  refine lv_if_ne (tgt := 18) hx hb dX4_act_12 (by decide) (fun c_2 => ?_) (fun c_2 => ?_)
  · -- yes
    have k_2 : ¬ r_1.toInt = (0 : Int32).toInt := ci_ne c_2
    have kt_2 : okP ka aa ba ca da ea := two_nz q_r_1 c_2
    refine lv_aload_n hx hb dX4_act_18 rfl (lv_at hl 0 rfl) ?_
    refine va_get (D := (dC, dI)) (ci := 4) (v := .ref ph) (C := RX4) (T := TX4) (N := 4) hx hb hts inv_X4_act_X4 hown hK hP 0 rfl rfl 0 (by decide) (hts (.fieldLink RX4 10 "ArraySegments" "program" "LArraySegments$Program;") (List.mem_of_getElem? (i := 4) rfl)) (fun _ h9 => h9) rfl dX4_act_19 ?_
    refine va_get (D := (dC, dI)) (ci := 3) (v := .int p_count) (C := RX3) (T := TX3) (N := 3) hx hb hts inv_X4_act_X3 hown hK hP 1 rfl rfl 2 (by decide) (hts (.fieldLink RX4 34 "ArraySegments$Program" "count" "I") (List.mem_of_getElem? (i := 5) rfl)) (fun _ h9 => h9) rfl dX4_act_22 ?_
    refine lv_bipush (v := 40) hx hb dX4_act_25 (by decide) ?_
    refine lv_icmp_lt (tgt := 33) hx hb dX4_act_27 (by decide) (fun c_3 => ?_) (fun c_3 => ?_)
    · -- yes
      have k_3 : p_count.toInt < (40 : Int32).toInt := ci_lt c_3
      refine lv_aload_n hx hb dX4_act_33 rfl (lv_at hl 0 rfl) ?_
      refine va_get (D := (dC, dI)) (ci := 4) (v := .ref ph) (C := RX4) (T := TX4) (N := 4) hx hb hts inv_X4_act_X4 hown hK hP 0 rfl rfl 0 (by decide) (hts (.fieldLink RX4 10 "ArraySegments" "program" "LArraySegments$Program;") (List.mem_of_getElem? (i := 4) rfl)) (fun _ h9 => h9) rfl dX4_act_34 ?_
      refine lv_iload_n hx hb dX4_act_37 rfl (lv_at hl 1 rfl) ?_
      refine lv_iload_n hx hb dX4_act_38 rfl (lv_at hl 2 rfl) ?_
      refine lv_iload_n hx hb dX4_act_39 rfl (lv_at hl 3 rfl) ?_
      refine lv_iload hx hb dX4_act_40 (lv_at hl 4 rfl) ?_
      refine lv_iload hx hb dX4_act_42 (lv_at hl 5 rfl) ?_
      refine lv_iload hx hb dX4_act_44 (lv_at hl 6 rfl) ?_
      have hPc := hP.sub (ws' := [(ph, .inr (3, [.ref pa_rows, .ref pa_dropped, .int p_count])), (pa_rows, .inl (cI, 240, .inl pc_rows)), (pa_dropped, .inl (cZ, 40, .inl pc_dropped))]) [1, 2, 3] rfl
      have hDc := hD.sub (ws' := [(ph, .inr (3, [.ref pa_rows, .ref pa_dropped, .int p_count])), (pa_rows, .inl (cI, 240, .inl pc_rows)), (pa_dropped, .inl (cZ, 40, .inl pc_dropped))]) [1, 2, 3] (by decide) rfl
      have hFc := va_free (wc := [(ph, .inr (3, [.ref pa_rows, .ref pa_dropped, .int p_count])), (pa_rows, .inl (cI, 240, .inl pc_rows)), (pa_dropped, .inl (cZ, 40, .inl pc_dropped))]) hD hS hA [1, 2, 3] rfl
      refine va_calli (va_runV (As := [.int ka, .int aa, .int ba, .int ca, .int da, .int ea]) (rest := []) ⟨hx, hb, hml, hown, hts⟩ (s_X3_append l dC dI cI cJ cZ ph pa_rows pa_dropped p_count pc_rows pc_dropped ka aa ba ca da ea H_1.size (by first | assumption | omega)) (cwV 6 hts h_X4_act_X3_append_47 rfl rfl rfl (by decide +kernel) ⟨Nat.le_of_ble_eq_true rfl, Nat.le_of_ble_eq_true rfl⟩) ⟨cPre_blind, va_recv hK hPc (ci := 3) (q0 := 0) rfl rfl, cPre_of hK hN hPc hDc⟩ rfl rfl hl.1 rfl (lv_room (Nat.le_of_ble_eq_true rfl)) dX4_act_46 ⟨Nat.le_of_ble_eq_true rfl, Nat.le_of_ble_eq_true rfl⟩) hS (fun q _ h => hFc q h) hFc (fun r_4 u_4 t_4 H_4 locs_4 ht hvm hw_4 hB hz1 hk1 hS1 => ?_)
      obtain ⟨v_5, f_6, f_7⟩ := u_4
      obtain ⟨hP1, hK1, hD1⟩ := hB
      rw [ht] at hP1
      obtain ⟨hP2, hD2⟩ := va_join (wr := [(xh, .inr (4, [.ref ph, .ref lh, .ref mh, .int x_lastStatus])), (lh, .inr (1, [l_now, l_ahead, .int l_isOld, l_isReached, l_mayThrow, .int l_gatheredAny, .int l_gatheredLeast, .int l_gatheredGreatest])), (mh, .inr (2, [.int m_hasRun, .int m_thrown, .int m_thrownAt, .ref ma_values, .ref ma_meant, m_lanes, m_lengths, m_cells, .long m_state])), (ma_values, .inl (cI, 6, .inl mc_values)), (ma_meant, .inl (cI, 6, .inl mc_meant))]) (w1 := [(ph, .inr (3, [.ref pa_rows, .ref pa_dropped, .int v_5])), (pa_rows, .inl (cI, 240, .inl f_6)), (pa_dropped, .inl (cZ, 40, .inl f_7))]) hP hD [1, 2, 3] [0, 4, 5, 6, 7] rfl rfl (by decide) (by decide) hk1 hFc hP1 hD1
      clear hPc hDc hFc hP1 hD1 hK1 hk1 hz1 hvm ht
      replace hP : va_P (dC, dI) vwCl [(xh, .inr (4, [.ref ph, .ref lh, .ref mh, .int x_lastStatus])), (lh, .inr (1, [l_now, l_ahead, .int l_isOld, l_isReached, l_mayThrow, .int l_gatheredAny, .int l_gatheredLeast, .int l_gatheredGreatest])), (mh, .inr (2, [.int m_hasRun, .int m_thrown, .int m_thrownAt, .ref ma_values, .ref ma_meant, m_lanes, m_lengths, m_cells, .long m_state])), (ma_values, .inl (cI, 6, .inl mc_values)), (ma_meant, .inl (cI, 6, .inl mc_meant)), (ph, .inr (3, [.ref pa_rows, .ref pa_dropped, .int v_5])), (pa_rows, .inl (cI, 240, .inl f_6)), (pa_dropped, .inl (cZ, 40, .inl f_7))] H_4 := hP2
      replace hD : va_D A [(xh, .inr (4, [.ref ph, .ref lh, .ref mh, .int x_lastStatus])), (lh, .inr (1, [l_now, l_ahead, .int l_isOld, l_isReached, l_mayThrow, .int l_gatheredAny, .int l_gatheredLeast, .int l_gatheredGreatest])), (mh, .inr (2, [.int m_hasRun, .int m_thrown, .int m_thrownAt, .ref ma_values, .ref ma_meant, m_lanes, m_lengths, m_cells, .long m_state])), (ma_values, .inl (cI, 6, .inl mc_values)), (ma_meant, .inl (cI, 6, .inl mc_meant)), (ph, .inr (3, [.ref pa_rows, .ref pa_dropped, .int v_5])), (pa_rows, .inl (cI, 240, .inl f_6)), (pa_dropped, .inl (cZ, 40, .inl f_7))] := hD2
      replace hS := hS1
      clear hP2 hD2 hS1
      replace hw_4 : (r_4.toInt = p_count.toInt) ∧ (v_5.toInt = p_count.toInt + 1) ∧ (f_6 = (upd (upd (upd (upd (upd (upd pc_rows (6 * p_count.toInt.toNat) ka) (6 * p_count.toInt.toNat + 1) aa) (6 * p_count.toInt.toNat + 2) ba) (6 * p_count.toInt.toNat + 3) ca) (6 * p_count.toInt.toNat + 4) da) (6 * p_count.toInt.toNat + 5) ea)) ∧ (f_7 = (upd pc_dropped (p_count.toInt.toNat) 0)) := hw_4
      obtain ⟨q_r_4, x_4_0, x_4_1, x_4_2⟩ := hw_4
      refine lv_istore (lv' := [(7, .int r_4), (0, .ref xh), (1, .int ka), (2, .int aa), (3, .int ba), (4, .int ca), (5, .int da), (6, .int ea)]) hx hb dX4_act_49 hl (by decide) rfl (fun ls1 hl1 => ?_)
      replace hl := hl1; clear hl1
      refine lv_aload_n hx hb dX4_act_51 rfl (lv_at hl 1 rfl) ?_
      have hPc := hP.sub (ws' := [(xh, .inr (4, [.ref ph, .ref lh, .ref mh, .int x_lastStatus])), (lh, .inr (1, [l_now, l_ahead, .int l_isOld, l_isReached, l_mayThrow, .int l_gatheredAny, .int l_gatheredLeast, .int l_gatheredGreatest])), (mh, .inr (2, [.int m_hasRun, .int m_thrown, .int m_thrownAt, .ref ma_values, .ref ma_meant, m_lanes, m_lengths, m_cells, .long m_state])), (ma_values, .inl (cI, 6, .inl mc_values)), (ma_meant, .inl (cI, 6, .inl mc_meant))]) [0, 1, 2, 3, 4] rfl
      have hDc := hD.sub (ws' := [(xh, .inr (4, [.ref ph, .ref lh, .ref mh, .int x_lastStatus])), (lh, .inr (1, [l_now, l_ahead, .int l_isOld, l_isReached, l_mayThrow, .int l_gatheredAny, .int l_gatheredLeast, .int l_gatheredGreatest])), (mh, .inr (2, [.int m_hasRun, .int m_thrown, .int m_thrownAt, .ref ma_values, .ref ma_meant, m_lanes, m_lengths, m_cells, .long m_state])), (ma_values, .inl (cI, 6, .inl mc_values)), (ma_meant, .inl (cI, 6, .inl mc_meant))]) [0, 1, 2, 3, 4] (by decide) rfl
      have hFc := va_free (wc := [(xh, .inr (4, [.ref ph, .ref lh, .ref mh, .int x_lastStatus])), (lh, .inr (1, [l_now, l_ahead, .int l_isOld, l_isReached, l_mayThrow, .int l_gatheredAny, .int l_gatheredLeast, .int l_gatheredGreatest])), (mh, .inr (2, [.int m_hasRun, .int m_thrown, .int m_thrownAt, .ref ma_values, .ref ma_meant, m_lanes, m_lengths, m_cells, .long m_state])), (ma_values, .inl (cI, 6, .inl mc_values)), (ma_meant, .inl (cI, 6, .inl mc_meant))]) hD hS hA [0, 1, 2, 3, 4] rfl
      refine va_callv (va_runV (As := []) (rest := []) ⟨hx, hb, hml, hown, hts⟩ (s_X4_programChanged l dC dI cI cJ cZ xh (.ref ph) lh mh x_lastStatus l_now l_ahead l_isOld l_isReached l_mayThrow l_gatheredAny l_gatheredLeast l_gatheredGreatest m_hasRun m_thrown m_thrownAt ma_values ma_meant m_lanes m_lengths m_cells m_state mc_values mc_meant H_4.size q_l_isOld q_l_gatheredAny q_m_hasRun h_mc_meant) (cwV 0 hts h_X4_act_X4_programChanged_40 rfl rfl rfl (by decide +kernel) ⟨Nat.le_of_ble_eq_true rfl, Nat.le_of_ble_eq_true rfl⟩) ⟨cPre_blind, va_recv hK hPc (ci := 4) (q0 := 0) rfl rfl, cPre_of hK hN hPc hDc⟩ rfl rfl hl.1 rfl (lv_room (Nat.le_of_ble_eq_true rfl)) dX4_act_52 ⟨Nat.le_of_ble_eq_true rfl, Nat.le_of_ble_eq_true rfl⟩) hS (fun q _ h => hFc q h) hFc (fun u_8 t_8 H_8 locs_8 ht hvm hw_8 hB hz1 hk1 hS1 => ?_)
      obtain ⟨v_9, v_10, v_11, v_12, f_13, f_14⟩ := u_8
      obtain ⟨hP1, hK1, hD1⟩ := hB
      rw [ht] at hP1
      obtain ⟨hP2, hD2⟩ := va_join (wr := [(ph, .inr (3, [.ref pa_rows, .ref pa_dropped, .int v_5])), (pa_rows, .inl (cI, 240, .inl f_6)), (pa_dropped, .inl (cZ, 40, .inl f_7))]) (w1 := [(xh, .inr (4, [.ref ph, .ref lh, .ref mh, .int x_lastStatus])), (lh, .inr (1, [l_now, l_ahead, .int v_9, l_isReached, l_mayThrow, .int l_gatheredAny, .int l_gatheredLeast, .int l_gatheredGreatest])), (mh, .inr (2, [.int v_10, .int v_11, .int v_12, .ref ma_values, .ref ma_meant, m_lanes, m_lengths, m_cells, .long m_state])), (ma_values, .inl (cI, 6, .inl f_13)), (ma_meant, .inl (cI, 6, .inl f_14))]) hP hD [0, 1, 2, 3, 4] [5, 6, 7] rfl rfl (by decide) (by decide) hk1 hFc hP1 hD1
      clear hPc hDc hFc hP1 hD1 hK1 hk1 hz1 hvm ht
      replace hP : va_P (dC, dI) vwCl [(ph, .inr (3, [.ref pa_rows, .ref pa_dropped, .int v_5])), (pa_rows, .inl (cI, 240, .inl f_6)), (pa_dropped, .inl (cZ, 40, .inl f_7)), (xh, .inr (4, [.ref ph, .ref lh, .ref mh, .int x_lastStatus])), (lh, .inr (1, [l_now, l_ahead, .int v_9, l_isReached, l_mayThrow, .int l_gatheredAny, .int l_gatheredLeast, .int l_gatheredGreatest])), (mh, .inr (2, [.int v_10, .int v_11, .int v_12, .ref ma_values, .ref ma_meant, m_lanes, m_lengths, m_cells, .long m_state])), (ma_values, .inl (cI, 6, .inl f_13)), (ma_meant, .inl (cI, 6, .inl f_14))] H_8 := hP2
      replace hD : va_D A [(ph, .inr (3, [.ref pa_rows, .ref pa_dropped, .int v_5])), (pa_rows, .inl (cI, 240, .inl f_6)), (pa_dropped, .inl (cZ, 40, .inl f_7)), (xh, .inr (4, [.ref ph, .ref lh, .ref mh, .int x_lastStatus])), (lh, .inr (1, [l_now, l_ahead, .int v_9, l_isReached, l_mayThrow, .int l_gatheredAny, .int l_gatheredLeast, .int l_gatheredGreatest])), (mh, .inr (2, [.int v_10, .int v_11, .int v_12, .ref ma_values, .ref ma_meant, m_lanes, m_lengths, m_cells, .long m_state])), (ma_values, .inl (cI, 6, .inl f_13)), (ma_meant, .inl (cI, 6, .inl f_14))] := hD2
      replace hS := hS1
      clear hP2 hD2 hS1
      replace hw_8 : (kZ v_9) ∧ (kZ v_10) ∧ (∀ j : Nat, kSITE (f_14 j)) := hw_8
      obtain ⟨q_v_9, q_v_10, h_f_14⟩ := hw_8
      refine lv_iload hx hb dX4_act_55 (lv_at hl 0 rfl) ?_
      have hP9 := hP.sub (ws' := [(xh, .inr (4, [.ref ph, .ref lh, .ref mh, .int x_lastStatus])), (ph, .inr (3, [.ref pa_rows, .ref pa_dropped, .int v_5])), (pa_rows, .inl (cI, 240, .inl f_6)), (pa_dropped, .inl (cZ, 40, .inl f_7)), (lh, .inr (1, [l_now, l_ahead, .int v_9, l_isReached, l_mayThrow, .int l_gatheredAny, .int l_gatheredLeast, .int l_gatheredGreatest])), (mh, .inr (2, [.int v_10, .int v_11, .int v_12, .ref ma_values, .ref ma_meant, m_lanes, m_lengths, m_cells, .long m_state])), (ma_values, .inl (cI, 6, .inl f_13)), (ma_meant, .inl (cI, 6, .inl f_14))]) [3, 0, 1, 2, 4, 5, 6, 7] rfl
      have hD9 := hD.sub (ws' := [(xh, .inr (4, [.ref ph, .ref lh, .ref mh, .int x_lastStatus])), (ph, .inr (3, [.ref pa_rows, .ref pa_dropped, .int v_5])), (pa_rows, .inl (cI, 240, .inl f_6)), (pa_dropped, .inl (cZ, 40, .inl f_7)), (lh, .inr (1, [l_now, l_ahead, .int v_9, l_isReached, l_mayThrow, .int l_gatheredAny, .int l_gatheredLeast, .int l_gatheredGreatest])), (mh, .inr (2, [.int v_10, .int v_11, .int v_12, .ref ma_values, .ref ma_meant, m_lanes, m_lengths, m_cells, .long m_state])), (ma_values, .inl (cI, 6, .inl f_13)), (ma_meant, .inl (cI, 6, .inl f_14))]) [3, 0, 1, 2, 4, 5, 6, 7] (by decide) rfl
      exact W.iret (v := r_4) hx hb hr (fun t ht hW => ⟨⟨r_4, (v_5, f_6, f_7, v_9, v_10, v_11, v_12, f_13, f_14), rfl, ⟨(show (r_4 = -2 ∧ ¬ okP ka aa ba ca da ea) ∨ (r_4 = -4 ∧ okP ka aa ba ca da ea ∧ 40 ≤ p_count.toInt) ∨ (r_4.toInt = p_count.toInt ∧ okP ka aa ba ca da ea ∧ p_count.toInt < 40) from (by first | exact Or.inl ⟨rfl, by assumption⟩ | exact Or.inr (Or.inl ⟨rfl, by assumption, by omega⟩) | exact Or.inr (Or.inr ⟨by omega, by assumption, by omega⟩))), (show kZ v_9 from q_v_9), (show kZ v_10 from q_v_10), (show ∀ j : Nat, kSITE (f_14 j) from h_f_14), (show ((¬ okP ka aa ba ca da ea ∨ 40 ≤ p_count.toInt) ∧ v_5 = p_count ∧ f_6 = pc_rows ∧ f_7 = pc_dropped) ∨ (okP ka aa ba ca da ea ∧ p_count.toInt < 40 ∧ v_5.toInt = p_count.toInt + 1 ∧ f_6 = (upd (upd (upd (upd (upd (upd pc_rows (6 * p_count.toInt.toNat) ka) (6 * p_count.toInt.toNat + 1) aa) (6 * p_count.toInt.toNat + 2) ba) (6 * p_count.toInt.toNat + 3) ca) (6 * p_count.toInt.toNat + 4) da) (6 * p_count.toInt.toNat + 5) ea) ∧ f_7 = (upd pc_dropped (p_count.toInt.toNat) 0)) from (by first | exact Or.inl ⟨Or.inl (by assumption), rfl, rfl, rfl⟩ | exact Or.inl ⟨Or.inr (by omega), rfl, rfl, rfl⟩ | exact Or.inr ⟨by assumption, by omega, by assumption, by assumption, by assumption⟩))⟩, by rw [ht]; exact hP9, va_K.moved hW.alike hK, hD9⟩, hS.F ht⟩) hS.2.2 dX4_act_57
    · -- no
      have k_3 : (40 : Int32).toInt ≤ p_count.toInt := ci_nlt c_3
      refine lv_bipush (v := (-4)) hx hb dX4_act_30 (by decide) ?_
      have hP9 := hP.sub (ws' := [(xh, .inr (4, [.ref ph, .ref lh, .ref mh, .int x_lastStatus])), (ph, .inr (3, [.ref pa_rows, .ref pa_dropped, .int p_count])), (pa_rows, .inl (cI, 240, .inl pc_rows)), (pa_dropped, .inl (cZ, 40, .inl pc_dropped)), (lh, .inr (1, [l_now, l_ahead, .int l_isOld, l_isReached, l_mayThrow, .int l_gatheredAny, .int l_gatheredLeast, .int l_gatheredGreatest])), (mh, .inr (2, [.int m_hasRun, .int m_thrown, .int m_thrownAt, .ref ma_values, .ref ma_meant, m_lanes, m_lengths, m_cells, .long m_state])), (ma_values, .inl (cI, 6, .inl mc_values)), (ma_meant, .inl (cI, 6, .inl mc_meant))]) [0, 1, 2, 3, 4, 5, 6, 7] rfl
      have hD9 := hD.sub (ws' := [(xh, .inr (4, [.ref ph, .ref lh, .ref mh, .int x_lastStatus])), (ph, .inr (3, [.ref pa_rows, .ref pa_dropped, .int p_count])), (pa_rows, .inl (cI, 240, .inl pc_rows)), (pa_dropped, .inl (cZ, 40, .inl pc_dropped)), (lh, .inr (1, [l_now, l_ahead, .int l_isOld, l_isReached, l_mayThrow, .int l_gatheredAny, .int l_gatheredLeast, .int l_gatheredGreatest])), (mh, .inr (2, [.int m_hasRun, .int m_thrown, .int m_thrownAt, .ref ma_values, .ref ma_meant, m_lanes, m_lengths, m_cells, .long m_state])), (ma_values, .inl (cI, 6, .inl mc_values)), (ma_meant, .inl (cI, 6, .inl mc_meant))]) [0, 1, 2, 3, 4, 5, 6, 7] (by decide) rfl
      exact W.iret (v := (-4)) hx hb hr (fun t ht hW => ⟨⟨(-4), (p_count, pc_rows, pc_dropped, l_isOld, m_hasRun, m_thrown, m_thrownAt, mc_values, mc_meant), rfl, ⟨(show (((-4) : Int32) = -2 ∧ ¬ okP ka aa ba ca da ea) ∨ (((-4) : Int32) = -4 ∧ okP ka aa ba ca da ea ∧ 40 ≤ p_count.toInt) ∨ (((-4) : Int32).toInt = p_count.toInt ∧ okP ka aa ba ca da ea ∧ p_count.toInt < 40) from (by first | exact Or.inl ⟨rfl, by assumption⟩ | exact Or.inr (Or.inl ⟨rfl, by assumption, by omega⟩) | exact Or.inr (Or.inr ⟨by omega, by assumption, by omega⟩))), (show kZ l_isOld from q_l_isOld), (show kZ m_hasRun from q_m_hasRun), (show ∀ j : Nat, kSITE (mc_meant j) from h_mc_meant), (show ((¬ okP ka aa ba ca da ea ∨ 40 ≤ p_count.toInt) ∧ p_count = p_count ∧ pc_rows = pc_rows ∧ pc_dropped = pc_dropped) ∨ (okP ka aa ba ca da ea ∧ p_count.toInt < 40 ∧ p_count.toInt = p_count.toInt + 1 ∧ pc_rows = (upd (upd (upd (upd (upd (upd pc_rows (6 * p_count.toInt.toNat) ka) (6 * p_count.toInt.toNat + 1) aa) (6 * p_count.toInt.toNat + 2) ba) (6 * p_count.toInt.toNat + 3) ca) (6 * p_count.toInt.toNat + 4) da) (6 * p_count.toInt.toNat + 5) ea) ∧ pc_dropped = (upd pc_dropped (p_count.toInt.toNat) 0)) from (by first | exact Or.inl ⟨Or.inl (by assumption), rfl, rfl, rfl⟩ | exact Or.inl ⟨Or.inr (by omega), rfl, rfl, rfl⟩ | exact Or.inr ⟨by assumption, by omega, by assumption, by assumption, by assumption⟩))⟩, by rw [ht]; exact hP9, va_K.moved hW.alike hK, hD9⟩, hS.F ht⟩) hS.2.2 dX4_act_32
  · -- no
    have k_2 : r_1.toInt = (0 : Int32).toInt := ci_eq c_2
    have kt_2 : ¬ (okP ka aa ba ca da ea) := two_z q_r_1 c_2
    refine lv_bipush (v := (-2)) hx hb dX4_act_15 (by decide) ?_
    have hP9 := hP.sub (ws' := [(xh, .inr (4, [.ref ph, .ref lh, .ref mh, .int x_lastStatus])), (ph, .inr (3, [.ref pa_rows, .ref pa_dropped, .int p_count])), (pa_rows, .inl (cI, 240, .inl pc_rows)), (pa_dropped, .inl (cZ, 40, .inl pc_dropped)), (lh, .inr (1, [l_now, l_ahead, .int l_isOld, l_isReached, l_mayThrow, .int l_gatheredAny, .int l_gatheredLeast, .int l_gatheredGreatest])), (mh, .inr (2, [.int m_hasRun, .int m_thrown, .int m_thrownAt, .ref ma_values, .ref ma_meant, m_lanes, m_lengths, m_cells, .long m_state])), (ma_values, .inl (cI, 6, .inl mc_values)), (ma_meant, .inl (cI, 6, .inl mc_meant))]) [0, 1, 2, 3, 4, 5, 6, 7] rfl
    have hD9 := hD.sub (ws' := [(xh, .inr (4, [.ref ph, .ref lh, .ref mh, .int x_lastStatus])), (ph, .inr (3, [.ref pa_rows, .ref pa_dropped, .int p_count])), (pa_rows, .inl (cI, 240, .inl pc_rows)), (pa_dropped, .inl (cZ, 40, .inl pc_dropped)), (lh, .inr (1, [l_now, l_ahead, .int l_isOld, l_isReached, l_mayThrow, .int l_gatheredAny, .int l_gatheredLeast, .int l_gatheredGreatest])), (mh, .inr (2, [.int m_hasRun, .int m_thrown, .int m_thrownAt, .ref ma_values, .ref ma_meant, m_lanes, m_lengths, m_cells, .long m_state])), (ma_values, .inl (cI, 6, .inl mc_values)), (ma_meant, .inl (cI, 6, .inl mc_meant))]) [0, 1, 2, 3, 4, 5, 6, 7] (by decide) rfl
    exact W.iret (v := (-2)) hx hb hr (fun t ht hW => ⟨⟨(-2), (p_count, pc_rows, pc_dropped, l_isOld, m_hasRun, m_thrown, m_thrownAt, mc_values, mc_meant), rfl, ⟨(show (((-2) : Int32) = -2 ∧ ¬ okP ka aa ba ca da ea) ∨ (((-2) : Int32) = -4 ∧ okP ka aa ba ca da ea ∧ 40 ≤ p_count.toInt) ∨ (((-2) : Int32).toInt = p_count.toInt ∧ okP ka aa ba ca da ea ∧ p_count.toInt < 40) from (by first | exact Or.inl ⟨rfl, by assumption⟩ | exact Or.inr (Or.inl ⟨rfl, by assumption, by omega⟩) | exact Or.inr (Or.inr ⟨by omega, by assumption, by omega⟩))), (show kZ l_isOld from q_l_isOld), (show kZ m_hasRun from q_m_hasRun), (show ∀ j : Nat, kSITE (mc_meant j) from h_mc_meant), (show ((¬ okP ka aa ba ca da ea ∨ 40 ≤ p_count.toInt) ∧ p_count = p_count ∧ pc_rows = pc_rows ∧ pc_dropped = pc_dropped) ∨ (okP ka aa ba ca da ea ∧ p_count.toInt < 40 ∧ p_count.toInt = p_count.toInt + 1 ∧ pc_rows = (upd (upd (upd (upd (upd (upd pc_rows (6 * p_count.toInt.toNat) ka) (6 * p_count.toInt.toNat + 1) aa) (6 * p_count.toInt.toNat + 2) ba) (6 * p_count.toInt.toNat + 3) ca) (6 * p_count.toInt.toNat + 4) da) (6 * p_count.toInt.toNat + 5) ea) ∧ pc_dropped = (upd pc_dropped (p_count.toInt.toNat) 0)) from (by first | exact Or.inl ⟨Or.inl (by assumption), rfl, rfl, rfl⟩ | exact Or.inl ⟨Or.inr (by omega), rfl, rfl, rfl⟩ | exact Or.inr ⟨by assumption, by omega, by assumption, by assumption, by assumption⟩))⟩, by rw [ht]; exact hP9, va_K.moved hW.alike hK, hD9⟩, hS.F ht⟩) hS.2.2 dX4_act_17

def v_X4_drop : List Cond := .code yX4_drop cX4_drop 2 (some .int) :: ([.fieldLink RX4 10 "ArraySegments" "program" "LArraySegments$Program;", .methodLink RX4 51 yX3_hasAct, .instanceMethod yX3_hasAct, .selects RX3 yX3_hasAct yX3_hasAct, .initialized RX3, .fieldLink RX4 55 "ArraySegments$Program" "dropped" "[Z", .methodLink RX4 40 yX4_programChanged, .instanceMethod yX4_programChanged, .selects RX4 yX4_programChanged yX4_programChanged, .initialized RX4] ++ (wsX40 ++ (wsX30 ++ (v_X3_hasAct ++ (v_X4_programChanged)))))
theorem inv_X4_drop_X4 : ∀ w ∈ wsX40, w ∈ v_X4_drop := fun _ h => List.mem_cons_of_mem _ (List.mem_append_right _ (List.mem_append_left _ h))
theorem inv_X4_drop_X3 : ∀ w ∈ wsX30, w ∈ v_X4_drop := fun _ h => List.mem_cons_of_mem _ (List.mem_append_right _ (List.mem_append_right _ (List.mem_append_left _ h)))
theorem im_X4_drop_X3_hasAct : ∀ w ∈ v_X3_hasAct, w ∈ v_X4_drop := fun _ h => List.mem_cons_of_mem _ (List.mem_append_right _ (List.mem_append_right _ (List.mem_append_right _ (List.mem_append_left _ h))))
theorem im_X4_drop_X4_programChanged : ∀ w ∈ v_X4_programChanged, w ∈ v_X4_drop := fun _ h => List.mem_cons_of_mem _ (List.mem_append_right _ (List.mem_append_right _ (List.mem_append_right _ (List.mem_append_right _ (h)))))
set_option maxRecDepth 20000 in
theorem gd_X4_drop : gdL v_X4_drop := gdC (gdW (by decide +kernel)) (gdA (gdW (by decide +kernel)) (gdA gd_wsX40 (gdA gd_wsX30 (gdA gd_X3_hasAct gd_X4_programChanged))))
set_option maxRecDepth 20000 in
theorem h_X4_drop_X3_hasAct_51 : GoodIn v_X4_drop (wsV RX4 51 RX3 yX3_hasAct v_X3_hasAct) := gdI [2, 3, 4, 5] rfl (by decide +kernel) (im_X4_drop_X3_hasAct) gd_X3_hasAct
set_option maxRecDepth 20000 in
theorem h_X4_drop_X4_programChanged_40 : GoodIn v_X4_drop (wsV RX4 40 RX4 yX4_programChanged v_X4_programChanged) := gdI [7, 8, 9, 10] rfl (by decide +kernel) (im_X4_drop_X4_programChanged) gd_X4_programChanged
abbrev sw_X4_drop (cI cJ cZ : ClassId) (xh : Nat) (ph : Nat) (lh : Nat) (mh : Nat) (x_lastStatus : Int32) (p_rows : Value) (pa_dropped : Nat) (p_count : Int32) (pc_dropped : Nat → Int32) (l_now : Value) (l_ahead : Value) (l_isOld : Int32) (l_isReached : Value) (l_mayThrow : Value) (l_gatheredAny : Int32) (l_gatheredLeast : Int32) (l_gatheredGreatest : Int32) (m_hasRun : Int32) (m_thrown : Int32) (m_thrownAt : Int32) (ma_values : Nat) (ma_meant : Nat) (m_lanes : Value) (m_lengths : Value) (m_cells : Value) (m_state : Int64) (mc_values : Nat → Int32) (mc_meant : Nat → Int32) (ia : Int32) : va_W := [(xh, .inr (4, [.ref ph, .ref lh, .ref mh, .int x_lastStatus])), (ph, .inr (3, [p_rows, .ref pa_dropped, .int p_count])), (pa_dropped, .inl (cZ, 40, .inl pc_dropped)), (lh, .inr (1, [l_now, l_ahead, .int l_isOld, l_isReached, l_mayThrow, .int l_gatheredAny, .int l_gatheredLeast, .int l_gatheredGreatest])), (mh, .inr (2, [.int m_hasRun, .int m_thrown, .int m_thrownAt, .ref ma_values, .ref ma_meant, m_lanes, m_lengths, m_cells, .long m_state])), (ma_values, .inl (cI, 6, .inl mc_values)), (ma_meant, .inl (cI, 6, .inl mc_meant))]
set_option maxHeartbeats 8000000 in
set_option maxRecDepth 100000 in
theorem s_X4_drop (l : Launch) (dC : Nat → ClassId) (dI : Nat → Nat → Nat) (cI cJ cZ : ClassId) (xh : Nat) (ph : Nat) (lh : Nat) (mh : Nat) (x_lastStatus : Int32) (p_rows : Value) (pa_dropped : Nat) (p_count : Int32) (pc_dropped : Nat → Int32) (l_now : Value) (l_ahead : Value) (l_isOld : Int32) (l_isReached : Value) (l_mayThrow : Value) (l_gatheredAny : Int32) (l_gatheredLeast : Int32) (l_gatheredGreatest : Int32) (m_hasRun : Int32) (m_thrown : Int32) (m_thrownAt : Int32) (ma_values : Nat) (ma_meant : Nat) (m_lanes : Value) (m_lengths : Value) (m_cells : Value) (m_state : Int64) (mc_values : Nat → Int32) (mc_meant : Nat → Int32) (ia : Int32) (sz : Nat) (q_l_isOld : kZ l_isOld) (q_l_gatheredAny : kZ l_gatheredAny) (q_m_hasRun : kZ m_hasRun) (h_mc_meant : ∀ j : Nat, kSITE (mc_meant j)) (hy_count : 0 ≤ p_count.toInt ∧ p_count.toInt ≤ 40) : Met l yX4_drop v_X4_drop ({ frames := 2, cells := 0, slots := 0, locals := 41 }) (va_Pc [.ref xh, .int ia] (cPre dC dI cI cJ cZ sz (sw_X4_drop cI cJ cZ xh ph lh mh x_lastStatus p_rows pa_dropped p_count pc_dropped l_now l_ahead l_isOld l_isReached l_mayThrow l_gatheredAny l_gatheredLeast l_gatheredGreatest m_hasRun m_thrown m_thrownAt ma_values ma_meant m_lanes m_lengths m_cells m_state mc_values mc_meant ia))) (va_Qi (fun (r : Int32) (u : (Nat → Int32) × Int32 × Int32 × Int32 × Int32 × (Nat → Int32) × (Nat → Int32)) => ((r = -2 ∧ ¬ (0 ≤ ia.toInt ∧ ia.toInt < p_count.toInt)) ∨ (r = 0 ∧ (0 ≤ ia.toInt ∧ ia.toInt < p_count.toInt) ∧ ¬ pc_dropped (ia).toNatClampNeg = 0) ∨ (r = 1 ∧ (0 ≤ ia.toInt ∧ ia.toInt < p_count.toInt) ∧ pc_dropped (ia).toNatClampNeg = 0)) ∧ (kZ (u.2.1)) ∧ (kZ (u.2.2.1)) ∧ (∀ j : Nat, kSITE ((u.2.2.2.2.2.2) j)) ∧ ((¬ r = 1 ∧ (u.1) = pc_dropped) ∨ (r = 1 ∧ (u.1) = (upd pc_dropped ((ia).toNatClampNeg) 1)))) (fun (u : (Nat → Int32) × Int32 × Int32 × Int32 × Int32 × (Nat → Int32) × (Nat → Int32)) => cPost dC dI cI cJ cZ (va_A (sw_X4_drop cI cJ cZ xh ph lh mh x_lastStatus p_rows pa_dropped p_count pc_dropped l_now l_ahead l_isOld l_isReached l_mayThrow l_gatheredAny l_gatheredLeast l_gatheredGreatest m_hasRun m_thrown m_thrownAt ma_values ma_meant m_lanes m_lengths m_cells m_state mc_values mc_meant ia) sz) [(xh, .inr (4, [.ref ph, .ref lh, .ref mh, .int x_lastStatus])), (ph, .inr (3, [p_rows, .ref pa_dropped, .int p_count])), (pa_dropped, .inl (cZ, 40, .inl (u.1))), (lh, .inr (1, [l_now, l_ahead, .int (u.2.1), l_isReached, l_mayThrow, .int l_gatheredAny, .int l_gatheredLeast, .int l_gatheredGreatest])), (mh, .inr (2, [.int (u.2.2.1), .int (u.2.2.2.1), .int (u.2.2.2.2.1), .ref ma_values, .ref ma_meant, m_lanes, m_lengths, m_cells, .long m_state])), (ma_values, .inl (cI, 6, .inl (u.2.2.2.2.2.1))), (ma_meant, .inl (cI, 6, .inl (u.2.2.2.2.2.2)))]) (va_A (sw_X4_drop cI cJ cZ xh ph lh mh x_lastStatus p_rows pa_dropped p_count pc_dropped l_now l_ahead l_isOld l_isReached l_mayThrow l_gatheredAny l_gatheredLeast l_gatheredGreatest m_hasRun m_thrown m_thrownAt ma_values ma_meant m_lanes m_lengths m_cells m_state mc_values mc_meant ia) sz)) 0 0 (va_A (sw_X4_drop cI cJ cZ xh ph lh mh x_lastStatus p_rows pa_dropped p_count pc_dropped l_now l_ahead l_isOld l_isReached l_mayThrow l_gatheredAny l_gatheredLeast l_gatheredGreatest m_hasRun m_thrown m_thrownAt ma_values ma_meant m_lanes m_lengths m_cells m_state mc_values mc_meant ia) sz) := by
  refine Met.ofW (cc := cX4_drop) (maxL := 2) (ret := (some .int)) (by decide) rfl ?_
  intro p e s m args below meth c s₁ B hml hv
  obtain ⟨rfl, hsz, hP, hK, hD0, hN⟩ := hv
  have hx := B.exec
  have hb := B.bytes
  have hr := B.returns
  have hts := atoms_spec (ws := v_X4_drop) B.pre
  have hown : s.vm.findClass RX4 = some m.cls := findClass_of_methodNamed B.named
  have hlocks := B.notSynchronized
  subst hsz
  have hD := hD0.self (sz := s.heap.size)
  generalize hAe : va_A (sw_X4_drop cI cJ cZ xh ph lh mh x_lastStatus p_rows pa_dropped p_count pc_dropped l_now l_ahead l_isOld l_isReached l_mayThrow l_gatheredAny l_gatheredLeast l_gatheredGreatest m_hasRun m_thrown m_thrownAt ma_values ma_meant m_lanes m_lengths m_cells m_state mc_values mc_meant ia) s.heap.size = A at hD ⊢
  have hA : ∀ q : Nat, s.heap.size ≤ q → A q := fun q h => by rw [← hAe]; exact Or.inr h
  clear hAe hD0
  have hS : va_S A s.heap s.heap [] := va_S.rf
  replace hP : va_P (dC, dI) vwCl [(xh, .inr (4, [.ref ph, .ref lh, .ref mh, .int x_lastStatus])), (ph, .inr (3, [p_rows, .ref pa_dropped, .int p_count])), (pa_dropped, .inl (cZ, 40, .inl pc_dropped)), (lh, .inr (1, [l_now, l_ahead, .int l_isOld, l_isReached, l_mayThrow, .int l_gatheredAny, .int l_gatheredLeast, .int l_gatheredGreatest])), (mh, .inr (2, [.int m_hasRun, .int m_thrown, .int m_thrownAt, .ref ma_values, .ref ma_meant, m_lanes, m_lengths, m_cells, .long m_state])), (ma_values, .inl (cI, 6, .inl mc_values)), (ma_meant, .inl (cI, 6, .inl mc_meant))] s.heap := hP
  replace hD : va_D A [(xh, .inr (4, [.ref ph, .ref lh, .ref mh, .int x_lastStatus])), (ph, .inr (3, [p_rows, .ref pa_dropped, .int p_count])), (pa_dropped, .inl (cZ, 40, .inl pc_dropped)), (lh, .inr (1, [l_now, l_ahead, .int l_isOld, l_isReached, l_mayThrow, .int l_gatheredAny, .int l_gatheredLeast, .int l_gatheredGreatest])), (mh, .inr (2, [.int m_hasRun, .int m_thrown, .int m_thrownAt, .ref ma_values, .ref ma_meant, m_lanes, m_lengths, m_cells, .long m_state])), (ma_values, .inl (cI, 6, .inl mc_values)), (ma_meant, .inl (cI, 6, .inl mc_meant))] := hD
  have hl := lv_entry ([.ref xh, .int ia]) (n := 2) (Nat.le_of_ble_eq_true rfl)
  rw [lg_entry_eq]
  generalize (lg_sl ([.ref xh, .int ia]) ++ List.replicate (2 - (lg_sl ([.ref xh, .int ia])).length) Slot.unset).toArray = ls at hl ⊢
  replace hl : lv_has ls 2 [(0, .ref xh), (1, .int ia)] := hl
  have z_m2 : (-2 : Int32).toInt = -2 := by decide
  have z_0 : (0 : Int32).toInt = 0 := by decide
  have z_1 : (1 : Int32).toInt = 1 := by decide
  refine lv_aload_n hx hb dX4_drop_0 rfl (lv_at hl 0 rfl) ?_
  refine va_get (D := (dC, dI)) (ci := 4) (v := .ref ph) (C := RX4) (T := TX4) (N := 4) hx hb hts inv_X4_drop_X4 hown hK hP 0 rfl rfl 0 (by decide) (hts (.fieldLink RX4 10 "ArraySegments" "program" "LArraySegments$Program;") (List.mem_of_getElem? (i := 1) rfl)) (fun _ h9 => h9) rfl dX4_drop_1 ?_
  refine lv_iload_n hx hb dX4_drop_4 rfl (lv_at hl 1 rfl) ?_
  have hPc := hP.sub (ws' := [(ph, .inr (3, [p_rows, .ref pa_dropped, .int p_count]))]) [1] rfl
  have hDc := hD.sub (ws' := [(ph, .inr (3, [p_rows, .ref pa_dropped, .int p_count]))]) [1] (by decide) rfl
  have hFc := va_free (wc := [(ph, .inr (3, [p_rows, .ref pa_dropped, .int p_count]))]) hD hS hA [1] rfl
  refine va_calli (va_runV (As := [.int ia]) (rest := []) ⟨hx, hb, hml, hown, hts⟩ (s_X3_hasAct l dC dI cI cJ cZ ph p_rows (.ref pa_dropped) p_count ia s.heap.size (by first | assumption | omega)) (cwV 1 hts h_X4_drop_X3_hasAct_51 rfl rfl rfl (by decide +kernel) ⟨Nat.le_of_ble_eq_true rfl, Nat.le_of_ble_eq_true rfl⟩) ⟨cPre_blind, va_recv hK hPc (ci := 3) (q0 := 0) rfl rfl, cPre_of hK hN hPc hDc⟩ rfl rfl hl.1 rfl (lv_room (Nat.le_of_ble_eq_true rfl)) dX4_drop_5 ⟨Nat.le_of_ble_eq_true rfl, Nat.le_of_ble_eq_true rfl⟩) hS (fun q _ h => hFc q h) hFc (fun r_1 u_1 t_1 H_1 locs_1 ht hvm hw_1 hB hz1 hk1 hS1 => ?_)
  obtain ⟨hP1, hK1, hD1⟩ := hB
  rw [ht] at hP1
  obtain ⟨hP2, hD2⟩ := va_join (wr := [(xh, .inr (4, [.ref ph, .ref lh, .ref mh, .int x_lastStatus])), (pa_dropped, .inl (cZ, 40, .inl pc_dropped)), (lh, .inr (1, [l_now, l_ahead, .int l_isOld, l_isReached, l_mayThrow, .int l_gatheredAny, .int l_gatheredLeast, .int l_gatheredGreatest])), (mh, .inr (2, [.int m_hasRun, .int m_thrown, .int m_thrownAt, .ref ma_values, .ref ma_meant, m_lanes, m_lengths, m_cells, .long m_state])), (ma_values, .inl (cI, 6, .inl mc_values)), (ma_meant, .inl (cI, 6, .inl mc_meant))]) (w1 := [(ph, .inr (3, [p_rows, .ref pa_dropped, .int p_count]))]) hP hD [1] [0, 2, 3, 4, 5, 6] rfl rfl (by decide) (by decide) hk1 hFc hP1 hD1
  clear hPc hDc hFc hP1 hD1 hK1 hk1 hz1 hvm ht
  replace hP : va_P (dC, dI) vwCl [(xh, .inr (4, [.ref ph, .ref lh, .ref mh, .int x_lastStatus])), (pa_dropped, .inl (cZ, 40, .inl pc_dropped)), (lh, .inr (1, [l_now, l_ahead, .int l_isOld, l_isReached, l_mayThrow, .int l_gatheredAny, .int l_gatheredLeast, .int l_gatheredGreatest])), (mh, .inr (2, [.int m_hasRun, .int m_thrown, .int m_thrownAt, .ref ma_values, .ref ma_meant, m_lanes, m_lengths, m_cells, .long m_state])), (ma_values, .inl (cI, 6, .inl mc_values)), (ma_meant, .inl (cI, 6, .inl mc_meant)), (ph, .inr (3, [p_rows, .ref pa_dropped, .int p_count]))] H_1 := hP2
  replace hD : va_D A [(xh, .inr (4, [.ref ph, .ref lh, .ref mh, .int x_lastStatus])), (pa_dropped, .inl (cZ, 40, .inl pc_dropped)), (lh, .inr (1, [l_now, l_ahead, .int l_isOld, l_isReached, l_mayThrow, .int l_gatheredAny, .int l_gatheredLeast, .int l_gatheredGreatest])), (mh, .inr (2, [.int m_hasRun, .int m_thrown, .int m_thrownAt, .ref ma_values, .ref ma_meant, m_lanes, m_lengths, m_cells, .long m_state])), (ma_values, .inl (cI, 6, .inl mc_values)), (ma_meant, .inl (cI, 6, .inl mc_meant)), (ph, .inr (3, [p_rows, .ref pa_dropped, .int p_count]))] := hD2
  replace hS := hS1
  clear hP2 hD2 hS1
  replace hw_1 : (two r_1 (0 ≤ ia.toInt ∧ ia.toInt < p_count.toInt) 1 0) := hw_1
  have q_r_1 := hw_1
  refine lv_if_ne (tgt := 14) hx hb dX4_drop_8 (by decide) (fun c_2 => ?_) (fun c_2 => ?_)
  · -- yes
    have k_2 : ¬ r_1.toInt = (0 : Int32).toInt := ci_ne c_2
    have kt_2 : 0 ≤ ia.toInt ∧ ia.toInt < p_count.toInt := two_nz q_r_1 c_2
    refine lv_aload_n hx hb dX4_drop_14 rfl (lv_at hl 0 rfl) ?_
    refine va_get (D := (dC, dI)) (ci := 4) (v := .ref ph) (C := RX4) (T := TX4) (N := 4) hx hb hts inv_X4_drop_X4 hown hK hP 0 rfl rfl 0 (by decide) (hts (.fieldLink RX4 10 "ArraySegments" "program" "LArraySegments$Program;") (List.mem_of_getElem? (i := 1) rfl)) (fun _ h9 => h9) rfl dX4_drop_15 ?_
    refine va_get (D := (dC, dI)) (ci := 3) (v := .ref pa_dropped) (C := RX3) (T := TX3) (N := 3) hx hb hts inv_X4_drop_X3 hown hK hP 6 rfl rfl 1 (by decide) (hts (.fieldLink RX4 55 "ArraySegments$Program" "dropped" "[Z") (List.mem_of_getElem? (i := 6) rfl)) (fun _ h9 => h9) rfl dX4_drop_18 ?_
    refine lv_iload_n hx hb dX4_drop_21 rfl (lv_at hl 1 rfl) ?_
    refine va_zald hx hb hK hP 1 2 rfl rfl (vp_in_iff.mpr ⟨by omega, by omega⟩) dX4_drop_22 ?_
    refine lv_if_eq (tgt := 28) hx hb dX4_drop_23 (by decide) (fun c_3 => ?_) (fun c_3 => ?_)
    · -- yes
      have k_3 : (pc_dropped (ia).toNatClampNeg).toInt = (0 : Int32).toInt := ci_eq c_3
      refine lv_aload_n hx hb dX4_drop_28 rfl (lv_at hl 0 rfl) ?_
      refine va_get (D := (dC, dI)) (ci := 4) (v := .ref ph) (C := RX4) (T := TX4) (N := 4) hx hb hts inv_X4_drop_X4 hown hK hP 0 rfl rfl 0 (by decide) (hts (.fieldLink RX4 10 "ArraySegments" "program" "LArraySegments$Program;") (List.mem_of_getElem? (i := 1) rfl)) (fun _ h9 => h9) rfl dX4_drop_29 ?_
      refine va_get (D := (dC, dI)) (ci := 3) (v := .ref pa_dropped) (C := RX3) (T := TX3) (N := 3) hx hb hts inv_X4_drop_X3 hown hK hP 6 rfl rfl 1 (by decide) (hts (.fieldLink RX4 55 "ArraySegments$Program" "dropped" "[Z") (List.mem_of_getElem? (i := 6) rfl)) (fun _ h9 => h9) rfl dX4_drop_32 ?_
      refine lv_iload_n hx hb dX4_drop_35 rfl (lv_at hl 1 rfl) ?_
      refine lv_iconst (v := 1) hx hb dX4_drop_36 (by decide) ?_
      refine va_zast hx hb hK hP hD hS 1 2 rfl rfl (vp_in_iff.mpr ⟨by omega, by omega⟩) dX4_drop_37 (fun H_4 locs_4 hP1 hD1 hS1 => ?_)
      rw [show vp_nar .boolean 1 = 1 from rfl] at hP1 hD1
      replace hP : va_P (dC, dI) vwCl [(xh, .inr (4, [.ref ph, .ref lh, .ref mh, .int x_lastStatus])), (pa_dropped, .inl (cZ, 40, .inl (upd pc_dropped ((ia).toNatClampNeg) 1))), (lh, .inr (1, [l_now, l_ahead, .int l_isOld, l_isReached, l_mayThrow, .int l_gatheredAny, .int l_gatheredLeast, .int l_gatheredGreatest])), (mh, .inr (2, [.int m_hasRun, .int m_thrown, .int m_thrownAt, .ref ma_values, .ref ma_meant, m_lanes, m_lengths, m_cells, .long m_state])), (ma_values, .inl (cI, 6, .inl mc_values)), (ma_meant, .inl (cI, 6, .inl mc_meant)), (ph, .inr (3, [p_rows, .ref pa_dropped, .int p_count]))] H_4 := hP1
      replace hD : va_D A [(xh, .inr (4, [.ref ph, .ref lh, .ref mh, .int x_lastStatus])), (pa_dropped, .inl (cZ, 40, .inl (upd pc_dropped ((ia).toNatClampNeg) 1))), (lh, .inr (1, [l_now, l_ahead, .int l_isOld, l_isReached, l_mayThrow, .int l_gatheredAny, .int l_gatheredLeast, .int l_gatheredGreatest])), (mh, .inr (2, [.int m_hasRun, .int m_thrown, .int m_thrownAt, .ref ma_values, .ref ma_meant, m_lanes, m_lengths, m_cells, .long m_state])), (ma_values, .inl (cI, 6, .inl mc_values)), (ma_meant, .inl (cI, 6, .inl mc_meant)), (ph, .inr (3, [p_rows, .ref pa_dropped, .int p_count]))] := hD1
      replace hS := hS1
      clear hP1 hD1 hS1
      refine lv_aload_n hx hb dX4_drop_38 rfl (lv_at hl 0 rfl) ?_
      have hPc := hP.sub (ws' := [(xh, .inr (4, [.ref ph, .ref lh, .ref mh, .int x_lastStatus])), (lh, .inr (1, [l_now, l_ahead, .int l_isOld, l_isReached, l_mayThrow, .int l_gatheredAny, .int l_gatheredLeast, .int l_gatheredGreatest])), (mh, .inr (2, [.int m_hasRun, .int m_thrown, .int m_thrownAt, .ref ma_values, .ref ma_meant, m_lanes, m_lengths, m_cells, .long m_state])), (ma_values, .inl (cI, 6, .inl mc_values)), (ma_meant, .inl (cI, 6, .inl mc_meant))]) [0, 2, 3, 4, 5] rfl
      have hDc := hD.sub (ws' := [(xh, .inr (4, [.ref ph, .ref lh, .ref mh, .int x_lastStatus])), (lh, .inr (1, [l_now, l_ahead, .int l_isOld, l_isReached, l_mayThrow, .int l_gatheredAny, .int l_gatheredLeast, .int l_gatheredGreatest])), (mh, .inr (2, [.int m_hasRun, .int m_thrown, .int m_thrownAt, .ref ma_values, .ref ma_meant, m_lanes, m_lengths, m_cells, .long m_state])), (ma_values, .inl (cI, 6, .inl mc_values)), (ma_meant, .inl (cI, 6, .inl mc_meant))]) [0, 2, 3, 4, 5] (by decide) rfl
      have hFc := va_free (wc := [(xh, .inr (4, [.ref ph, .ref lh, .ref mh, .int x_lastStatus])), (lh, .inr (1, [l_now, l_ahead, .int l_isOld, l_isReached, l_mayThrow, .int l_gatheredAny, .int l_gatheredLeast, .int l_gatheredGreatest])), (mh, .inr (2, [.int m_hasRun, .int m_thrown, .int m_thrownAt, .ref ma_values, .ref ma_meant, m_lanes, m_lengths, m_cells, .long m_state])), (ma_values, .inl (cI, 6, .inl mc_values)), (ma_meant, .inl (cI, 6, .inl mc_meant))]) hD hS hA [0, 2, 3, 4, 5] rfl
      refine va_callv (va_runV (As := []) (rest := []) ⟨hx, hb, hml, hown, hts⟩ (s_X4_programChanged l dC dI cI cJ cZ xh (.ref ph) lh mh x_lastStatus l_now l_ahead l_isOld l_isReached l_mayThrow l_gatheredAny l_gatheredLeast l_gatheredGreatest m_hasRun m_thrown m_thrownAt ma_values ma_meant m_lanes m_lengths m_cells m_state mc_values mc_meant H_4.size q_l_isOld q_l_gatheredAny q_m_hasRun h_mc_meant) (cwV 0 hts h_X4_drop_X4_programChanged_40 rfl rfl rfl (by decide +kernel) ⟨Nat.le_of_ble_eq_true rfl, Nat.le_of_ble_eq_true rfl⟩) ⟨cPre_blind, va_recv hK hPc (ci := 4) (q0 := 0) rfl rfl, cPre_of hK hN hPc hDc⟩ rfl rfl hl.1 rfl (lv_room (Nat.le_of_ble_eq_true rfl)) dX4_drop_39 ⟨Nat.le_of_ble_eq_true rfl, Nat.le_of_ble_eq_true rfl⟩) hS (fun q _ h => hFc q h) hFc (fun u_5 t_5 H_5 locs_5 ht hvm hw_5 hB hz1 hk1 hS1 => ?_)
      obtain ⟨v_6, v_7, v_8, v_9, f_10, f_11⟩ := u_5
      obtain ⟨hP1, hK1, hD1⟩ := hB
      rw [ht] at hP1
      obtain ⟨hP2, hD2⟩ := va_join (wr := [(pa_dropped, .inl (cZ, 40, .inl (upd pc_dropped ((ia).toNatClampNeg) 1))), (ph, .inr (3, [p_rows, .ref pa_dropped, .int p_count]))]) (w1 := [(xh, .inr (4, [.ref ph, .ref lh, .ref mh, .int x_lastStatus])), (lh, .inr (1, [l_now, l_ahead, .int v_6, l_isReached, l_mayThrow, .int l_gatheredAny, .int l_gatheredLeast, .int l_gatheredGreatest])), (mh, .inr (2, [.int v_7, .int v_8, .int v_9, .ref ma_values, .ref ma_meant, m_lanes, m_lengths, m_cells, .long m_state])), (ma_values, .inl (cI, 6, .inl f_10)), (ma_meant, .inl (cI, 6, .inl f_11))]) hP hD [0, 2, 3, 4, 5] [1, 6] rfl rfl (by decide) (by decide) hk1 hFc hP1 hD1
      clear hPc hDc hFc hP1 hD1 hK1 hk1 hz1 hvm ht
      replace hP : va_P (dC, dI) vwCl [(pa_dropped, .inl (cZ, 40, .inl (upd pc_dropped ((ia).toNatClampNeg) 1))), (ph, .inr (3, [p_rows, .ref pa_dropped, .int p_count])), (xh, .inr (4, [.ref ph, .ref lh, .ref mh, .int x_lastStatus])), (lh, .inr (1, [l_now, l_ahead, .int v_6, l_isReached, l_mayThrow, .int l_gatheredAny, .int l_gatheredLeast, .int l_gatheredGreatest])), (mh, .inr (2, [.int v_7, .int v_8, .int v_9, .ref ma_values, .ref ma_meant, m_lanes, m_lengths, m_cells, .long m_state])), (ma_values, .inl (cI, 6, .inl f_10)), (ma_meant, .inl (cI, 6, .inl f_11))] H_5 := hP2
      replace hD : va_D A [(pa_dropped, .inl (cZ, 40, .inl (upd pc_dropped ((ia).toNatClampNeg) 1))), (ph, .inr (3, [p_rows, .ref pa_dropped, .int p_count])), (xh, .inr (4, [.ref ph, .ref lh, .ref mh, .int x_lastStatus])), (lh, .inr (1, [l_now, l_ahead, .int v_6, l_isReached, l_mayThrow, .int l_gatheredAny, .int l_gatheredLeast, .int l_gatheredGreatest])), (mh, .inr (2, [.int v_7, .int v_8, .int v_9, .ref ma_values, .ref ma_meant, m_lanes, m_lengths, m_cells, .long m_state])), (ma_values, .inl (cI, 6, .inl f_10)), (ma_meant, .inl (cI, 6, .inl f_11))] := hD2
      replace hS := hS1
      clear hP2 hD2 hS1
      replace hw_5 : (kZ v_6) ∧ (kZ v_7) ∧ (∀ j : Nat, kSITE (f_11 j)) := hw_5
      obtain ⟨q_v_6, q_v_7, h_f_11⟩ := hw_5
      refine lv_iconst (v := 1) hx hb dX4_drop_42 (by decide) ?_
      have hP9 := hP.sub (ws' := [(xh, .inr (4, [.ref ph, .ref lh, .ref mh, .int x_lastStatus])), (ph, .inr (3, [p_rows, .ref pa_dropped, .int p_count])), (pa_dropped, .inl (cZ, 40, .inl (upd pc_dropped ((ia).toNatClampNeg) 1))), (lh, .inr (1, [l_now, l_ahead, .int v_6, l_isReached, l_mayThrow, .int l_gatheredAny, .int l_gatheredLeast, .int l_gatheredGreatest])), (mh, .inr (2, [.int v_7, .int v_8, .int v_9, .ref ma_values, .ref ma_meant, m_lanes, m_lengths, m_cells, .long m_state])), (ma_values, .inl (cI, 6, .inl f_10)), (ma_meant, .inl (cI, 6, .inl f_11))]) [2, 1, 0, 3, 4, 5, 6] rfl
      have hD9 := hD.sub (ws' := [(xh, .inr (4, [.ref ph, .ref lh, .ref mh, .int x_lastStatus])), (ph, .inr (3, [p_rows, .ref pa_dropped, .int p_count])), (pa_dropped, .inl (cZ, 40, .inl (upd pc_dropped ((ia).toNatClampNeg) 1))), (lh, .inr (1, [l_now, l_ahead, .int v_6, l_isReached, l_mayThrow, .int l_gatheredAny, .int l_gatheredLeast, .int l_gatheredGreatest])), (mh, .inr (2, [.int v_7, .int v_8, .int v_9, .ref ma_values, .ref ma_meant, m_lanes, m_lengths, m_cells, .long m_state])), (ma_values, .inl (cI, 6, .inl f_10)), (ma_meant, .inl (cI, 6, .inl f_11))]) [2, 1, 0, 3, 4, 5, 6] (by decide) rfl
      exact W.iret (v := 1) hx hb hr (fun t ht hW => ⟨⟨1, ((upd pc_dropped ((ia).toNatClampNeg) 1), v_6, v_7, v_8, v_9, f_10, f_11), rfl, ⟨(show ((1 : Int32) = -2 ∧ ¬ (0 ≤ ia.toInt ∧ ia.toInt < p_count.toInt)) ∨ ((1 : Int32) = 0 ∧ (0 ≤ ia.toInt ∧ ia.toInt < p_count.toInt) ∧ ¬ pc_dropped (ia).toNatClampNeg = 0) ∨ ((1 : Int32) = 1 ∧ (0 ≤ ia.toInt ∧ ia.toInt < p_count.toInt) ∧ pc_dropped (ia).toNatClampNeg = 0) from (by first | exact Or.inl ⟨rfl, by assumption⟩ | exact Or.inr (Or.inl ⟨rfl, by assumption, by assumption⟩) | exact Or.inr (Or.inr ⟨rfl, by assumption, by assumption⟩))), (show kZ v_6 from q_v_6), (show kZ v_7 from q_v_7), (show ∀ j : Nat, kSITE (f_11 j) from h_f_11), (show (¬ (1 : Int32) = 1 ∧ (upd pc_dropped ((ia).toNatClampNeg) 1) = pc_dropped) ∨ ((1 : Int32) = 1 ∧ (upd pc_dropped ((ia).toNatClampNeg) 1) = (upd pc_dropped ((ia).toNatClampNeg) 1)) from (by first | exact Or.inl ⟨by decide, rfl⟩ | exact Or.inr ⟨rfl, rfl⟩))⟩, by rw [ht]; exact hP9, va_K.moved hW.alike hK, hD9⟩, hS.F ht⟩) hS.2.2 dX4_drop_43
    · -- no
      have k_3 : ¬ (pc_dropped (ia).toNatClampNeg).toInt = (0 : Int32).toInt := ci_ne c_3
      refine lv_iconst (v := 0) hx hb dX4_drop_26 (by decide) ?_
      have hP9 := hP.sub (ws' := [(xh, .inr (4, [.ref ph, .ref lh, .ref mh, .int x_lastStatus])), (ph, .inr (3, [p_rows, .ref pa_dropped, .int p_count])), (pa_dropped, .inl (cZ, 40, .inl pc_dropped)), (lh, .inr (1, [l_now, l_ahead, .int l_isOld, l_isReached, l_mayThrow, .int l_gatheredAny, .int l_gatheredLeast, .int l_gatheredGreatest])), (mh, .inr (2, [.int m_hasRun, .int m_thrown, .int m_thrownAt, .ref ma_values, .ref ma_meant, m_lanes, m_lengths, m_cells, .long m_state])), (ma_values, .inl (cI, 6, .inl mc_values)), (ma_meant, .inl (cI, 6, .inl mc_meant))]) [0, 6, 1, 2, 3, 4, 5] rfl
      have hD9 := hD.sub (ws' := [(xh, .inr (4, [.ref ph, .ref lh, .ref mh, .int x_lastStatus])), (ph, .inr (3, [p_rows, .ref pa_dropped, .int p_count])), (pa_dropped, .inl (cZ, 40, .inl pc_dropped)), (lh, .inr (1, [l_now, l_ahead, .int l_isOld, l_isReached, l_mayThrow, .int l_gatheredAny, .int l_gatheredLeast, .int l_gatheredGreatest])), (mh, .inr (2, [.int m_hasRun, .int m_thrown, .int m_thrownAt, .ref ma_values, .ref ma_meant, m_lanes, m_lengths, m_cells, .long m_state])), (ma_values, .inl (cI, 6, .inl mc_values)), (ma_meant, .inl (cI, 6, .inl mc_meant))]) [0, 6, 1, 2, 3, 4, 5] (by decide) rfl
      exact W.iret (v := 0) hx hb hr (fun t ht hW => ⟨⟨0, (pc_dropped, l_isOld, m_hasRun, m_thrown, m_thrownAt, mc_values, mc_meant), rfl, ⟨(show ((0 : Int32) = -2 ∧ ¬ (0 ≤ ia.toInt ∧ ia.toInt < p_count.toInt)) ∨ ((0 : Int32) = 0 ∧ (0 ≤ ia.toInt ∧ ia.toInt < p_count.toInt) ∧ ¬ pc_dropped (ia).toNatClampNeg = 0) ∨ ((0 : Int32) = 1 ∧ (0 ≤ ia.toInt ∧ ia.toInt < p_count.toInt) ∧ pc_dropped (ia).toNatClampNeg = 0) from (by first | exact Or.inl ⟨rfl, by assumption⟩ | exact Or.inr (Or.inl ⟨rfl, by assumption, by assumption⟩) | exact Or.inr (Or.inr ⟨rfl, by assumption, by assumption⟩))), (show kZ l_isOld from q_l_isOld), (show kZ m_hasRun from q_m_hasRun), (show ∀ j : Nat, kSITE (mc_meant j) from h_mc_meant), (show (¬ (0 : Int32) = 1 ∧ pc_dropped = pc_dropped) ∨ ((0 : Int32) = 1 ∧ pc_dropped = (upd pc_dropped ((ia).toNatClampNeg) 1)) from (by first | exact Or.inl ⟨by decide, rfl⟩ | exact Or.inr ⟨rfl, rfl⟩))⟩, by rw [ht]; exact hP9, va_K.moved hW.alike hK, hD9⟩, hS.F ht⟩) hS.2.2 dX4_drop_27
  · -- no
    have k_2 : r_1.toInt = (0 : Int32).toInt := ci_eq c_2
    have kt_2 : ¬ (0 ≤ ia.toInt ∧ ia.toInt < p_count.toInt) := two_z q_r_1 c_2
    refine lv_bipush (v := (-2)) hx hb dX4_drop_11 (by decide) ?_
    have hP9 := hP.sub (ws' := [(xh, .inr (4, [.ref ph, .ref lh, .ref mh, .int x_lastStatus])), (ph, .inr (3, [p_rows, .ref pa_dropped, .int p_count])), (pa_dropped, .inl (cZ, 40, .inl pc_dropped)), (lh, .inr (1, [l_now, l_ahead, .int l_isOld, l_isReached, l_mayThrow, .int l_gatheredAny, .int l_gatheredLeast, .int l_gatheredGreatest])), (mh, .inr (2, [.int m_hasRun, .int m_thrown, .int m_thrownAt, .ref ma_values, .ref ma_meant, m_lanes, m_lengths, m_cells, .long m_state])), (ma_values, .inl (cI, 6, .inl mc_values)), (ma_meant, .inl (cI, 6, .inl mc_meant))]) [0, 6, 1, 2, 3, 4, 5] rfl
    have hD9 := hD.sub (ws' := [(xh, .inr (4, [.ref ph, .ref lh, .ref mh, .int x_lastStatus])), (ph, .inr (3, [p_rows, .ref pa_dropped, .int p_count])), (pa_dropped, .inl (cZ, 40, .inl pc_dropped)), (lh, .inr (1, [l_now, l_ahead, .int l_isOld, l_isReached, l_mayThrow, .int l_gatheredAny, .int l_gatheredLeast, .int l_gatheredGreatest])), (mh, .inr (2, [.int m_hasRun, .int m_thrown, .int m_thrownAt, .ref ma_values, .ref ma_meant, m_lanes, m_lengths, m_cells, .long m_state])), (ma_values, .inl (cI, 6, .inl mc_values)), (ma_meant, .inl (cI, 6, .inl mc_meant))]) [0, 6, 1, 2, 3, 4, 5] (by decide) rfl
    exact W.iret (v := (-2)) hx hb hr (fun t ht hW => ⟨⟨(-2), (pc_dropped, l_isOld, m_hasRun, m_thrown, m_thrownAt, mc_values, mc_meant), rfl, ⟨(show (((-2) : Int32) = -2 ∧ ¬ (0 ≤ ia.toInt ∧ ia.toInt < p_count.toInt)) ∨ (((-2) : Int32) = 0 ∧ (0 ≤ ia.toInt ∧ ia.toInt < p_count.toInt) ∧ ¬ pc_dropped (ia).toNatClampNeg = 0) ∨ (((-2) : Int32) = 1 ∧ (0 ≤ ia.toInt ∧ ia.toInt < p_count.toInt) ∧ pc_dropped (ia).toNatClampNeg = 0) from (by first | exact Or.inl ⟨rfl, by assumption⟩ | exact Or.inr (Or.inl ⟨rfl, by assumption, by assumption⟩) | exact Or.inr (Or.inr ⟨rfl, by assumption, by assumption⟩))), (show kZ l_isOld from q_l_isOld), (show kZ m_hasRun from q_m_hasRun), (show ∀ j : Nat, kSITE (mc_meant j) from h_mc_meant), (show (¬ ((-2) : Int32) = 1 ∧ pc_dropped = pc_dropped) ∨ (((-2) : Int32) = 1 ∧ pc_dropped = (upd pc_dropped ((ia).toNatClampNeg) 1)) from (by first | exact Or.inl ⟨by decide, rfl⟩ | exact Or.inr ⟨rfl, rfl⟩))⟩, by rw [ht]; exact hP9, va_K.moved hW.alike hK, hD9⟩, hS.F ht⟩) hS.2.2 dX4_drop_13
