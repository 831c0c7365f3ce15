def w_X3_isAct : List Cond := .code yX3_isAct cX3_isAct 6 (some .boolean) :: ([.code yX4_isVariable cX4_isVariable 1 (some .boolean), .initialized RX4, .static yX4_isVariable, .code yX4_isNumber cX4_isNumber 1 (some .boolean), .constant RX4 204 (-1000000), .constant RX4 205 (1000000), .static yX4_isNumber, .code yX4_isReference cX4_isReference 1 (some .boolean), .static yX4_isReference, .code yX4_isLane cX4_isLane 1 (some .boolean), .static yX4_isLane])
set_option maxRecDepth 20000 in
theorem g_X3_isAct_X4_isVariable_23 : GoodIn w_X3_isAct (w_X4_isVariable) := goodIn_r _ [1] (by decide +kernel) (by decide +kernel)
set_option maxRecDepth 20000 in
theorem g_X3_isAct_X4_isNumber_27 : GoodIn w_X3_isAct (w_X4_isNumber) := goodIn_r _ [4, 5, 6] (by decide +kernel) (by decide +kernel)
set_option maxRecDepth 20000 in
theorem g_X3_isAct_X4_isReference_30 : GoodIn w_X3_isAct (w_X4_isReference) := goodIn_r _ [8] (by decide +kernel) (by decide +kernel)
set_option maxRecDepth 20000 in
theorem g_X3_isAct_X4_isLane_33 : GoodIn w_X3_isAct (w_X4_isLane) := goodIn_r _ [10] (by decide +kernel) (by decide +kernel)
abbrev pw_X3_isAct (cI cJ cZ : ClassId) (ka : Int32) (aa : Int32) (ba : Int32) (ca : Int32) (da : Int32) (ea : Int32) : va_W := []
set_option maxHeartbeats 4000000 in
set_option maxRecDepth 100000 in
theorem c_X3_isAct (l : Launch) (dC : Nat → ClassId) (dI : Nat → Nat → Nat) (cI cJ cZ : ClassId) (ka : Int32) (aa : Int32) (ba : Int32) (ca : Int32) (da : Int32) (ea : Int32) (sz : Nat) : Met l yX3_isAct w_X3_isAct ({ frames := 1, cells := 0, slots := 0, locals := 20 }) (va_Pc [.int ka, .int aa, .int ba, .int ca, .int da, .int ea] (cPre dC dI cI cJ cZ sz (pw_X3_isAct cI cJ cZ ka aa ba ca da ea))) (va_Qi (fun (r : Int32) (u : Nat → Nat) => two r (okP ka aa ba ca da ea) 1 0) (fun (u : Nat → Nat) => cPost dC dI cI cJ cZ (va_A (pw_X3_isAct cI cJ cZ ka aa ba ca da ea) sz) []) (va_A (pw_X3_isAct cI cJ cZ ka aa ba ca da ea) sz)) 0 0 (va_A (pw_X3_isAct cI cJ cZ ka aa ba ca da ea) sz) := by
  refine Met.ofW (cc := cX3_isAct) (maxL := 6) (ret := (some .boolean)) (by decide) rfl ?_
  intro p e s m args below meth c s₁ B hml hv
  obtain ⟨rfl, hsz, hP, hK, hD0, hN⟩ := hv
  have hx := B.exec
  have hb := B.bytes
  have hr := B.returns
  have hts := atoms_spec (ws := w_X3_isAct) B.pre
  have hown : s.vm.findClass RX3 = some m.cls := findClass_of_methodNamed B.named
  have hlocks := B.notSynchronized
  subst hsz
  have hD := hD0.self (sz := s.heap.size)
  generalize hAe : va_A (pw_X3_isAct cI cJ cZ ka aa ba ca da ea) s.heap.size = A at hD ⊢
  have hA : ∀ q : Nat, s.heap.size ≤ q → A q := fun q h => by rw [← hAe]; exact Or.inr h
  clear hAe hD0
  have hS : va_S A s.heap s.heap [] := va_S.rf
  replace hP : va_P (dC, dI) vwCl [] s.heap := hP
  replace hD : va_D A [] := hD
  have hl := lv_entry ([.int ka, .int aa, .int ba, .int ca, .int da, .int ea]) (n := 6) (Nat.le_of_ble_eq_true rfl)
  rw [lg_entry_eq]
  generalize (lg_sl ([.int ka, .int aa, .int ba, .int ca, .int da, .int ea]) ++ List.replicate (6 - (lg_sl ([.int ka, .int aa, .int ba, .int ca, .int da, .int ea])).length) Slot.unset).toArray = ls at hl ⊢
  replace hl : lv_has ls 6 [(0, .int ka), (1, .int aa), (2, .int ba), (3, .int ca), (4, .int da), (5, .int ea)] := hl
  refine lv_iload_n hx hb dX3_isAct_0 rfl (lv_at hl 0 rfl) ?_
  by_cases hk : ka.toInt < 0 ∨ 14 < ka.toInt
  · refine lv_tableOut (tgt := 427) hx hb dX3_isAct_1 hk (by decide) ?_
    refine lv_iconst (v := 0) hx hb dX3_isAct_427 (by decide) ?_
    have hP9 := hP.sub (ws' := []) [] rfl
    have hD9 := hD.sub (ws' := []) [] (by decide) rfl
    exact W.zret (v := 0) (ty := .boolean) hx hb hr rfl (fun t ht hW => ⟨⟨0, (fun _ => 0), rfl, (Or.inr ⟨rfl, okP_out hk⟩), by rw [ht]; exact hP9, va_K.moved hW.alike hK, hD9⟩, hS.F ht⟩) hS.2.2 dX3_isAct_428
  · have hk2 : ka.toInt = 0 ∨ ka.toInt = 1 ∨ ka.toInt = 2 ∨ ka.toInt = 3 ∨ ka.toInt = 4 ∨ ka.toInt = 5 ∨ ka.toInt = 6 ∨ ka.toInt = 7 ∨ ka.toInt = 8 ∨ ka.toInt = 9 ∨ ka.toInt = 10 ∨ ka.toInt = 11 ∨ ka.toInt = 12 ∨ ka.toInt = 13 ∨ ka.toInt = 14 := by omega
    rcases hk2 with hk3 | hk3 | hk3 | hk3 | hk3 | hk3 | hk3 | hk3 | hk3 | hk3 | hk3 | hk3 | hk3 | hk3 | hk3
    · refine lv_tableIn (tgt := 76) (off := 75) hx hb dX3_isAct_1 (by omega) (by omega) (by rw [hk3]; rfl) (by decide) ?_
      refine lv_iload_n hx hb dX3_isAct_76 rfl (lv_at hl 1 rfl) ?_
      refine vp_callSi (va_runSN (As := [.int aa]) (rest := []) ⟨hx, hb, hml, hown, hts⟩ (c_X4_isVariable l aa) (⟨va_cnB 1 hts g_X3_isAct_X4_isVariable_23 rfl rfl rfl (hN.2.2.2.1) (hts (.initialized RX4) (List.mem_of_getElem? (i := 2) rfl)) (by decide +kernel) ⟨Nat.le_of_ble_eq_true rfl, Nat.le_of_ble_eq_true rfl⟩, hts (.static yX4_isVariable) (List.mem_of_getElem? (i := 3) rfl), trivial⟩) ⟨fun _ _ _ _ q => q, fun _ _ _ => ⟨rfl, trivial⟩⟩ rfl rfl hl.1 rfl (lv_room (Nat.le_of_ble_eq_true rfl)) dX3_isAct_77 ⟨Nat.le_of_ble_eq_true rfl, Nat.le_of_ble_eq_true rfl⟩).run (fun r_1 hw_1 => ?_)
      refine lv_if_eq (tgt := 94) hx hb dX3_isAct_80 (by decide) (fun c_2 => ?_) (fun c_2 => ?_)
      · -- yes
        have k_2 : ¬ (V6 aa) := two_z hw_1 c_2
        refine lv_iconst (v := 0) hx hb dX3_isAct_94 (by decide) ?_
        have hP9 := hP.sub (ws' := []) [] rfl
        have hD9 := hD.sub (ws' := []) [] (by decide) rfl
        exact W.zret (v := 0) (ty := .boolean) hx hb hr rfl (fun t ht hW => ⟨⟨0, (fun _ => 0), rfl, (Or.inr ⟨rfl, fun h9 => by have h8 := (okP_0 hk3).mp h9; omega⟩), by rw [ht]; exact hP9, va_K.moved hW.alike hK, hD9⟩, hS.F ht⟩) hS.2.2 dX3_isAct_95
      · -- no
        have k_2 : V6 aa := two_nz hw_1 c_2
        refine lv_iload_n hx hb dX3_isAct_83 rfl (lv_at hl 2 rfl) ?_
        refine vp_callSi (va_runSN (As := [.int ba]) (rest := []) ⟨hx, hb, hml, hown, hts⟩ (c_X4_isNumber l ba) (⟨va_cnB 1 hts g_X3_isAct_X4_isNumber_27 rfl rfl rfl (hN.2.2.2.2.1) (hts (.initialized RX4) (List.mem_of_getElem? (i := 2) rfl)) (by decide +kernel) ⟨Nat.le_of_ble_eq_true rfl, Nat.le_of_ble_eq_true rfl⟩, hts (.static yX4_isNumber) (List.mem_of_getElem? (i := 7) rfl), trivial⟩) ⟨fun _ _ _ _ q => q, fun _ _ _ => ⟨rfl, trivial⟩⟩ rfl rfl hl.1 rfl (lv_room (Nat.le_of_ble_eq_true rfl)) dX3_isAct_84 ⟨Nat.le_of_ble_eq_true rfl, Nat.le_of_ble_eq_true rfl⟩).run (fun r_3 hw_3 => ?_)
        refine lv_if_eq (tgt := 94) hx hb dX3_isAct_87 (by decide) (fun c_4 => ?_) (fun c_4 => ?_)
        · -- yes
          have k_4 : ¬ (VN ba) := two_z hw_3 c_4
          refine lv_iconst (v := 0) hx hb dX3_isAct_94 (by decide) ?_
          have hP9 := hP.sub (ws' := []) [] rfl
          have hD9 := hD.sub (ws' := []) [] (by decide) rfl
          exact W.zret (v := 0) (ty := .boolean) hx hb hr rfl (fun t ht hW => ⟨⟨0, (fun _ => 0), rfl, (Or.inr ⟨rfl, fun h9 => by have h8 := (okP_0 hk3).mp h9; omega⟩), by rw [ht]; exact hP9, va_K.moved hW.alike hK, hD9⟩, hS.F ht⟩) hS.2.2 dX3_isAct_95
        · -- no
          have k_4 : VN ba := two_nz hw_3 c_4
          refine lv_iconst (v := 1) hx hb dX3_isAct_90 (by decide) ?_
          refine lv_goto (tgt := 95) hx hb dX3_isAct_91 (by decide) ?_
          have hP9 := hP.sub (ws' := []) [] rfl
          have hD9 := hD.sub (ws' := []) [] (by decide) rfl
          exact W.zret (v := 1) (ty := .boolean) hx hb hr rfl (fun t ht hW => ⟨⟨1, (fun _ => 0), rfl, (Or.inl ⟨rfl, (okP_0 hk3).mpr (by omega)⟩), by rw [ht]; exact hP9, va_K.moved hW.alike hK, hD9⟩, hS.F ht⟩) hS.2.2 dX3_isAct_95
    · refine lv_tableIn (tgt := 96) (off := 95) hx hb dX3_isAct_1 (by omega) (by omega) (by rw [hk3]; rfl) (by decide) ?_
      refine lv_iload_n hx hb dX3_isAct_96 rfl (lv_at hl 1 rfl) ?_
      refine vp_callSi (va_runSN (As := [.int aa]) (rest := []) ⟨hx, hb, hml, hown, hts⟩ (c_X4_isVariable l aa) (⟨va_cnB 1 hts g_X3_isAct_X4_isVariable_23 rfl rfl rfl (hN.2.2.2.1) (hts (.initialized RX4) (List.mem_of_getElem? (i := 2) rfl)) (by decide +kernel) ⟨Nat.le_of_ble_eq_true rfl, Nat.le_of_ble_eq_true rfl⟩, hts (.static yX4_isVariable) (List.mem_of_getElem? (i := 3) rfl), trivial⟩) ⟨fun _ _ _ _ q => q, fun _ _ _ => ⟨rfl, trivial⟩⟩ rfl rfl hl.1 rfl (lv_room (Nat.le_of_ble_eq_true rfl)) dX3_isAct_97 ⟨Nat.le_of_ble_eq_true rfl, Nat.le_of_ble_eq_true rfl⟩).run (fun r_5 hw_5 => ?_)
      refine lv_if_eq (tgt := 126) hx hb dX3_isAct_100 (by decide) (fun c_6 => ?_) (fun c_6 => ?_)
      · -- yes
        have k_6 : ¬ (V6 aa) := two_z hw_5 c_6
        refine lv_iconst (v := 0) hx hb dX3_isAct_126 (by decide) ?_
        have hP9 := hP.sub (ws' := []) [] rfl
        have hD9 := hD.sub (ws' := []) [] (by decide) rfl
        exact W.zret (v := 0) (ty := .boolean) hx hb hr rfl (fun t ht hW => ⟨⟨0, (fun _ => 0), rfl, (Or.inr ⟨rfl, fun h9 => by have h8 := (okP_1 hk3).mp h9; omega⟩), by rw [ht]; exact hP9, va_K.moved hW.alike hK, hD9⟩, hS.F ht⟩) hS.2.2 dX3_isAct_127
      · -- no
        have k_6 : V6 aa := two_nz hw_5 c_6
        refine lv_iload_n hx hb dX3_isAct_103 rfl (lv_at hl 2 rfl) ?_
        refine vp_callSi (va_runSN (As := [.int ba]) (rest := []) ⟨hx, hb, hml, hown, hts⟩ (c_X4_isNumber l ba) (⟨va_cnB 1 hts g_X3_isAct_X4_isNumber_27 rfl rfl rfl (hN.2.2.2.2.1) (hts (.initialized RX4) (List.mem_of_getElem? (i := 2) rfl)) (by decide +kernel) ⟨Nat.le_of_ble_eq_true rfl, Nat.le_of_ble_eq_true rfl⟩, hts (.static yX4_isNumber) (List.mem_of_getElem? (i := 7) rfl), trivial⟩) ⟨fun _ _ _ _ q => q, fun _ _ _ => ⟨rfl, trivial⟩⟩ rfl rfl hl.1 rfl (lv_room (Nat.le_of_ble_eq_true rfl)) dX3_isAct_104 ⟨Nat.le_of_ble_eq_true rfl, Nat.le_of_ble_eq_true rfl⟩).run (fun r_7 hw_7 => ?_)
        refine lv_if_eq (tgt := 126) hx hb dX3_isAct_107 (by decide) (fun c_8 => ?_) (fun c_8 => ?_)
        · -- yes
          have k_8 : ¬ (VN ba) := two_z hw_7 c_8
          refine lv_iconst (v := 0) hx hb dX3_isAct_126 (by decide) ?_
          have hP9 := hP.sub (ws' := []) [] rfl
          have hD9 := hD.sub (ws' := []) [] (by decide) rfl
          exact W.zret (v := 0) (ty := .boolean) hx hb hr rfl (fun t ht hW => ⟨⟨0, (fun _ => 0), rfl, (Or.inr ⟨rfl, fun h9 => by have h8 := (okP_1 hk3).mp h9; omega⟩), by rw [ht]; exact hP9, va_K.moved hW.alike hK, hD9⟩, hS.F ht⟩) hS.2.2 dX3_isAct_127
        · -- no
          have k_8 : VN ba := two_nz hw_7 c_8
          refine lv_iload_n hx hb dX3_isAct_110 rfl (lv_at hl 3 rfl) ?_
          refine vp_callSi (va_runSN (As := [.int ca]) (rest := []) ⟨hx, hb, hml, hown, hts⟩ (c_X4_isNumber l ca) (⟨va_cnB 1 hts g_X3_isAct_X4_isNumber_27 rfl rfl rfl (hN.2.2.2.2.1) (hts (.initialized RX4) (List.mem_of_getElem? (i := 2) rfl)) (by decide +kernel) ⟨Nat.le_of_ble_eq_true rfl, Nat.le_of_ble_eq_true rfl⟩, hts (.static yX4_isNumber) (List.mem_of_getElem? (i := 7) rfl), trivial⟩) ⟨fun _ _ _ _ q => q, fun _ _ _ => ⟨rfl, trivial⟩⟩ rfl rfl hl.1 rfl (lv_room (Nat.le_of_ble_eq_true rfl)) dX3_isAct_111 ⟨Nat.le_of_ble_eq_true rfl, Nat.le_of_ble_eq_true rfl⟩).run (fun r_9 hw_9 => ?_)
          refine lv_if_eq (tgt := 126) hx hb dX3_isAct_114 (by decide) (fun c_10 => ?_) (fun c_10 => ?_)
          · -- yes
            have k_10 : ¬ (VN ca) := two_z hw_9 c_10
            refine lv_iconst (v := 0) hx hb dX3_isAct_126 (by decide) ?_
            have hP9 := hP.sub (ws' := []) [] rfl
            have hD9 := hD.sub (ws' := []) [] (by decide) rfl
            exact W.zret (v := 0) (ty := .boolean) hx hb hr rfl (fun t ht hW => ⟨⟨0, (fun _ => 0), rfl, (Or.inr ⟨rfl, fun h9 => by have h8 := (okP_1 hk3).mp h9; omega⟩), by rw [ht]; exact hP9, va_K.moved hW.alike hK, hD9⟩, hS.F ht⟩) hS.2.2 dX3_isAct_127
          · -- no
            have k_10 : VN ca := two_nz hw_9 c_10
            refine lv_iload_n hx hb dX3_isAct_117 rfl (lv_at hl 2 rfl) ?_
            refine lv_iload_n hx hb dX3_isAct_118 rfl (lv_at hl 3 rfl) ?_
            refine lv_icmp_gt (tgt := 126) hx hb dX3_isAct_119 (by decide) (fun c_11 => ?_) (fun c_11 => ?_)
            · -- yes
              have k_11 : (ca.toInt : Int) < (ba.toInt : Int) := by first | exact lt_i c_11 | simpa using lt_i c_11
              refine lv_iconst (v := 0) hx hb dX3_isAct_126 (by decide) ?_
              have hP9 := hP.sub (ws' := []) [] rfl
              have hD9 := hD.sub (ws' := []) [] (by decide) rfl
              exact W.zret (v := 0) (ty := .boolean) hx hb hr rfl (fun t ht hW => ⟨⟨0, (fun _ => 0), rfl, (Or.inr ⟨rfl, fun h9 => by have h8 := (okP_1 hk3).mp h9; omega⟩), by rw [ht]; exact hP9, va_K.moved hW.alike hK, hD9⟩, hS.F ht⟩) hS.2.2 dX3_isAct_127
            · -- no
              have k_11 : (ba.toInt : Int) ≤ (ca.toInt : Int) := by first | exact nlt_i c_11 | simpa using nlt_i c_11
              refine lv_iconst (v := 1) hx hb dX3_isAct_122 (by decide) ?_
              refine lv_goto (tgt := 127) hx hb dX3_isAct_123 (by decide) ?_
              have hP9 := hP.sub (ws' := []) [] rfl
              have hD9 := hD.sub (ws' := []) [] (by decide) rfl
              exact W.zret (v := 1) (ty := .boolean) hx hb hr rfl (fun t ht hW => ⟨⟨1, (fun _ => 0), rfl, (Or.inl ⟨rfl, (okP_1 hk3).mpr (by omega)⟩), by rw [ht]; exact hP9, va_K.moved hW.alike hK, hD9⟩, hS.F ht⟩) hS.2.2 dX3_isAct_127
    · refine lv_tableIn (tgt := 128) (off := 127) hx hb dX3_isAct_1 (by omega) (by omega) (by rw [hk3]; rfl) (by decide) ?_
      refine lv_iload_n hx hb dX3_isAct_128 rfl (lv_at hl 1 rfl) ?_
      refine vp_callSi (va_runSN (As := [.int aa]) (rest := []) ⟨hx, hb, hml, hown, hts⟩ (c_X4_isVariable l aa) (⟨va_cnB 1 hts g_X3_isAct_X4_isVariable_23 rfl rfl rfl (hN.2.2.2.1) (hts (.initialized RX4) (List.mem_of_getElem? (i := 2) rfl)) (by decide +kernel) ⟨Nat.le_of_ble_eq_true rfl, Nat.le_of_ble_eq_true rfl⟩, hts (.static yX4_isVariable) (List.mem_of_getElem? (i := 3) rfl), trivial⟩) ⟨fun _ _ _ _ q => q, fun _ _ _ => ⟨rfl, trivial⟩⟩ rfl rfl hl.1 rfl (lv_room (Nat.le_of_ble_eq_true rfl)) dX3_isAct_129 ⟨Nat.le_of_ble_eq_true rfl, Nat.le_of_ble_eq_true rfl⟩).run (fun r_12 hw_12 => ?_)
      refine lv_if_eq (tgt := 153) hx hb dX3_isAct_132 (by decide) (fun c_13 => ?_) (fun c_13 => ?_)
      · -- yes
        have k_13 : ¬ (V6 aa) := two_z hw_12 c_13
        refine lv_iconst (v := 0) hx hb dX3_isAct_153 (by decide) ?_
        have hP9 := hP.sub (ws' := []) [] rfl
        have hD9 := hD.sub (ws' := []) [] (by decide) rfl
        exact W.zret (v := 0) (ty := .boolean) hx hb hr rfl (fun t ht hW => ⟨⟨0, (fun _ => 0), rfl, (Or.inr ⟨rfl, fun h9 => by have h8 := (okP_2 hk3).mp h9; omega⟩), by rw [ht]; exact hP9, va_K.moved hW.alike hK, hD9⟩, hS.F ht⟩) hS.2.2 dX3_isAct_154
      · -- no
        have k_13 : V6 aa := two_nz hw_12 c_13
        refine lv_iload_n hx hb dX3_isAct_135 rfl (lv_at hl 2 rfl) ?_
        refine vp_callSi (va_runSN (As := [.int ba]) (rest := []) ⟨hx, hb, hml, hown, hts⟩ (c_X4_isVariable l ba) (⟨va_cnB 1 hts g_X3_isAct_X4_isVariable_23 rfl rfl rfl (hN.2.2.2.1) (hts (.initialized RX4) (List.mem_of_getElem? (i := 2) rfl)) (by decide +kernel) ⟨Nat.le_of_ble_eq_true rfl, Nat.le_of_ble_eq_true rfl⟩, hts (.static yX4_isVariable) (List.mem_of_getElem? (i := 3) rfl), trivial⟩) ⟨fun _ _ _ _ q => q, fun _ _ _ => ⟨rfl, trivial⟩⟩ rfl rfl hl.1 rfl (lv_room (Nat.le_of_ble_eq_true rfl)) dX3_isAct_136 ⟨Nat.le_of_ble_eq_true rfl, Nat.le_of_ble_eq_true rfl⟩).run (fun r_14 hw_14 => ?_)
        refine lv_if_eq (tgt := 153) hx hb dX3_isAct_139 (by decide) (fun c_15 => ?_) (fun c_15 => ?_)
        · -- yes
          have k_15 : ¬ (V6 ba) := two_z hw_14 c_15
          refine lv_iconst (v := 0) hx hb dX3_isAct_153 (by decide) ?_
          have hP9 := hP.sub (ws' := []) [] rfl
          have hD9 := hD.sub (ws' := []) [] (by decide) rfl
          exact W.zret (v := 0) (ty := .boolean) hx hb hr rfl (fun t ht hW => ⟨⟨0, (fun _ => 0), rfl, (Or.inr ⟨rfl, fun h9 => by have h8 := (okP_2 hk3).mp h9; omega⟩), by rw [ht]; exact hP9, va_K.moved hW.alike hK, hD9⟩, hS.F ht⟩) hS.2.2 dX3_isAct_154
        · -- no
          have k_15 : V6 ba := two_nz hw_14 c_15
          refine lv_iload_n hx hb dX3_isAct_142 rfl (lv_at hl 3 rfl) ?_
          refine vp_callSi (va_runSN (As := [.int ca]) (rest := []) ⟨hx, hb, hml, hown, hts⟩ (c_X4_isVariable l ca) (⟨va_cnB 1 hts g_X3_isAct_X4_isVariable_23 rfl rfl rfl (hN.2.2.2.1) (hts (.initialized RX4) (List.mem_of_getElem? (i := 2) rfl)) (by decide +kernel) ⟨Nat.le_of_ble_eq_true rfl, Nat.le_of_ble_eq_true rfl⟩, hts (.static yX4_isVariable) (List.mem_of_getElem? (i := 3) rfl), trivial⟩) ⟨fun _ _ _ _ q => q, fun _ _ _ => ⟨rfl, trivial⟩⟩ rfl rfl hl.1 rfl (lv_room (Nat.le_of_ble_eq_true rfl)) dX3_isAct_143 ⟨Nat.le_of_ble_eq_true rfl, Nat.le_of_ble_eq_true rfl⟩).run (fun r_16 hw_16 => ?_)
          refine lv_if_eq (tgt := 153) hx hb dX3_isAct_146 (by decide) (fun c_17 => ?_) (fun c_17 => ?_)
          · -- yes
            have k_17 : ¬ (V6 ca) := two_z hw_16 c_17
            refine lv_iconst (v := 0) hx hb dX3_isAct_153 (by decide) ?_
            have hP9 := hP.sub (ws' := []) [] rfl
            have hD9 := hD.sub (ws' := []) [] (by decide) rfl
            exact W.zret (v := 0) (ty := .boolean) hx hb hr rfl (fun t ht hW => ⟨⟨0, (fun _ => 0), rfl, (Or.inr ⟨rfl, fun h9 => by have h8 := (okP_2 hk3).mp h9; omega⟩), by rw [ht]; exact hP9, va_K.moved hW.alike hK, hD9⟩, hS.F ht⟩) hS.2.2 dX3_isAct_154
          · -- no
            have k_17 : V6 ca := two_nz hw_16 c_17
            refine lv_iconst (v := 1) hx hb dX3_isAct_149 (by decide) ?_
            refine lv_goto (tgt := 154) hx hb dX3_isAct_150 (by decide) ?_
            have hP9 := hP.sub (ws' := []) [] rfl
            have hD9 := hD.sub (ws' := []) [] (by decide) rfl
            exact W.zret (v := 1) (ty := .boolean) hx hb hr rfl (fun t ht hW => ⟨⟨1, (fun _ => 0), rfl, (Or.inl ⟨rfl, (okP_2 hk3).mpr (by omega)⟩), by rw [ht]; exact hP9, va_K.moved hW.alike hK, hD9⟩, hS.F ht⟩) hS.2.2 dX3_isAct_154
    · refine lv_tableIn (tgt := 128) (off := 127) hx hb dX3_isAct_1 (by omega) (by omega) (by rw [hk3]; rfl) (by decide) ?_
      refine lv_iload_n hx hb dX3_isAct_128 rfl (lv_at hl 1 rfl) ?_
      refine vp_callSi (va_runSN (As := [.int aa]) (rest := []) ⟨hx, hb, hml, hown, hts⟩ (c_X4_isVariable l aa) (⟨va_cnB 1 hts g_X3_isAct_X4_isVariable_23 rfl rfl rfl (hN.2.2.2.1) (hts (.initialized RX4) (List.mem_of_getElem? (i := 2) rfl)) (by decide +kernel) ⟨Nat.le_of_ble_eq_true rfl, Nat.le_of_ble_eq_true rfl⟩, hts (.static yX4_isVariable) (List.mem_of_getElem? (i := 3) rfl), trivial⟩) ⟨fun _ _ _ _ q => q, fun _ _ _ => ⟨rfl, trivial⟩⟩ rfl rfl hl.1 rfl (lv_room (Nat.le_of_ble_eq_true rfl)) dX3_isAct_129 ⟨Nat.le_of_ble_eq_true rfl, Nat.le_of_ble_eq_true rfl⟩).run (fun r_18 hw_18 => ?_)
      refine lv_if_eq (tgt := 153) hx hb dX3_isAct_132 (by decide) (fun c_19 => ?_) (fun c_19 => ?_)
      · -- yes
        have k_19 : ¬ (V6 aa) := two_z hw_18 c_19
        refine lv_iconst (v := 0) hx hb dX3_isAct_153 (by decide) ?_
        have hP9 := hP.sub (ws' := []) [] rfl
        have hD9 := hD.sub (ws' := []) [] (by decide) rfl
        exact W.zret (v := 0) (ty := .boolean) hx hb hr rfl (fun t ht hW => ⟨⟨0, (fun _ => 0), rfl, (Or.inr ⟨rfl, fun h9 => by have h8 := (okP_3 hk3).mp h9; omega⟩), by rw [ht]; exact hP9, va_K.moved hW.alike hK, hD9⟩, hS.F ht⟩) hS.2.2 dX3_isAct_154
      · -- no
        have k_19 : V6 aa := two_nz hw_18 c_19
        refine lv_iload_n hx hb dX3_isAct_135 rfl (lv_at hl 2 rfl) ?_
        refine vp_callSi (va_runSN (As := [.int ba]) (rest := []) ⟨hx, hb, hml, hown, hts⟩ (c_X4_isVariable l ba) (⟨va_cnB 1 hts g_X3_isAct_X4_isVariable_23 rfl rfl rfl (hN.2.2.2.1) (hts (.initialized RX4) (List.mem_of_getElem? (i := 2) rfl)) (by decide +kernel) ⟨Nat.le_of_ble_eq_true rfl, Nat.le_of_ble_eq_true rfl⟩, hts (.static yX4_isVariable) (List.mem_of_getElem? (i := 3) rfl), trivial⟩) ⟨fun _ _ _ _ q => q, fun _ _ _ => ⟨rfl, trivial⟩⟩ rfl rfl hl.1 rfl (lv_room (Nat.le_of_ble_eq_true rfl)) dX3_isAct_136 ⟨Nat.le_of_ble_eq_true rfl, Nat.le_of_ble_eq_true rfl⟩).run (fun r_20 hw_20 => ?_)
        refine lv_if_eq (tgt := 153) hx hb dX3_isAct_139 (by decide) (fun c_21 => ?_) (fun c_21 => ?_)
        · -- yes
          have k_21 : ¬ (V6 ba) := two_z hw_20 c_21
          refine lv_iconst (v := 0) hx hb dX3_isAct_153 (by decide) ?_
          have hP9 := hP.sub (ws' := []) [] rfl
          have hD9 := hD.sub (ws' := []) [] (by decide) rfl
          exact W.zret (v := 0) (ty := .boolean) hx hb hr rfl (fun t ht hW => ⟨⟨0, (fun _ => 0), rfl, (Or.inr ⟨rfl, fun h9 => by have h8 := (okP_3 hk3).mp h9; omega⟩), by rw [ht]; exact hP9, va_K.moved hW.alike hK, hD9⟩, hS.F ht⟩) hS.2.2 dX3_isAct_154
        · -- no
          have k_21 : V6 ba := two_nz hw_20 c_21
          refine lv_iload_n hx hb dX3_isAct_142 rfl (lv_at hl 3 rfl) ?_
          refine vp_callSi (va_runSN (As := [.int ca]) (rest := []) ⟨hx, hb, hml, hown, hts⟩ (c_X4_isVariable l ca) (⟨va_cnB 1 hts g_X3_isAct_X4_isVariable_23 rfl rfl rfl (hN.2.2.2.1) (hts (.initialized RX4) (List.mem_of_getElem? (i := 2) rfl)) (by decide +kernel) ⟨Nat.le_of_ble_eq_true rfl, Nat.le_of_ble_eq_true rfl⟩, hts (.static yX4_isVariable) (List.mem_of_getElem? (i := 3) rfl), trivial⟩) ⟨fun _ _ _ _ q => q, fun _ _ _ => ⟨rfl, trivial⟩⟩ rfl rfl hl.1 rfl (lv_room (Nat.le_of_ble_eq_true rfl)) dX3_isAct_143 ⟨Nat.le_of_ble_eq_true rfl, Nat.le_of_ble_eq_true rfl⟩).run (fun r_22 hw_22 => ?_)
          refine lv_if_eq (tgt := 153) hx hb dX3_isAct_146 (by decide) (fun c_23 => ?_) (fun c_23 => ?_)
          · -- yes
            have k_23 : ¬ (V6 ca) := two_z hw_22 c_23
            refine lv_iconst (v := 0) hx hb dX3_isAct_153 (by decide) ?_
            have hP9 := hP.sub (ws' := []) [] rfl
            have hD9 := hD.sub (ws' := []) [] (by decide) rfl
            exact W.zret (v := 0) (ty := .boolean) hx hb hr rfl (fun t ht hW => ⟨⟨0, (fun _ => 0), rfl, (Or.inr ⟨rfl, fun h9 => by have h8 := (okP_3 hk3).mp h9; omega⟩), by rw [ht]; exact hP9, va_K.moved hW.alike hK, hD9⟩, hS.F ht⟩) hS.2.2 dX3_isAct_154
          · -- no
            have k_23 : V6 ca := two_nz hw_22 c_23
            refine lv_iconst (v := 1) hx hb dX3_isAct_149 (by decide) ?_
            refine lv_goto (tgt := 154) hx hb dX3_isAct_150 (by decide) ?_
            have hP9 := hP.sub (ws' := []) [] rfl
            have hD9 := hD.sub (ws' := []) [] (by decide) rfl
            exact W.zret (v := 1) (ty := .boolean) hx hb hr rfl (fun t ht hW => ⟨⟨1, (fun _ => 0), rfl, (Or.inl ⟨rfl, (okP_3 hk3).mpr (by omega)⟩), by rw [ht]; exact hP9, va_K.moved hW.alike hK, hD9⟩, hS.F ht⟩) hS.2.2 dX3_isAct_154
    · refine lv_tableIn (tgt := 155) (off := 154) hx hb dX3_isAct_1 (by omega) (by omega) (by rw [hk3]; rfl) (by decide) ?_
      refine lv_iload_n hx hb dX3_isAct_155 rfl (lv_at hl 1 rfl) ?_
      refine vp_callSi (va_runSN (As := [.int aa]) (rest := []) ⟨hx, hb, hml, hown, hts⟩ (c_X4_isReference l aa) (⟨va_cnB 1 hts g_X3_isAct_X4_isReference_30 rfl rfl rfl (hN.2.2.2.2.2.1) (hts (.initialized RX4) (List.mem_of_getElem? (i := 2) rfl)) (by decide +kernel) ⟨Nat.le_of_ble_eq_true rfl, Nat.le_of_ble_eq_true rfl⟩, hts (.static yX4_isReference) (List.mem_of_getElem? (i := 9) rfl), trivial⟩) ⟨fun _ _ _ _ q => q, fun _ _ _ => ⟨rfl, trivial⟩⟩ rfl rfl hl.1 rfl (lv_room (Nat.le_of_ble_eq_true rfl)) dX3_isAct_156 ⟨Nat.le_of_ble_eq_true rfl, Nat.le_of_ble_eq_true rfl⟩).run (fun r_24 hw_24 => ?_)
      refine lv_if_eq (tgt := 180) hx hb dX3_isAct_159 (by decide) (fun c_25 => ?_) (fun c_25 => ?_)
      · -- yes
        have k_25 : ¬ (V6 aa) := two_z hw_24 c_25
        refine lv_iconst (v := 0) hx hb dX3_isAct_180 (by decide) ?_
        have hP9 := hP.sub (ws' := []) [] rfl
        have hD9 := hD.sub (ws' := []) [] (by decide) rfl
        exact W.zret (v := 0) (ty := .boolean) hx hb hr rfl (fun t ht hW => ⟨⟨0, (fun _ => 0), rfl, (Or.inr ⟨rfl, fun h9 => by have h8 := (okP_4 hk3).mp h9; omega⟩), by rw [ht]; exact hP9, va_K.moved hW.alike hK, hD9⟩, hS.F ht⟩) hS.2.2 dX3_isAct_181
      · -- no
        have k_25 : V6 aa := two_nz hw_24 c_25
        refine lv_iload_n hx hb dX3_isAct_162 rfl (lv_at hl 2 rfl) ?_
        refine vp_callSi (va_runSN (As := [.int ba]) (rest := []) ⟨hx, hb, hml, hown, hts⟩ (c_X4_isLane l ba) (⟨va_cnB 1 hts g_X3_isAct_X4_isLane_33 rfl rfl rfl (hN.2.2.2.2.2.2) (hts (.initialized RX4) (List.mem_of_getElem? (i := 2) rfl)) (by decide +kernel) ⟨Nat.le_of_ble_eq_true rfl, Nat.le_of_ble_eq_true rfl⟩, hts (.static yX4_isLane) (List.mem_of_getElem? (i := 11) rfl), trivial⟩) ⟨fun _ _ _ _ q => q, fun _ _ _ => ⟨rfl, trivial⟩⟩ rfl rfl hl.1 rfl (lv_room (Nat.le_of_ble_eq_true rfl)) dX3_isAct_163 ⟨Nat.le_of_ble_eq_true rfl, Nat.le_of_ble_eq_true rfl⟩).run (fun r_26 hw_26 => ?_)
        refine lv_if_eq (tgt := 180) hx hb dX3_isAct_166 (by decide) (fun c_27 => ?_) (fun c_27 => ?_)
        · -- yes
          have k_27 : ¬ (V3 ba) := two_z hw_26 c_27
          refine lv_iconst (v := 0) hx hb dX3_isAct_180 (by decide) ?_
          have hP9 := hP.sub (ws' := []) [] rfl
          have hD9 := hD.sub (ws' := []) [] (by decide) rfl
          exact W.zret (v := 0) (ty := .boolean) hx hb hr rfl (fun t ht hW => ⟨⟨0, (fun _ => 0), rfl, (Or.inr ⟨rfl, fun h9 => by have h8 := (okP_4 hk3).mp h9; omega⟩), by rw [ht]; exact hP9, va_K.moved hW.alike hK, hD9⟩, hS.F ht⟩) hS.2.2 dX3_isAct_181
        · -- no
          have k_27 : V3 ba := two_nz hw_26 c_27
          refine lv_iload_n hx hb dX3_isAct_169 rfl (lv_at hl 3 rfl) ?_
          refine vp_callSi (va_runSN (As := [.int ca]) (rest := []) ⟨hx, hb, hml, hown, hts⟩ (c_X4_isVariable l ca) (⟨va_cnB 1 hts g_X3_isAct_X4_isVariable_23 rfl rfl rfl (hN.2.2.2.1) (hts (.initialized RX4) (List.mem_of_getElem? (i := 2) rfl)) (by decide +kernel) ⟨Nat.le_of_ble_eq_true rfl, Nat.le_of_ble_eq_true rfl⟩, hts (.static yX4_isVariable) (List.mem_of_getElem? (i := 3) rfl), trivial⟩) ⟨fun _ _ _ _ q => q, fun _ _ _ => ⟨rfl, trivial⟩⟩ rfl rfl hl.1 rfl (lv_room (Nat.le_of_ble_eq_true rfl)) dX3_isAct_170 ⟨Nat.le_of_ble_eq_true rfl, Nat.le_of_ble_eq_true rfl⟩).run (fun r_28 hw_28 => ?_)
          refine lv_if_eq (tgt := 180) hx hb dX3_isAct_173 (by decide) (fun c_29 => ?_) (fun c_29 => ?_)
          · -- yes
            have k_29 : ¬ (V6 ca) := two_z hw_28 c_29
            refine lv_iconst (v := 0) hx hb dX3_isAct_180 (by decide) ?_
            have hP9 := hP.sub (ws' := []) [] rfl
            have hD9 := hD.sub (ws' := []) [] (by decide) rfl
            exact W.zret (v := 0) (ty := .boolean) hx hb hr rfl (fun t ht hW => ⟨⟨0, (fun _ => 0), rfl, (Or.inr ⟨rfl, fun h9 => by have h8 := (okP_4 hk3).mp h9; omega⟩), by rw [ht]; exact hP9, va_K.moved hW.alike hK, hD9⟩, hS.F ht⟩) hS.2.2 dX3_isAct_181
          · -- no
            have k_29 : V6 ca := two_nz hw_28 c_29
            refine lv_iconst (v := 1) hx hb dX3_isAct_176 (by decide) ?_
            refine lv_goto (tgt := 181) hx hb dX3_isAct_177 (by decide) ?_
            have hP9 := hP.sub (ws' := []) [] rfl
            have hD9 := hD.sub (ws' := []) [] (by decide) rfl
            exact W.zret (v := 1) (ty := .boolean) hx hb hr rfl (fun t ht hW => ⟨⟨1, (fun _ => 0), rfl, (Or.inl ⟨rfl, (okP_4 hk3).mpr (by omega)⟩), by rw [ht]; exact hP9, va_K.moved hW.alike hK, hD9⟩, hS.F ht⟩) hS.2.2 dX3_isAct_181
    · refine lv_tableIn (tgt := 182) (off := 181) hx hb dX3_isAct_1 (by omega) (by omega) (by rw [hk3]; rfl) (by decide) ?_
      refine lv_iload_n hx hb dX3_isAct_182 rfl (lv_at hl 1 rfl) ?_
      refine vp_callSi (va_runSN (As := [.int aa]) (rest := []) ⟨hx, hb, hml, hown, hts⟩ (c_X4_isReference l aa) (⟨va_cnB 1 hts g_X3_isAct_X4_isReference_30 rfl rfl rfl (hN.2.2.2.2.2.1) (hts (.initialized RX4) (List.mem_of_getElem? (i := 2) rfl)) (by decide +kernel) ⟨Nat.le_of_ble_eq_true rfl, Nat.le_of_ble_eq_true rfl⟩, hts (.static yX4_isReference) (List.mem_of_getElem? (i := 9) rfl), trivial⟩) ⟨fun _ _ _ _ q => q, fun _ _ _ => ⟨rfl, trivial⟩⟩ rfl rfl hl.1 rfl (lv_room (Nat.le_of_ble_eq_true rfl)) dX3_isAct_183 ⟨Nat.le_of_ble_eq_true rfl, Nat.le_of_ble_eq_true rfl⟩).run (fun r_30 hw_30 => ?_)
      rcases hw_30 with ⟨rfl, k_31⟩ | ⟨rfl, k_31⟩
      · -- answer 1
        have hP9 := hP.sub (ws' := []) [] rfl
        have hD9 := hD.sub (ws' := []) [] (by decide) rfl
        exact W.zret (v := 1) (ty := .boolean) hx hb hr rfl (fun t ht hW => ⟨⟨1, (fun _ => 0), rfl, (Or.inl ⟨rfl, (okP_5 hk3).mpr (by omega)⟩), by rw [ht]; exact hP9, va_K.moved hW.alike hK, hD9⟩, hS.F ht⟩) hS.2.2 dX3_isAct_186
      · -- answer 0
        have hP9 := hP.sub (ws' := []) [] rfl
        have hD9 := hD.sub (ws' := []) [] (by decide) rfl
        exact W.zret (v := 0) (ty := .boolean) hx hb hr rfl (fun t ht hW => ⟨⟨0, (fun _ => 0), rfl, (Or.inr ⟨rfl, fun h9 => by have h8 := (okP_5 hk3).mp h9; omega⟩), by rw [ht]; exact hP9, va_K.moved hW.alike hK, hD9⟩, hS.F ht⟩) hS.2.2 dX3_isAct_186
    · refine lv_tableIn (tgt := 187) (off := 186) hx hb dX3_isAct_1 (by omega) (by omega) (by rw [hk3]; rfl) (by decide) ?_
      refine lv_iload_n hx hb dX3_isAct_187 rfl (lv_at hl 1 rfl) ?_
      refine vp_callSi (va_runSN (As := [.int aa]) (rest := []) ⟨hx, hb, hml, hown, hts⟩ (c_X4_isReference l aa) (⟨va_cnB 1 hts g_X3_isAct_X4_isReference_30 rfl rfl rfl (hN.2.2.2.2.2.1) (hts (.initialized RX4) (List.mem_of_getElem? (i := 2) rfl)) (by decide +kernel) ⟨Nat.le_of_ble_eq_true rfl, Nat.le_of_ble_eq_true rfl⟩, hts (.static yX4_isReference) (List.mem_of_getElem? (i := 9) rfl), trivial⟩) ⟨fun _ _ _ _ q => q, fun _ _ _ => ⟨rfl, trivial⟩⟩ rfl rfl hl.1 rfl (lv_room (Nat.le_of_ble_eq_true rfl)) dX3_isAct_188 ⟨Nat.le_of_ble_eq_true rfl, Nat.le_of_ble_eq_true rfl⟩).run (fun r_32 hw_32 => ?_)
      refine lv_if_eq (tgt := 205) hx hb dX3_isAct_191 (by decide) (fun c_33 => ?_) (fun c_33 => ?_)
      · -- yes
        have k_33 : ¬ (V6 aa) := two_z hw_32 c_33
        refine lv_iconst (v := 0) hx hb dX3_isAct_205 (by decide) ?_
        have hP9 := hP.sub (ws' := []) [] rfl
        have hD9 := hD.sub (ws' := []) [] (by decide) rfl
        exact W.zret (v := 0) (ty := .boolean) hx hb hr rfl (fun t ht hW => ⟨⟨0, (fun _ => 0), rfl, (Or.inr ⟨rfl, fun h9 => by have h8 := (okP_6 hk3).mp h9; omega⟩), by rw [ht]; exact hP9, va_K.moved hW.alike hK, hD9⟩, hS.F ht⟩) hS.2.2 dX3_isAct_206
      · -- no
        have k_33 : V6 aa := two_nz hw_32 c_33
        refine lv_iload_n hx hb dX3_isAct_194 rfl (lv_at hl 2 rfl) ?_
        refine vp_callSi (va_runSN (As := [.int ba]) (rest := []) ⟨hx, hb, hml, hown, hts⟩ (c_X4_isReference l ba) (⟨va_cnB 1 hts g_X3_isAct_X4_isReference_30 rfl rfl rfl (hN.2.2.2.2.2.1) (hts (.initialized RX4) (List.mem_of_getElem? (i := 2) rfl)) (by decide +kernel) ⟨Nat.le_of_ble_eq_true rfl, Nat.le_of_ble_eq_true rfl⟩, hts (.static yX4_isReference) (List.mem_of_getElem? (i := 9) rfl), trivial⟩) ⟨fun _ _ _ _ q => q, fun _ _ _ => ⟨rfl, trivial⟩⟩ rfl rfl hl.1 rfl (lv_room (Nat.le_of_ble_eq_true rfl)) dX3_isAct_195 ⟨Nat.le_of_ble_eq_true rfl, Nat.le_of_ble_eq_true rfl⟩).run (fun r_34 hw_34 => ?_)
        refine lv_if_eq (tgt := 205) hx hb dX3_isAct_198 (by decide) (fun c_35 => ?_) (fun c_35 => ?_)
        · -- yes
          have k_35 : ¬ (V6 ba) := two_z hw_34 c_35
          refine lv_iconst (v := 0) hx hb dX3_isAct_205 (by decide) ?_
          have hP9 := hP.sub (ws' := []) [] rfl
          have hD9 := hD.sub (ws' := []) [] (by decide) rfl
          exact W.zret (v := 0) (ty := .boolean) hx hb hr rfl (fun t ht hW => ⟨⟨0, (fun _ => 0), rfl, (Or.inr ⟨rfl, fun h9 => by have h8 := (okP_6 hk3).mp h9; omega⟩), by rw [ht]; exact hP9, va_K.moved hW.alike hK, hD9⟩, hS.F ht⟩) hS.2.2 dX3_isAct_206
        · -- no
          have k_35 : V6 ba := two_nz hw_34 c_35
          refine lv_iconst (v := 1) hx hb dX3_isAct_201 (by decide) ?_
          refine lv_goto (tgt := 206) hx hb dX3_isAct_202 (by decide) ?_
          have hP9 := hP.sub (ws' := []) [] rfl
          have hD9 := hD.sub (ws' := []) [] (by decide) rfl
          exact W.zret (v := 1) (ty := .boolean) hx hb hr rfl (fun t ht hW => ⟨⟨1, (fun _ => 0), rfl, (Or.inl ⟨rfl, (okP_6 hk3).mpr (by omega)⟩), by rw [ht]; exact hP9, va_K.moved hW.alike hK, hD9⟩, hS.F ht⟩) hS.2.2 dX3_isAct_206
    · refine lv_tableIn (tgt := 207) (off := 206) hx hb dX3_isAct_1 (by omega) (by omega) (by rw [hk3]; rfl) (by decide) ?_
      refine lv_iload_n hx hb dX3_isAct_207 rfl (lv_at hl 1 rfl) ?_
      refine vp_callSi (va_runSN (As := [.int aa]) (rest := []) ⟨hx, hb, hml, hown, hts⟩ (c_X4_isReference l aa) (⟨va_cnB 1 hts g_X3_isAct_X4_isReference_30 rfl rfl rfl (hN.2.2.2.2.2.1) (hts (.initialized RX4) (List.mem_of_getElem? (i := 2) rfl)) (by decide +kernel) ⟨Nat.le_of_ble_eq_true rfl, Nat.le_of_ble_eq_true rfl⟩, hts (.static yX4_isReference) (List.mem_of_getElem? (i := 9) rfl), trivial⟩) ⟨fun _ _ _ _ q => q, fun _ _ _ => ⟨rfl, trivial⟩⟩ rfl rfl hl.1 rfl (lv_room (Nat.le_of_ble_eq_true rfl)) dX3_isAct_208 ⟨Nat.le_of_ble_eq_true rfl, Nat.le_of_ble_eq_true rfl⟩).run (fun r_36 hw_36 => ?_)
      refine lv_if_eq (tgt := 232) hx hb dX3_isAct_211 (by decide) (fun c_37 => ?_) (fun c_37 => ?_)
      · -- yes
        have k_37 : ¬ (V6 aa) := two_z hw_36 c_37
        refine lv_iconst (v := 0) hx hb dX3_isAct_232 (by decide) ?_
        have hP9 := hP.sub (ws' := []) [] rfl
        have hD9 := hD.sub (ws' := []) [] (by decide) rfl
        exact W.zret (v := 0) (ty := .boolean) hx hb hr rfl (fun t ht hW => ⟨⟨0, (fun _ => 0), rfl, (Or.inr ⟨rfl, fun h9 => by have h8 := (okP_7 hk3).mp h9; omega⟩), by rw [ht]; exact hP9, va_K.moved hW.alike hK, hD9⟩, hS.F ht⟩) hS.2.2 dX3_isAct_233
      · -- no
        have k_37 : V6 aa := two_nz hw_36 c_37
        refine lv_iload_n hx hb dX3_isAct_214 rfl (lv_at hl 2 rfl) ?_
        refine vp_callSi (va_runSN (As := [.int ba]) (rest := []) ⟨hx, hb, hml, hown, hts⟩ (c_X4_isReference l ba) (⟨va_cnB 1 hts g_X3_isAct_X4_isReference_30 rfl rfl rfl (hN.2.2.2.2.2.1) (hts (.initialized RX4) (List.mem_of_getElem? (i := 2) rfl)) (by decide +kernel) ⟨Nat.le_of_ble_eq_true rfl, Nat.le_of_ble_eq_true rfl⟩, hts (.static yX4_isReference) (List.mem_of_getElem? (i := 9) rfl), trivial⟩) ⟨fun _ _ _ _ q => q, fun _ _ _ => ⟨rfl, trivial⟩⟩ rfl rfl hl.1 rfl (lv_room (Nat.le_of_ble_eq_true rfl)) dX3_isAct_215 ⟨Nat.le_of_ble_eq_true rfl, Nat.le_of_ble_eq_true rfl⟩).run (fun r_38 hw_38 => ?_)
        refine lv_if_eq (tgt := 232) hx hb dX3_isAct_218 (by decide) (fun c_39 => ?_) (fun c_39 => ?_)
        · -- yes
          have k_39 : ¬ (V6 ba) := two_z hw_38 c_39
          refine lv_iconst (v := 0) hx hb dX3_isAct_232 (by decide) ?_
          have hP9 := hP.sub (ws' := []) [] rfl
          have hD9 := hD.sub (ws' := []) [] (by decide) rfl
          exact W.zret (v := 0) (ty := .boolean) hx hb hr rfl (fun t ht hW => ⟨⟨0, (fun _ => 0), rfl, (Or.inr ⟨rfl, fun h9 => by have h8 := (okP_7 hk3).mp h9; omega⟩), by rw [ht]; exact hP9, va_K.moved hW.alike hK, hD9⟩, hS.F ht⟩) hS.2.2 dX3_isAct_233
        · -- no
          have k_39 : V6 ba := two_nz hw_38 c_39
          refine lv_iload_n hx hb dX3_isAct_221 rfl (lv_at hl 3 rfl) ?_
          refine vp_callSi (va_runSN (As := [.int ca]) (rest := []) ⟨hx, hb, hml, hown, hts⟩ (c_X4_isReference l ca) (⟨va_cnB 1 hts g_X3_isAct_X4_isReference_30 rfl rfl rfl (hN.2.2.2.2.2.1) (hts (.initialized RX4) (List.mem_of_getElem? (i := 2) rfl)) (by decide +kernel) ⟨Nat.le_of_ble_eq_true rfl, Nat.le_of_ble_eq_true rfl⟩, hts (.static yX4_isReference) (List.mem_of_getElem? (i := 9) rfl), trivial⟩) ⟨fun _ _ _ _ q => q, fun _ _ _ => ⟨rfl, trivial⟩⟩ rfl rfl hl.1 rfl (lv_room (Nat.le_of_ble_eq_true rfl)) dX3_isAct_222 ⟨Nat.le_of_ble_eq_true rfl, Nat.le_of_ble_eq_true rfl⟩).run (fun r_40 hw_40 => ?_)
          refine lv_if_eq (tgt := 232) hx hb dX3_isAct_225 (by decide) (fun c_41 => ?_) (fun c_41 => ?_)
          · -- yes
            have k_41 : ¬ (V6 ca) := two_z hw_40 c_41
            refine lv_iconst (v := 0) hx hb dX3_isAct_232 (by decide) ?_
            have hP9 := hP.sub (ws' := []) [] rfl
            have hD9 := hD.sub (ws' := []) [] (by decide) rfl
            exact W.zret (v := 0) (ty := .boolean) hx hb hr rfl (fun t ht hW => ⟨⟨0, (fun _ => 0), rfl, (Or.inr ⟨rfl, fun h9 => by have h8 := (okP_7 hk3).mp h9; omega⟩), by rw [ht]; exact hP9, va_K.moved hW.alike hK, hD9⟩, hS.F ht⟩) hS.2.2 dX3_isAct_233
          · -- no
            have k_41 : V6 ca := two_nz hw_40 c_41
            refine lv_iconst (v := 1) hx hb dX3_isAct_228 (by decide) ?_
            refine lv_goto (tgt := 233) hx hb dX3_isAct_229 (by decide) ?_
            have hP9 := hP.sub (ws' := []) [] rfl
            have hD9 := hD.sub (ws' := []) [] (by decide) rfl
            exact W.zret (v := 1) (ty := .boolean) hx hb hr rfl (fun t ht hW => ⟨⟨1, (fun _ => 0), rfl, (Or.inl ⟨rfl, (okP_7 hk3).mpr (by omega)⟩), by rw [ht]; exact hP9, va_K.moved hW.alike hK, hD9⟩, hS.F ht⟩) hS.2.2 dX3_isAct_233
    · refine lv_tableIn (tgt := 187) (off := 186) hx hb dX3_isAct_1 (by omega) (by omega) (by rw [hk3]; rfl) (by decide) ?_
      refine lv_iload_n hx hb dX3_isAct_187 rfl (lv_at hl 1 rfl) ?_
      refine vp_callSi (va_runSN (As := [.int aa]) (rest := []) ⟨hx, hb, hml, hown, hts⟩ (c_X4_isReference l aa) (⟨va_cnB 1 hts g_X3_isAct_X4_isReference_30 rfl rfl rfl (hN.2.2.2.2.2.1) (hts (.initialized RX4) (List.mem_of_getElem? (i := 2) rfl)) (by decide +kernel) ⟨Nat.le_of_ble_eq_true rfl, Nat.le_of_ble_eq_true rfl⟩, hts (.static yX4_isReference) (List.mem_of_getElem? (i := 9) rfl), trivial⟩) ⟨fun _ _ _ _ q => q, fun _ _ _ => ⟨rfl, trivial⟩⟩ rfl rfl hl.1 rfl (lv_room (Nat.le_of_ble_eq_true rfl)) dX3_isAct_188 ⟨Nat.le_of_ble_eq_true rfl, Nat.le_of_ble_eq_true rfl⟩).run (fun r_42 hw_42 => ?_)
      refine lv_if_eq (tgt := 205) hx hb dX3_isAct_191 (by decide) (fun c_43 => ?_) (fun c_43 => ?_)
      · -- yes
        have k_43 : ¬ (V6 aa) := two_z hw_42 c_43
        refine lv_iconst (v := 0) hx hb dX3_isAct_205 (by decide) ?_
        have hP9 := hP.sub (ws' := []) [] rfl
        have hD9 := hD.sub (ws' := []) [] (by decide) rfl
        exact W.zret (v := 0) (ty := .boolean) hx hb hr rfl (fun t ht hW => ⟨⟨0, (fun _ => 0), rfl, (Or.inr ⟨rfl, fun h9 => by have h8 := (okP_8 hk3).mp h9; omega⟩), by rw [ht]; exact hP9, va_K.moved hW.alike hK, hD9⟩, hS.F ht⟩) hS.2.2 dX3_isAct_206
      · -- no
        have k_43 : V6 aa := two_nz hw_42 c_43
        refine lv_iload_n hx hb dX3_isAct_194 rfl (lv_at hl 2 rfl) ?_
        refine vp_callSi (va_runSN (As := [.int ba]) (rest := []) ⟨hx, hb, hml, hown, hts⟩ (c_X4_isReference l ba) (⟨va_cnB 1 hts g_X3_isAct_X4_isReference_30 rfl rfl rfl (hN.2.2.2.2.2.1) (hts (.initialized RX4) (List.mem_of_getElem? (i := 2) rfl)) (by decide +kernel) ⟨Nat.le_of_ble_eq_true rfl, Nat.le_of_ble_eq_true rfl⟩, hts (.static yX4_isReference) (List.mem_of_getElem? (i := 9) rfl), trivial⟩) ⟨fun _ _ _ _ q => q, fun _ _ _ => ⟨rfl, trivial⟩⟩ rfl rfl hl.1 rfl (lv_room (Nat.le_of_ble_eq_true rfl)) dX3_isAct_195 ⟨Nat.le_of_ble_eq_true rfl, Nat.le_of_ble_eq_true rfl⟩).run (fun r_44 hw_44 => ?_)
        refine lv_if_eq (tgt := 205) hx hb dX3_isAct_198 (by decide) (fun c_45 => ?_) (fun c_45 => ?_)
        · -- yes
          have k_45 : ¬ (V6 ba) := two_z hw_44 c_45
          refine lv_iconst (v := 0) hx hb dX3_isAct_205 (by decide) ?_
          have hP9 := hP.sub (ws' := []) [] rfl
          have hD9 := hD.sub (ws' := []) [] (by decide) rfl
          exact W.zret (v := 0) (ty := .boolean) hx hb hr rfl (fun t ht hW => ⟨⟨0, (fun _ => 0), rfl, (Or.inr ⟨rfl, fun h9 => by have h8 := (okP_8 hk3).mp h9; omega⟩), by rw [ht]; exact hP9, va_K.moved hW.alike hK, hD9⟩, hS.F ht⟩) hS.2.2 dX3_isAct_206
        · -- no
          have k_45 : V6 ba := two_nz hw_44 c_45
          refine lv_iconst (v := 1) hx hb dX3_isAct_201 (by decide) ?_
          refine lv_goto (tgt := 206) hx hb dX3_isAct_202 (by decide) ?_
          have hP9 := hP.sub (ws' := []) [] rfl
          have hD9 := hD.sub (ws' := []) [] (by decide) rfl
          exact W.zret (v := 1) (ty := .boolean) hx hb hr rfl (fun t ht hW => ⟨⟨1, (fun _ => 0), rfl, (Or.inl ⟨rfl, (okP_8 hk3).mpr (by omega)⟩), by rw [ht]; exact hP9, va_K.moved hW.alike hK, hD9⟩, hS.F ht⟩) hS.2.2 dX3_isAct_206
    · refine lv_tableIn (tgt := 234) (off := 233) hx hb dX3_isAct_1 (by omega) (by omega) (by rw [hk3]; rfl) (by decide) ?_
      refine lv_iload_n hx hb dX3_isAct_234 rfl (lv_at hl 1 rfl) ?_
      refine vp_callSi (va_runSN (As := [.int aa]) (rest := []) ⟨hx, hb, hml, hown, hts⟩ (c_X4_isReference l aa) (⟨va_cnB 1 hts g_X3_isAct_X4_isReference_30 rfl rfl rfl (hN.2.2.2.2.2.1) (hts (.initialized RX4) (List.mem_of_getElem? (i := 2) rfl)) (by decide +kernel) ⟨Nat.le_of_ble_eq_true rfl, Nat.le_of_ble_eq_true rfl⟩, hts (.static yX4_isReference) (List.mem_of_getElem? (i := 9) rfl), trivial⟩) ⟨fun _ _ _ _ q => q, fun _ _ _ => ⟨rfl, trivial⟩⟩ rfl rfl hl.1 rfl (lv_room (Nat.le_of_ble_eq_true rfl)) dX3_isAct_235 ⟨Nat.le_of_ble_eq_true rfl, Nat.le_of_ble_eq_true rfl⟩).run (fun r_46 hw_46 => ?_)
      refine lv_if_eq (tgt := 267) hx hb dX3_isAct_238 (by decide) (fun c_47 => ?_) (fun c_47 => ?_)
      · -- yes
        have k_47 : ¬ (V6 aa) := two_z hw_46 c_47
        refine lv_iconst (v := 0) hx hb dX3_isAct_267 (by decide) ?_
        have hP9 := hP.sub (ws' := []) [] rfl
        have hD9 := hD.sub (ws' := []) [] (by decide) rfl
        exact W.zret (v := 0) (ty := .boolean) hx hb hr rfl (fun t ht hW => ⟨⟨0, (fun _ => 0), rfl, (Or.inr ⟨rfl, fun h9 => by have h8 := (okP_9 hk3).mp h9; omega⟩), by rw [ht]; exact hP9, va_K.moved hW.alike hK, hD9⟩, hS.F ht⟩) hS.2.2 dX3_isAct_268
      · -- no
        have k_47 : V6 aa := two_nz hw_46 c_47
        refine lv_iload_n hx hb dX3_isAct_241 rfl (lv_at hl 2 rfl) ?_
        refine vp_callSi (va_runSN (As := [.int ba]) (rest := []) ⟨hx, hb, hml, hown, hts⟩ (c_X4_isLane l ba) (⟨va_cnB 1 hts g_X3_isAct_X4_isLane_33 rfl rfl rfl (hN.2.2.2.2.2.2) (hts (.initialized RX4) (List.mem_of_getElem? (i := 2) rfl)) (by decide +kernel) ⟨Nat.le_of_ble_eq_true rfl, Nat.le_of_ble_eq_true rfl⟩, hts (.static yX4_isLane) (List.mem_of_getElem? (i := 11) rfl), trivial⟩) ⟨fun _ _ _ _ q => q, fun _ _ _ => ⟨rfl, trivial⟩⟩ rfl rfl hl.1 rfl (lv_room (Nat.le_of_ble_eq_true rfl)) dX3_isAct_242 ⟨Nat.le_of_ble_eq_true rfl, Nat.le_of_ble_eq_true rfl⟩).run (fun r_48 hw_48 => ?_)
        refine lv_if_eq (tgt := 267) hx hb dX3_isAct_245 (by decide) (fun c_49 => ?_) (fun c_49 => ?_)
        · -- yes
          have k_49 : ¬ (V3 ba) := two_z hw_48 c_49
          refine lv_iconst (v := 0) hx hb dX3_isAct_267 (by decide) ?_
          have hP9 := hP.sub (ws' := []) [] rfl
          have hD9 := hD.sub (ws' := []) [] (by decide) rfl
          exact W.zret (v := 0) (ty := .boolean) hx hb hr rfl (fun t ht hW => ⟨⟨0, (fun _ => 0), rfl, (Or.inr ⟨rfl, fun h9 => by have h8 := (okP_9 hk3).mp h9; omega⟩), by rw [ht]; exact hP9, va_K.moved hW.alike hK, hD9⟩, hS.F ht⟩) hS.2.2 dX3_isAct_268
        · -- no
          have k_49 : V3 ba := two_nz hw_48 c_49
          refine lv_iload_n hx hb dX3_isAct_248 rfl (lv_at hl 3 rfl) ?_
          refine vp_callSi (va_runSN (As := [.int ca]) (rest := []) ⟨hx, hb, hml, hown, hts⟩ (c_X4_isVariable l ca) (⟨va_cnB 1 hts g_X3_isAct_X4_isVariable_23 rfl rfl rfl (hN.2.2.2.1) (hts (.initialized RX4) (List.mem_of_getElem? (i := 2) rfl)) (by decide +kernel) ⟨Nat.le_of_ble_eq_true rfl, Nat.le_of_ble_eq_true rfl⟩, hts (.static yX4_isVariable) (List.mem_of_getElem? (i := 3) rfl), trivial⟩) ⟨fun _ _ _ _ q => q, fun _ _ _ => ⟨rfl, trivial⟩⟩ rfl rfl hl.1 rfl (lv_room (Nat.le_of_ble_eq_true rfl)) dX3_isAct_249 ⟨Nat.le_of_ble_eq_true rfl, Nat.le_of_ble_eq_true rfl⟩).run (fun r_50 hw_50 => ?_)
          refine lv_if_eq (tgt := 267) hx hb dX3_isAct_252 (by decide) (fun c_51 => ?_) (fun c_51 => ?_)
          · -- yes
            have k_51 : ¬ (V6 ca) := two_z hw_50 c_51
            refine lv_iconst (v := 0) hx hb dX3_isAct_267 (by decide) ?_
            have hP9 := hP.sub (ws' := []) [] rfl
            have hD9 := hD.sub (ws' := []) [] (by decide) rfl
            exact W.zret (v := 0) (ty := .boolean) hx hb hr rfl (fun t ht hW => ⟨⟨0, (fun _ => 0), rfl, (Or.inr ⟨rfl, fun h9 => by have h8 := (okP_9 hk3).mp h9; omega⟩), by rw [ht]; exact hP9, va_K.moved hW.alike hK, hD9⟩, hS.F ht⟩) hS.2.2 dX3_isAct_268
          · -- no
            have k_51 : V6 ca := two_nz hw_50 c_51
            refine lv_iload hx hb dX3_isAct_255 (lv_at hl 4 rfl) ?_
            refine vp_callSi (va_runSN (As := [.int da]) (rest := []) ⟨hx, hb, hml, hown, hts⟩ (c_X4_isVariable l da) (⟨va_cnB 1 hts g_X3_isAct_X4_isVariable_23 rfl rfl rfl (hN.2.2.2.1) (hts (.initialized RX4) (List.mem_of_getElem? (i := 2) rfl)) (by decide +kernel) ⟨Nat.le_of_ble_eq_true rfl, Nat.le_of_ble_eq_true rfl⟩, hts (.static yX4_isVariable) (List.mem_of_getElem? (i := 3) rfl), trivial⟩) ⟨fun _ _ _ _ q => q, fun _ _ _ => ⟨rfl, trivial⟩⟩ rfl rfl hl.1 rfl (lv_room (Nat.le_of_ble_eq_true rfl)) dX3_isAct_257 ⟨Nat.le_of_ble_eq_true rfl, Nat.le_of_ble_eq_true rfl⟩).run (fun r_52 hw_52 => ?_)
            refine lv_if_eq (tgt := 267) hx hb dX3_isAct_260 (by decide) (fun c_53 => ?_) (fun c_53 => ?_)
            · -- yes
              have k_53 : ¬ (V6 da) := two_z hw_52 c_53
              refine lv_iconst (v := 0) hx hb dX3_isAct_267 (by decide) ?_
              have hP9 := hP.sub (ws' := []) [] rfl
              have hD9 := hD.sub (ws' := []) [] (by decide) rfl
              exact W.zret (v := 0) (ty := .boolean) hx hb hr rfl (fun t ht hW => ⟨⟨0, (fun _ => 0), rfl, (Or.inr ⟨rfl, fun h9 => by have h8 := (okP_9 hk3).mp h9; omega⟩), by rw [ht]; exact hP9, va_K.moved hW.alike hK, hD9⟩, hS.F ht⟩) hS.2.2 dX3_isAct_268
            · -- no
              have k_53 : V6 da := two_nz hw_52 c_53
              refine lv_iconst (v := 1) hx hb dX3_isAct_263 (by decide) ?_
              refine lv_goto (tgt := 268) hx hb dX3_isAct_264 (by decide) ?_
              have hP9 := hP.sub (ws' := []) [] rfl
              have hD9 := hD.sub (ws' := []) [] (by decide) rfl
              exact W.zret (v := 1) (ty := .boolean) hx hb hr rfl (fun t ht hW => ⟨⟨1, (fun _ => 0), rfl, (Or.inl ⟨rfl, (okP_9 hk3).mpr (by omega)⟩), by rw [ht]; exact hP9, va_K.moved hW.alike hK, hD9⟩, hS.F ht⟩) hS.2.2 dX3_isAct_268
    · refine lv_tableIn (tgt := 269) (off := 268) hx hb dX3_isAct_1 (by omega) (by omega) (by rw [hk3]; rfl) (by decide) ?_
      refine lv_iload_n hx hb dX3_isAct_269 rfl (lv_at hl 1 rfl) ?_
      refine vp_callSi (va_runSN (As := [.int aa]) (rest := []) ⟨hx, hb, hml, hown, hts⟩ (c_X4_isVariable l aa) (⟨va_cnB 1 hts g_X3_isAct_X4_isVariable_23 rfl rfl rfl (hN.2.2.2.1) (hts (.initialized RX4) (List.mem_of_getElem? (i := 2) rfl)) (by decide +kernel) ⟨Nat.le_of_ble_eq_true rfl, Nat.le_of_ble_eq_true rfl⟩, hts (.static yX4_isVariable) (List.mem_of_getElem? (i := 3) rfl), trivial⟩) ⟨fun _ _ _ _ q => q, fun _ _ _ => ⟨rfl, trivial⟩⟩ rfl rfl hl.1 rfl (lv_room (Nat.le_of_ble_eq_true rfl)) dX3_isAct_270 ⟨Nat.le_of_ble_eq_true rfl, Nat.le_of_ble_eq_true rfl⟩).run (fun r_54 hw_54 => ?_)
      refine lv_if_eq (tgt := 302) hx hb dX3_isAct_273 (by decide) (fun c_55 => ?_) (fun c_55 => ?_)
      · -- yes
        have k_55 : ¬ (V6 aa) := two_z hw_54 c_55
        refine lv_iconst (v := 0) hx hb dX3_isAct_302 (by decide) ?_
        have hP9 := hP.sub (ws' := []) [] rfl
        have hD9 := hD.sub (ws' := []) [] (by decide) rfl
        exact W.zret (v := 0) (ty := .boolean) hx hb hr rfl (fun t ht hW => ⟨⟨0, (fun _ => 0), rfl, (Or.inr ⟨rfl, fun h9 => by have h8 := (okP_10 hk3).mp h9; omega⟩), by rw [ht]; exact hP9, va_K.moved hW.alike hK, hD9⟩, hS.F ht⟩) hS.2.2 dX3_isAct_303
      · -- no
        have k_55 : V6 aa := two_nz hw_54 c_55
        refine lv_iload_n hx hb dX3_isAct_276 rfl (lv_at hl 2 rfl) ?_
        refine vp_callSi (va_runSN (As := [.int ba]) (rest := []) ⟨hx, hb, hml, hown, hts⟩ (c_X4_isReference l ba) (⟨va_cnB 1 hts g_X3_isAct_X4_isReference_30 rfl rfl rfl (hN.2.2.2.2.2.1) (hts (.initialized RX4) (List.mem_of_getElem? (i := 2) rfl)) (by decide +kernel) ⟨Nat.le_of_ble_eq_true rfl, Nat.le_of_ble_eq_true rfl⟩, hts (.static yX4_isReference) (List.mem_of_getElem? (i := 9) rfl), trivial⟩) ⟨fun _ _ _ _ q => q, fun _ _ _ => ⟨rfl, trivial⟩⟩ rfl rfl hl.1 rfl (lv_room (Nat.le_of_ble_eq_true rfl)) dX3_isAct_277 ⟨Nat.le_of_ble_eq_true rfl, Nat.le_of_ble_eq_true rfl⟩).run (fun r_56 hw_56 => ?_)
        refine lv_if_eq (tgt := 302) hx hb dX3_isAct_280 (by decide) (fun c_57 => ?_) (fun c_57 => ?_)
        · -- yes
          have k_57 : ¬ (V6 ba) := two_z hw_56 c_57
          refine lv_iconst (v := 0) hx hb dX3_isAct_302 (by decide) ?_
          have hP9 := hP.sub (ws' := []) [] rfl
          have hD9 := hD.sub (ws' := []) [] (by decide) rfl
          exact W.zret (v := 0) (ty := .boolean) hx hb hr rfl (fun t ht hW => ⟨⟨0, (fun _ => 0), rfl, (Or.inr ⟨rfl, fun h9 => by have h8 := (okP_10 hk3).mp h9; omega⟩), by rw [ht]; exact hP9, va_K.moved hW.alike hK, hD9⟩, hS.F ht⟩) hS.2.2 dX3_isAct_303
        · -- no
          have k_57 : V6 ba := two_nz hw_56 c_57
          refine lv_iload_n hx hb dX3_isAct_283 rfl (lv_at hl 3 rfl) ?_
          refine vp_callSi (va_runSN (As := [.int ca]) (rest := []) ⟨hx, hb, hml, hown, hts⟩ (c_X4_isLane l ca) (⟨va_cnB 1 hts g_X3_isAct_X4_isLane_33 rfl rfl rfl (hN.2.2.2.2.2.2) (hts (.initialized RX4) (List.mem_of_getElem? (i := 2) rfl)) (by decide +kernel) ⟨Nat.le_of_ble_eq_true rfl, Nat.le_of_ble_eq_true rfl⟩, hts (.static yX4_isLane) (List.mem_of_getElem? (i := 11) rfl), trivial⟩) ⟨fun _ _ _ _ q => q, fun _ _ _ => ⟨rfl, trivial⟩⟩ rfl rfl hl.1 rfl (lv_room (Nat.le_of_ble_eq_true rfl)) dX3_isAct_284 ⟨Nat.le_of_ble_eq_true rfl, Nat.le_of_ble_eq_true rfl⟩).run (fun r_58 hw_58 => ?_)
          refine lv_if_eq (tgt := 302) hx hb dX3_isAct_287 (by decide) (fun c_59 => ?_) (fun c_59 => ?_)
          · -- yes
            have k_59 : ¬ (V3 ca) := two_z hw_58 c_59
            refine lv_iconst (v := 0) hx hb dX3_isAct_302 (by decide) ?_
            have hP9 := hP.sub (ws' := []) [] rfl
            have hD9 := hD.sub (ws' := []) [] (by decide) rfl
            exact W.zret (v := 0) (ty := .boolean) hx hb hr rfl (fun t ht hW => ⟨⟨0, (fun _ => 0), rfl, (Or.inr ⟨rfl, fun h9 => by have h8 := (okP_10 hk3).mp h9; omega⟩), by rw [ht]; exact hP9, va_K.moved hW.alike hK, hD9⟩, hS.F ht⟩) hS.2.2 dX3_isAct_303
          · -- no
            have k_59 : V3 ca := two_nz hw_58 c_59
            refine lv_iload hx hb dX3_isAct_290 (lv_at hl 4 rfl) ?_
            refine vp_callSi (va_runSN (As := [.int da]) (rest := []) ⟨hx, hb, hml, hown, hts⟩ (c_X4_isVariable l da) (⟨va_cnB 1 hts g_X3_isAct_X4_isVariable_23 rfl rfl rfl (hN.2.2.2.1) (hts (.initialized RX4) (List.mem_of_getElem? (i := 2) rfl)) (by decide +kernel) ⟨Nat.le_of_ble_eq_true rfl, Nat.le_of_ble_eq_true rfl⟩, hts (.static yX4_isVariable) (List.mem_of_getElem? (i := 3) rfl), trivial⟩) ⟨fun _ _ _ _ q => q, fun _ _ _ => ⟨rfl, trivial⟩⟩ rfl rfl hl.1 rfl (lv_room (Nat.le_of_ble_eq_true rfl)) dX3_isAct_292 ⟨Nat.le_of_ble_eq_true rfl, Nat.le_of_ble_eq_true rfl⟩).run (fun r_60 hw_60 => ?_)
            refine lv_if_eq (tgt := 302) hx hb dX3_isAct_295 (by decide) (fun c_61 => ?_) (fun c_61 => ?_)
            · -- yes
              have k_61 : ¬ (V6 da) := two_z hw_60 c_61
              refine lv_iconst (v := 0) hx hb dX3_isAct_302 (by decide) ?_
              have hP9 := hP.sub (ws' := []) [] rfl
              have hD9 := hD.sub (ws' := []) [] (by decide) rfl
              exact W.zret (v := 0) (ty := .boolean) hx hb hr rfl (fun t ht hW => ⟨⟨0, (fun _ => 0), rfl, (Or.inr ⟨rfl, fun h9 => by have h8 := (okP_10 hk3).mp h9; omega⟩), by rw [ht]; exact hP9, va_K.moved hW.alike hK, hD9⟩, hS.F ht⟩) hS.2.2 dX3_isAct_303
            · -- no
              have k_61 : V6 da := two_nz hw_60 c_61
              refine lv_iconst (v := 1) hx hb dX3_isAct_298 (by decide) ?_
              refine lv_goto (tgt := 303) hx hb dX3_isAct_299 (by decide) ?_
              have hP9 := hP.sub (ws' := []) [] rfl
              have hD9 := hD.sub (ws' := []) [] (by decide) rfl
              exact W.zret (v := 1) (ty := .boolean) hx hb hr rfl (fun t ht hW => ⟨⟨1, (fun _ => 0), rfl, (Or.inl ⟨rfl, (okP_10 hk3).mpr (by omega)⟩), by rw [ht]; exact hP9, va_K.moved hW.alike hK, hD9⟩, hS.F ht⟩) hS.2.2 dX3_isAct_303
    · refine lv_tableIn (tgt := 304) (off := 303) hx hb dX3_isAct_1 (by omega) (by omega) (by rw [hk3]; rfl) (by decide) ?_
      refine lv_iload_n hx hb dX3_isAct_304 rfl (lv_at hl 1 rfl) ?_
      refine vp_callSi (va_runSN (As := [.int aa]) (rest := []) ⟨hx, hb, hml, hown, hts⟩ (c_X4_isReference l aa) (⟨va_cnB 1 hts g_X3_isAct_X4_isReference_30 rfl rfl rfl (hN.2.2.2.2.2.1) (hts (.initialized RX4) (List.mem_of_getElem? (i := 2) rfl)) (by decide +kernel) ⟨Nat.le_of_ble_eq_true rfl, Nat.le_of_ble_eq_true rfl⟩, hts (.static yX4_isReference) (List.mem_of_getElem? (i := 9) rfl), trivial⟩) ⟨fun _ _ _ _ q => q, fun _ _ _ => ⟨rfl, trivial⟩⟩ rfl rfl hl.1 rfl (lv_room (Nat.le_of_ble_eq_true rfl)) dX3_isAct_305 ⟨Nat.le_of_ble_eq_true rfl, Nat.le_of_ble_eq_true rfl⟩).run (fun r_62 hw_62 => ?_)
      refine lv_if_eq (tgt := 345) hx hb dX3_isAct_308 (by decide) (fun c_63 => ?_) (fun c_63 => ?_)
      · -- yes
        have k_63 : ¬ (V6 aa) := two_z hw_62 c_63
        refine lv_iconst (v := 0) hx hb dX3_isAct_345 (by decide) ?_
        have hP9 := hP.sub (ws' := []) [] rfl
        have hD9 := hD.sub (ws' := []) [] (by decide) rfl
        exact W.zret (v := 0) (ty := .boolean) hx hb hr rfl (fun t ht hW => ⟨⟨0, (fun _ => 0), rfl, (Or.inr ⟨rfl, fun h9 => by have h8 := (okP_11 hk3).mp h9; omega⟩), by rw [ht]; exact hP9, va_K.moved hW.alike hK, hD9⟩, hS.F ht⟩) hS.2.2 dX3_isAct_346
      · -- no
        have k_63 : V6 aa := two_nz hw_62 c_63
        refine lv_iload_n hx hb dX3_isAct_311 rfl (lv_at hl 2 rfl) ?_
        refine vp_callSi (va_runSN (As := [.int ba]) (rest := []) ⟨hx, hb, hml, hown, hts⟩ (c_X4_isVariable l ba) (⟨va_cnB 1 hts g_X3_isAct_X4_isVariable_23 rfl rfl rfl (hN.2.2.2.1) (hts (.initialized RX4) (List.mem_of_getElem? (i := 2) rfl)) (by decide +kernel) ⟨Nat.le_of_ble_eq_true rfl, Nat.le_of_ble_eq_true rfl⟩, hts (.static yX4_isVariable) (List.mem_of_getElem? (i := 3) rfl), trivial⟩) ⟨fun _ _ _ _ q => q, fun _ _ _ => ⟨rfl, trivial⟩⟩ rfl rfl hl.1 rfl (lv_room (Nat.le_of_ble_eq_true rfl)) dX3_isAct_312 ⟨Nat.le_of_ble_eq_true rfl, Nat.le_of_ble_eq_true rfl⟩).run (fun r_64 hw_64 => ?_)
        refine lv_if_eq (tgt := 345) hx hb dX3_isAct_315 (by decide) (fun c_65 => ?_) (fun c_65 => ?_)
        · -- yes
          have k_65 : ¬ (V6 ba) := two_z hw_64 c_65
          refine lv_iconst (v := 0) hx hb dX3_isAct_345 (by decide) ?_
          have hP9 := hP.sub (ws' := []) [] rfl
          have hD9 := hD.sub (ws' := []) [] (by decide) rfl
          exact W.zret (v := 0) (ty := .boolean) hx hb hr rfl (fun t ht hW => ⟨⟨0, (fun _ => 0), rfl, (Or.inr ⟨rfl, fun h9 => by have h8 := (okP_11 hk3).mp h9; omega⟩), by rw [ht]; exact hP9, va_K.moved hW.alike hK, hD9⟩, hS.F ht⟩) hS.2.2 dX3_isAct_346
        · -- no
          have k_65 : V6 ba := two_nz hw_64 c_65
          refine lv_iload_n hx hb dX3_isAct_318 rfl (lv_at hl 3 rfl) ?_
          refine vp_callSi (va_runSN (As := [.int ca]) (rest := []) ⟨hx, hb, hml, hown, hts⟩ (c_X4_isReference l ca) (⟨va_cnB 1 hts g_X3_isAct_X4_isReference_30 rfl rfl rfl (hN.2.2.2.2.2.1) (hts (.initialized RX4) (List.mem_of_getElem? (i := 2) rfl)) (by decide +kernel) ⟨Nat.le_of_ble_eq_true rfl, Nat.le_of_ble_eq_true rfl⟩, hts (.static yX4_isReference) (List.mem_of_getElem? (i := 9) rfl), trivial⟩) ⟨fun _ _ _ _ q => q, fun _ _ _ => ⟨rfl, trivial⟩⟩ rfl rfl hl.1 rfl (lv_room (Nat.le_of_ble_eq_true rfl)) dX3_isAct_319 ⟨Nat.le_of_ble_eq_true rfl, Nat.le_of_ble_eq_true rfl⟩).run (fun r_66 hw_66 => ?_)
          refine lv_if_eq (tgt := 345) hx hb dX3_isAct_322 (by decide) (fun c_67 => ?_) (fun c_67 => ?_)
          · -- yes
            have k_67 : ¬ (V6 ca) := two_z hw_66 c_67
            refine lv_iconst (v := 0) hx hb dX3_isAct_345 (by decide) ?_
            have hP9 := hP.sub (ws' := []) [] rfl
            have hD9 := hD.sub (ws' := []) [] (by decide) rfl
            exact W.zret (v := 0) (ty := .boolean) hx hb hr rfl (fun t ht hW => ⟨⟨0, (fun _ => 0), rfl, (Or.inr ⟨rfl, fun h9 => by have h8 := (okP_11 hk3).mp h9; omega⟩), by rw [ht]; exact hP9, va_K.moved hW.alike hK, hD9⟩, hS.F ht⟩) hS.2.2 dX3_isAct_346
          · -- no
            have k_67 : V6 ca := two_nz hw_66 c_67
            refine lv_iload hx hb dX3_isAct_325 (lv_at hl 4 rfl) ?_
            refine vp_callSi (va_runSN (As := [.int da]) (rest := []) ⟨hx, hb, hml, hown, hts⟩ (c_X4_isVariable l da) (⟨va_cnB 1 hts g_X3_isAct_X4_isVariable_23 rfl rfl rfl (hN.2.2.2.1) (hts (.initialized RX4) (List.mem_of_getElem? (i := 2) rfl)) (by decide +kernel) ⟨Nat.le_of_ble_eq_true rfl, Nat.le_of_ble_eq_true rfl⟩, hts (.static yX4_isVariable) (List.mem_of_getElem? (i := 3) rfl), trivial⟩) ⟨fun _ _ _ _ q => q, fun _ _ _ => ⟨rfl, trivial⟩⟩ rfl rfl hl.1 rfl (lv_room (Nat.le_of_ble_eq_true rfl)) dX3_isAct_327 ⟨Nat.le_of_ble_eq_true rfl, Nat.le_of_ble_eq_true rfl⟩).run (fun r_68 hw_68 => ?_)
            refine lv_if_eq (tgt := 345) hx hb dX3_isAct_330 (by decide) (fun c_69 => ?_) (fun c_69 => ?_)
            · -- yes
              have k_69 : ¬ (V6 da) := two_z hw_68 c_69
              refine lv_iconst (v := 0) hx hb dX3_isAct_345 (by decide) ?_
              have hP9 := hP.sub (ws' := []) [] rfl
              have hD9 := hD.sub (ws' := []) [] (by decide) rfl
              exact W.zret (v := 0) (ty := .boolean) hx hb hr rfl (fun t ht hW => ⟨⟨0, (fun _ => 0), rfl, (Or.inr ⟨rfl, fun h9 => by have h8 := (okP_11 hk3).mp h9; omega⟩), by rw [ht]; exact hP9, va_K.moved hW.alike hK, hD9⟩, hS.F ht⟩) hS.2.2 dX3_isAct_346
            · -- no
              have k_69 : V6 da := two_nz hw_68 c_69
              refine lv_iload hx hb dX3_isAct_333 (lv_at hl 5 rfl) ?_
              refine vp_callSi (va_runSN (As := [.int ea]) (rest := []) ⟨hx, hb, hml, hown, hts⟩ (c_X4_isVariable l ea) (⟨va_cnB 1 hts g_X3_isAct_X4_isVariable_23 rfl rfl rfl (hN.2.2.2.1) (hts (.initialized RX4) (List.mem_of_getElem? (i := 2) rfl)) (by decide +kernel) ⟨Nat.le_of_ble_eq_true rfl, Nat.le_of_ble_eq_true rfl⟩, hts (.static yX4_isVariable) (List.mem_of_getElem? (i := 3) rfl), trivial⟩) ⟨fun _ _ _ _ q => q, fun _ _ _ => ⟨rfl, trivial⟩⟩ rfl rfl hl.1 rfl (lv_room (Nat.le_of_ble_eq_true rfl)) dX3_isAct_335 ⟨Nat.le_of_ble_eq_true rfl, Nat.le_of_ble_eq_true rfl⟩).run (fun r_70 hw_70 => ?_)
              refine lv_if_eq (tgt := 345) hx hb dX3_isAct_338 (by decide) (fun c_71 => ?_) (fun c_71 => ?_)
              · -- yes
                have k_71 : ¬ (V6 ea) := two_z hw_70 c_71
                refine lv_iconst (v := 0) hx hb dX3_isAct_345 (by decide) ?_
                have hP9 := hP.sub (ws' := []) [] rfl
                have hD9 := hD.sub (ws' := []) [] (by decide) rfl
                exact W.zret (v := 0) (ty := .boolean) hx hb hr rfl (fun t ht hW => ⟨⟨0, (fun _ => 0), rfl, (Or.inr ⟨rfl, fun h9 => by have h8 := (okP_11 hk3).mp h9; omega⟩), by rw [ht]; exact hP9, va_K.moved hW.alike hK, hD9⟩, hS.F ht⟩) hS.2.2 dX3_isAct_346
              · -- no
                have k_71 : V6 ea := two_nz hw_70 c_71
                refine lv_iconst (v := 1) hx hb dX3_isAct_341 (by decide) ?_
                refine lv_goto (tgt := 346) hx hb dX3_isAct_342 (by decide) ?_
                have hP9 := hP.sub (ws' := []) [] rfl
                have hD9 := hD.sub (ws' := []) [] (by decide) rfl
                exact W.zret (v := 1) (ty := .boolean) hx hb hr rfl (fun t ht hW => ⟨⟨1, (fun _ => 0), rfl, (Or.inl ⟨rfl, (okP_11 hk3).mpr (by omega)⟩), by rw [ht]; exact hP9, va_K.moved hW.alike hK, hD9⟩, hS.F ht⟩) hS.2.2 dX3_isAct_346
    · refine lv_tableIn (tgt := 347) (off := 346) hx hb dX3_isAct_1 (by omega) (by omega) (by rw [hk3]; rfl) (by decide) ?_
      refine lv_iload_n hx hb dX3_isAct_347 rfl (lv_at hl 1 rfl) ?_
      refine vp_callSi (va_runSN (As := [.int aa]) (rest := []) ⟨hx, hb, hml, hown, hts⟩ (c_X4_isReference l aa) (⟨va_cnB 1 hts g_X3_isAct_X4_isReference_30 rfl rfl rfl (hN.2.2.2.2.2.1) (hts (.initialized RX4) (List.mem_of_getElem? (i := 2) rfl)) (by decide +kernel) ⟨Nat.le_of_ble_eq_true rfl, Nat.le_of_ble_eq_true rfl⟩, hts (.static yX4_isReference) (List.mem_of_getElem? (i := 9) rfl), trivial⟩) ⟨fun _ _ _ _ q => q, fun _ _ _ => ⟨rfl, trivial⟩⟩ rfl rfl hl.1 rfl (lv_room (Nat.le_of_ble_eq_true rfl)) dX3_isAct_348 ⟨Nat.le_of_ble_eq_true rfl, Nat.le_of_ble_eq_true rfl⟩).run (fun r_72 hw_72 => ?_)
      refine lv_if_eq (tgt := 388) hx hb dX3_isAct_351 (by decide) (fun c_73 => ?_) (fun c_73 => ?_)
      · -- yes
        have k_73 : ¬ (V6 aa) := two_z hw_72 c_73
        refine lv_iconst (v := 0) hx hb dX3_isAct_388 (by decide) ?_
        have hP9 := hP.sub (ws' := []) [] rfl
        have hD9 := hD.sub (ws' := []) [] (by decide) rfl
        exact W.zret (v := 0) (ty := .boolean) hx hb hr rfl (fun t ht hW => ⟨⟨0, (fun _ => 0), rfl, (Or.inr ⟨rfl, fun h9 => by have h8 := (okP_12 hk3).mp h9; omega⟩), by rw [ht]; exact hP9, va_K.moved hW.alike hK, hD9⟩, hS.F ht⟩) hS.2.2 dX3_isAct_389
      · -- no
        have k_73 : V6 aa := two_nz hw_72 c_73
        refine lv_iload_n hx hb dX3_isAct_354 rfl (lv_at hl 2 rfl) ?_
        refine vp_callSi (va_runSN (As := [.int ba]) (rest := []) ⟨hx, hb, hml, hown, hts⟩ (c_X4_isLane l ba) (⟨va_cnB 1 hts g_X3_isAct_X4_isLane_33 rfl rfl rfl (hN.2.2.2.2.2.2) (hts (.initialized RX4) (List.mem_of_getElem? (i := 2) rfl)) (by decide +kernel) ⟨Nat.le_of_ble_eq_true rfl, Nat.le_of_ble_eq_true rfl⟩, hts (.static yX4_isLane) (List.mem_of_getElem? (i := 11) rfl), trivial⟩) ⟨fun _ _ _ _ q => q, fun _ _ _ => ⟨rfl, trivial⟩⟩ rfl rfl hl.1 rfl (lv_room (Nat.le_of_ble_eq_true rfl)) dX3_isAct_355 ⟨Nat.le_of_ble_eq_true rfl, Nat.le_of_ble_eq_true rfl⟩).run (fun r_74 hw_74 => ?_)
        refine lv_if_eq (tgt := 388) hx hb dX3_isAct_358 (by decide) (fun c_75 => ?_) (fun c_75 => ?_)
        · -- yes
          have k_75 : ¬ (V3 ba) := two_z hw_74 c_75
          refine lv_iconst (v := 0) hx hb dX3_isAct_388 (by decide) ?_
          have hP9 := hP.sub (ws' := []) [] rfl
          have hD9 := hD.sub (ws' := []) [] (by decide) rfl
          exact W.zret (v := 0) (ty := .boolean) hx hb hr rfl (fun t ht hW => ⟨⟨0, (fun _ => 0), rfl, (Or.inr ⟨rfl, fun h9 => by have h8 := (okP_12 hk3).mp h9; omega⟩), by rw [ht]; exact hP9, va_K.moved hW.alike hK, hD9⟩, hS.F ht⟩) hS.2.2 dX3_isAct_389
        · -- no
          have k_75 : V3 ba := two_nz hw_74 c_75
          refine lv_iload_n hx hb dX3_isAct_361 rfl (lv_at hl 3 rfl) ?_
          refine vp_callSi (va_runSN (As := [.int ca]) (rest := []) ⟨hx, hb, hml, hown, hts⟩ (c_X4_isVariable l ca) (⟨va_cnB 1 hts g_X3_isAct_X4_isVariable_23 rfl rfl rfl (hN.2.2.2.1) (hts (.initialized RX4) (List.mem_of_getElem? (i := 2) rfl)) (by decide +kernel) ⟨Nat.le_of_ble_eq_true rfl, Nat.le_of_ble_eq_true rfl⟩, hts (.static yX4_isVariable) (List.mem_of_getElem? (i := 3) rfl), trivial⟩) ⟨fun _ _ _ _ q => q, fun _ _ _ => ⟨rfl, trivial⟩⟩ rfl rfl hl.1 rfl (lv_room (Nat.le_of_ble_eq_true rfl)) dX3_isAct_362 ⟨Nat.le_of_ble_eq_true rfl, Nat.le_of_ble_eq_true rfl⟩).run (fun r_76 hw_76 => ?_)
          refine lv_if_eq (tgt := 388) hx hb dX3_isAct_365 (by decide) (fun c_77 => ?_) (fun c_77 => ?_)
          · -- yes
            have k_77 : ¬ (V6 ca) := two_z hw_76 c_77
            refine lv_iconst (v := 0) hx hb dX3_isAct_388 (by decide) ?_
            have hP9 := hP.sub (ws' := []) [] rfl
            have hD9 := hD.sub (ws' := []) [] (by decide) rfl
            exact W.zret (v := 0) (ty := .boolean) hx hb hr rfl (fun t ht hW => ⟨⟨0, (fun _ => 0), rfl, (Or.inr ⟨rfl, fun h9 => by have h8 := (okP_12 hk3).mp h9; omega⟩), by rw [ht]; exact hP9, va_K.moved hW.alike hK, hD9⟩, hS.F ht⟩) hS.2.2 dX3_isAct_389
          · -- no
            have k_77 : V6 ca := two_nz hw_76 c_77
            refine lv_iload hx hb dX3_isAct_368 (lv_at hl 4 rfl) ?_
            refine vp_callSi (va_runSN (As := [.int da]) (rest := []) ⟨hx, hb, hml, hown, hts⟩ (c_X4_isVariable l da) (⟨va_cnB 1 hts g_X3_isAct_X4_isVariable_23 rfl rfl rfl (hN.2.2.2.1) (hts (.initialized RX4) (List.mem_of_getElem? (i := 2) rfl)) (by decide +kernel) ⟨Nat.le_of_ble_eq_true rfl, Nat.le_of_ble_eq_true rfl⟩, hts (.static yX4_isVariable) (List.mem_of_getElem? (i := 3) rfl), trivial⟩) ⟨fun _ _ _ _ q => q, fun _ _ _ => ⟨rfl, trivial⟩⟩ rfl rfl hl.1 rfl (lv_room (Nat.le_of_ble_eq_true rfl)) dX3_isAct_370 ⟨Nat.le_of_ble_eq_true rfl, Nat.le_of_ble_eq_true rfl⟩).run (fun r_78 hw_78 => ?_)
            refine lv_if_eq (tgt := 388) hx hb dX3_isAct_373 (by decide) (fun c_79 => ?_) (fun c_79 => ?_)
            · -- yes
              have k_79 : ¬ (V6 da) := two_z hw_78 c_79
              refine lv_iconst (v := 0) hx hb dX3_isAct_388 (by decide) ?_
              have hP9 := hP.sub (ws' := []) [] rfl
              have hD9 := hD.sub (ws' := []) [] (by decide) rfl
              exact W.zret (v := 0) (ty := .boolean) hx hb hr rfl (fun t ht hW => ⟨⟨0, (fun _ => 0), rfl, (Or.inr ⟨rfl, fun h9 => by have h8 := (okP_12 hk3).mp h9; omega⟩), by rw [ht]; exact hP9, va_K.moved hW.alike hK, hD9⟩, hS.F ht⟩) hS.2.2 dX3_isAct_389
            · -- no
              have k_79 : V6 da := two_nz hw_78 c_79
              refine lv_iload hx hb dX3_isAct_376 (lv_at hl 5 rfl) ?_
              refine vp_callSi (va_runSN (As := [.int ea]) (rest := []) ⟨hx, hb, hml, hown, hts⟩ (c_X4_isVariable l ea) (⟨va_cnB 1 hts g_X3_isAct_X4_isVariable_23 rfl rfl rfl (hN.2.2.2.1) (hts (.initialized RX4) (List.mem_of_getElem? (i := 2) rfl)) (by decide +kernel) ⟨Nat.le_of_ble_eq_true rfl, Nat.le_of_ble_eq_true rfl⟩, hts (.static yX4_isVariable) (List.mem_of_getElem? (i := 3) rfl), trivial⟩) ⟨fun _ _ _ _ q => q, fun _ _ _ => ⟨rfl, trivial⟩⟩ rfl rfl hl.1 rfl (lv_room (Nat.le_of_ble_eq_true rfl)) dX3_isAct_378 ⟨Nat.le_of_ble_eq_true rfl, Nat.le_of_ble_eq_true rfl⟩).run (fun r_80 hw_80 => ?_)
              refine lv_if_eq (tgt := 388) hx hb dX3_isAct_381 (by decide) (fun c_81 => ?_) (fun c_81 => ?_)
              · -- yes
                have k_81 : ¬ (V6 ea) := two_z hw_80 c_81
                refine lv_iconst (v := 0) hx hb dX3_isAct_388 (by decide) ?_
                have hP9 := hP.sub (ws' := []) [] rfl
                have hD9 := hD.sub (ws' := []) [] (by decide) rfl
                exact W.zret (v := 0) (ty := .boolean) hx hb hr rfl (fun t ht hW => ⟨⟨0, (fun _ => 0), rfl, (Or.inr ⟨rfl, fun h9 => by have h8 := (okP_12 hk3).mp h9; omega⟩), by rw [ht]; exact hP9, va_K.moved hW.alike hK, hD9⟩, hS.F ht⟩) hS.2.2 dX3_isAct_389
              · -- no
                have k_81 : V6 ea := two_nz hw_80 c_81
                refine lv_iconst (v := 1) hx hb dX3_isAct_384 (by decide) ?_
                refine lv_goto (tgt := 389) hx hb dX3_isAct_385 (by decide) ?_
                have hP9 := hP.sub (ws' := []) [] rfl
                have hD9 := hD.sub (ws' := []) [] (by decide) rfl
                exact W.zret (v := 1) (ty := .boolean) hx hb hr rfl (fun t ht hW => ⟨⟨1, (fun _ => 0), rfl, (Or.inl ⟨rfl, (okP_12 hk3).mpr (by omega)⟩), by rw [ht]; exact hP9, va_K.moved hW.alike hK, hD9⟩, hS.F ht⟩) hS.2.2 dX3_isAct_389
    · refine lv_tableIn (tgt := 390) (off := 389) hx hb dX3_isAct_1 (by omega) (by omega) (by rw [hk3]; rfl) (by decide) ?_
      refine lv_iload_n hx hb dX3_isAct_390 rfl (lv_at hl 1 rfl) ?_
      refine vp_callSi (va_runSN (As := [.int aa]) (rest := []) ⟨hx, hb, hml, hown, hts⟩ (c_X4_isVariable l aa) (⟨va_cnB 1 hts g_X3_isAct_X4_isVariable_23 rfl rfl rfl (hN.2.2.2.1) (hts (.initialized RX4) (List.mem_of_getElem? (i := 2) rfl)) (by decide +kernel) ⟨Nat.le_of_ble_eq_true rfl, Nat.le_of_ble_eq_true rfl⟩, hts (.static yX4_isVariable) (List.mem_of_getElem? (i := 3) rfl), trivial⟩) ⟨fun _ _ _ _ q => q, fun _ _ _ => ⟨rfl, trivial⟩⟩ rfl rfl hl.1 rfl (lv_room (Nat.le_of_ble_eq_true rfl)) dX3_isAct_391 ⟨Nat.le_of_ble_eq_true rfl, Nat.le_of_ble_eq_true rfl⟩).run (fun r_82 hw_82 => ?_)
      refine lv_if_eq (tgt := 408) hx hb dX3_isAct_394 (by decide) (fun c_83 => ?_) (fun c_83 => ?_)
      · -- yes
        have k_83 : ¬ (V6 aa) := two_z hw_82 c_83
        refine lv_iconst (v := 0) hx hb dX3_isAct_408 (by decide) ?_
        have hP9 := hP.sub (ws' := []) [] rfl
        have hD9 := hD.sub (ws' := []) [] (by decide) rfl
        exact W.zret (v := 0) (ty := .boolean) hx hb hr rfl (fun t ht hW => ⟨⟨0, (fun _ => 0), rfl, (Or.inr ⟨rfl, fun h9 => by have h8 := (okP_13 hk3).mp h9; omega⟩), by rw [ht]; exact hP9, va_K.moved hW.alike hK, hD9⟩, hS.F ht⟩) hS.2.2 dX3_isAct_409
      · -- no
        have k_83 : V6 aa := two_nz hw_82 c_83
        refine lv_iload_n hx hb dX3_isAct_397 rfl (lv_at hl 2 rfl) ?_
        refine vp_callSi (va_runSN (As := [.int ba]) (rest := []) ⟨hx, hb, hml, hown, hts⟩ (c_X4_isReference l ba) (⟨va_cnB 1 hts g_X3_isAct_X4_isReference_30 rfl rfl rfl (hN.2.2.2.2.2.1) (hts (.initialized RX4) (List.mem_of_getElem? (i := 2) rfl)) (by decide +kernel) ⟨Nat.le_of_ble_eq_true rfl, Nat.le_of_ble_eq_true rfl⟩, hts (.static yX4_isReference) (List.mem_of_getElem? (i := 9) rfl), trivial⟩) ⟨fun _ _ _ _ q => q, fun _ _ _ => ⟨rfl, trivial⟩⟩ rfl rfl hl.1 rfl (lv_room (Nat.le_of_ble_eq_true rfl)) dX3_isAct_398 ⟨Nat.le_of_ble_eq_true rfl, Nat.le_of_ble_eq_true rfl⟩).run (fun r_84 hw_84 => ?_)
        refine lv_if_eq (tgt := 408) hx hb dX3_isAct_401 (by decide) (fun c_85 => ?_) (fun c_85 => ?_)
        · -- yes
          have k_85 : ¬ (V6 ba) := two_z hw_84 c_85
          refine lv_iconst (v := 0) hx hb dX3_isAct_408 (by decide) ?_
          have hP9 := hP.sub (ws' := []) [] rfl
          have hD9 := hD.sub (ws' := []) [] (by decide) rfl
          exact W.zret (v := 0) (ty := .boolean) hx hb hr rfl (fun t ht hW => ⟨⟨0, (fun _ => 0), rfl, (Or.inr ⟨rfl, fun h9 => by have h8 := (okP_13 hk3).mp h9; omega⟩), by rw [ht]; exact hP9, va_K.moved hW.alike hK, hD9⟩, hS.F ht⟩) hS.2.2 dX3_isAct_409
        · -- no
          have k_85 : V6 ba := two_nz hw_84 c_85
          refine lv_iconst (v := 1) hx hb dX3_isAct_404 (by decide) ?_
          refine lv_goto (tgt := 409) hx hb dX3_isAct_405 (by decide) ?_
          have hP9 := hP.sub (ws' := []) [] rfl
          have hD9 := hD.sub (ws' := []) [] (by decide) rfl
          exact W.zret (v := 1) (ty := .boolean) hx hb hr rfl (fun t ht hW => ⟨⟨1, (fun _ => 0), rfl, (Or.inl ⟨rfl, (okP_13 hk3).mpr (by omega)⟩), by rw [ht]; exact hP9, va_K.moved hW.alike hK, hD9⟩, hS.F ht⟩) hS.2.2 dX3_isAct_409
    · refine lv_tableIn (tgt := 410) (off := 409) hx hb dX3_isAct_1 (by omega) (by omega) (by rw [hk3]; rfl) (by decide) ?_
      refine lv_iload_n hx hb dX3_isAct_410 rfl (lv_at hl 2 rfl) ?_
      refine lv_iconst (v := 1) hx hb dX3_isAct_411 (by decide) ?_
      refine lv_icmp_lt (tgt := 425) hx hb dX3_isAct_412 (by decide) (fun c_86 => ?_) (fun c_86 => ?_)
      · -- yes
        have k_86 : (ba.toInt : Int) < (1 : Int) := by first | exact lt_i c_86 | simpa using lt_i c_86
        refine lv_iconst (v := 0) hx hb dX3_isAct_425 (by decide) ?_
        have hP9 := hP.sub (ws' := []) [] rfl
        have hD9 := hD.sub (ws' := []) [] (by decide) rfl
        exact W.zret (v := 0) (ty := .boolean) hx hb hr rfl (fun t ht hW => ⟨⟨0, (fun _ => 0), rfl, (Or.inr ⟨rfl, fun h9 => by have h8 := (okP_14 hk3).mp h9; omega⟩), by rw [ht]; exact hP9, va_K.moved hW.alike hK, hD9⟩, hS.F ht⟩) hS.2.2 dX3_isAct_426
      · -- no
        have k_86 : (1 : Int) ≤ (ba.toInt : Int) := by first | exact nlt_i c_86 | simpa using nlt_i c_86
        refine lv_iload_n hx hb dX3_isAct_415 rfl (lv_at hl 2 rfl) ?_
        refine lv_bipush (v := 10) hx hb dX3_isAct_416 (by decide) ?_
        refine lv_icmp_gt (tgt := 425) hx hb dX3_isAct_418 (by decide) (fun c_87 => ?_) (fun c_87 => ?_)
        · -- yes
          have k_87 : (10 : Int) < (ba.toInt : Int) := by first | exact lt_i c_87 | simpa using lt_i c_87
          refine lv_iconst (v := 0) hx hb dX3_isAct_425 (by decide) ?_
          have hP9 := hP.sub (ws' := []) [] rfl
          have hD9 := hD.sub (ws' := []) [] (by decide) rfl
          exact W.zret (v := 0) (ty := .boolean) hx hb hr rfl (fun t ht hW => ⟨⟨0, (fun _ => 0), rfl, (Or.inr ⟨rfl, fun h9 => by have h8 := (okP_14 hk3).mp h9; omega⟩), by rw [ht]; exact hP9, va_K.moved hW.alike hK, hD9⟩, hS.F ht⟩) hS.2.2 dX3_isAct_426
        · -- no
          have k_87 : (ba.toInt : Int) ≤ (10 : Int) := by first | exact nlt_i c_87 | simpa using nlt_i c_87
          refine lv_iconst (v := 1) hx hb dX3_isAct_421 (by decide) ?_
          refine lv_goto (tgt := 426) hx hb dX3_isAct_422 (by decide) ?_
          have hP9 := hP.sub (ws' := []) [] rfl
          have hD9 := hD.sub (ws' := []) [] (by decide) rfl
          exact W.zret (v := 1) (ty := .boolean) hx hb hr rfl (fun t ht hW => ⟨⟨1, (fun _ => 0), rfl, (Or.inl ⟨rfl, (okP_14 hk3).mpr (by omega)⟩), by rw [ht]; exact hP9, va_K.moved hW.alike hK, hD9⟩, hS.F ht⟩) hS.2.2 dX3_isAct_426

def w_X5_isAct : List Cond := .code yX5_isAct cX5_isAct 6 (some .boolean) :: ([.methodLink RX5 115 yX5_isName, .static yX5_isName, .initialized RX5, .code yX5_isName cX5_isName 1 (some .boolean), .methodLink RX5 119 yX5_isNumber, .static yX5_isNumber, .code yX5_isNumber cX5_isNumber 1 (some .boolean), .constant RX5 113 (-1000000), .constant RX5 114 (1000000), .methodLink RX5 122 yX5_isLane, .static yX5_isLane, .code yX5_isLane cX5_isLane 1 (some .boolean)])
set_option maxRecDepth 20000 in
theorem g_X5_isAct_X5_isName_115 : GoodIn w_X5_isAct (va_wsS RX5 115 yX5_isName w_X5_isName) := goodIn_r _ [1, 2, 3, 4] (by decide +kernel) (by decide +kernel)
set_option maxRecDepth 20000 in
theorem g_X5_isAct_X5_isNumber_119 : GoodIn w_X5_isAct (va_wsS RX5 119 yX5_isNumber w_X5_isNumber) := goodIn_r _ [5, 6, 3, 7, 8, 9] (by decide +kernel) (by decide +kernel)
set_option maxRecDepth 20000 in
theorem g_X5_isAct_X5_isLane_122 : GoodIn w_X5_isAct (va_wsS RX5 122 yX5_isLane w_X5_isLane) := goodIn_r _ [10, 11, 3, 12] (by decide +kernel) (by decide +kernel)
set_option maxHeartbeats 4000000 in
set_option maxRecDepth 100000 in
theorem c_X5_isAct (l : Launch) (ka : Int32) (aa : Int32) (ba : Int32) (ca : Int32) (da : Int32) (ea : Int32) : Met l yX5_isAct w_X5_isAct ({ frames := 1, cells := 0, slots := 0, locals := 20 }) (va_Pc [.int ka, .int aa, .int ba, .int ca, .int da, .int ea] (fun _ => True)) (vp_Si (fun (r : Int32) => two r (okP ka aa ba ca da ea) 1 0)) 0 0 (fun _ => False) := by
  refine Met.ofW (cc := cX5_isAct) (maxL := 6) (ret := (some .boolean)) (by decide) rfl ?_
  intro p e s m args below meth c s₁ B hml hv
  obtain ⟨rfl, -⟩ := hv
  have hx := B.exec
  have hb := B.bytes
  have hr := B.returns
  have hts := atoms_spec (ws := w_X5_isAct) B.pre
  have hown : s.vm.findClass RX5 = some m.cls := findClass_of_methodNamed B.named
  have hlocks := B.notSynchronized
  have hl := lv_entry ([.int ka, .int aa, .int ba, .int ca, .int da, .int ea]) (n := 6) (Nat.le_of_ble_eq_true rfl)
  rw [lg_entry_eq]
  generalize (lg_sl ([.int ka, .int aa, .int ba, .int ca, .int da, .int ea]) ++ List.replicate (6 - (lg_sl ([.int ka, .int aa, .int ba, .int ca, .int da, .int ea])).length) Slot.unset).toArray = ls at hl ⊢
  replace hl : lv_has ls 6 [(0, .int ka), (1, .int aa), (2, .int ba), (3, .int ca), (4, .int da), (5, .int ea)] := hl
  refine lv_iload_n hx hb dX5_isAct_0 rfl (lv_at hl 0 rfl) ?_
  by_cases hk : ka.toInt < 0 ∨ 14 < ka.toInt
  · refine lv_tableOut (tgt := 380) hx hb dX5_isAct_1 hk (by decide) ?_
    refine lv_iconst (v := 0) hx hb dX5_isAct_380 (by decide) ?_
    exact W.zret (v := 0) (ty := .boolean) hx hb hr rfl (fun t ht hW => ⟨0, rfl, (Or.inr ⟨rfl, okP_out hk⟩), ht⟩) (by intro q hq; cases hq) dX5_isAct_381
  · have hk2 : ka.toInt = 0 ∨ ka.toInt = 1 ∨ ka.toInt = 2 ∨ ka.toInt = 3 ∨ ka.toInt = 4 ∨ ka.toInt = 5 ∨ ka.toInt = 6 ∨ ka.toInt = 7 ∨ ka.toInt = 8 ∨ ka.toInt = 9 ∨ ka.toInt = 10 ∨ ka.toInt = 11 ∨ ka.toInt = 12 ∨ ka.toInt = 13 ∨ ka.toInt = 14 := by omega
    rcases hk2 with hk3 | hk3 | hk3 | hk3 | hk3 | hk3 | hk3 | hk3 | hk3 | hk3 | hk3 | hk3 | hk3 | hk3 | hk3
    · refine lv_tableIn (tgt := 76) (off := 75) hx hb dX5_isAct_1 (by omega) (by omega) (by rw [hk3]; rfl) (by decide) ?_
      refine lv_iload_n hx hb dX5_isAct_76 rfl (lv_at hl 1 rfl) ?_
      refine vp_callSi (va_runS (As := [.int aa]) (rest := []) ⟨hx, hb, hml, hown, hts⟩ (c_X5_isName l aa) (va_cwS 1 hts g_X5_isAct_X5_isName_115 rfl rfl rfl (by decide +kernel) ⟨Nat.le_of_ble_eq_true rfl, Nat.le_of_ble_eq_true rfl⟩) ⟨fun _ _ _ _ q => q, fun _ _ _ => ⟨rfl, trivial⟩⟩ rfl rfl hl.1 rfl (lv_room (Nat.le_of_ble_eq_true rfl)) dX5_isAct_77 ⟨Nat.le_of_ble_eq_true rfl, Nat.le_of_ble_eq_true rfl⟩).run (fun r_1 hw_1 => ?_)
      refine lv_if_eq (tgt := 94) hx hb dX5_isAct_80 (by decide) (fun c_2 => ?_) (fun c_2 => ?_)
      · -- yes
        have k_2 : ¬ (V6 aa) := two_z hw_1 c_2
        refine lv_iconst (v := 0) hx hb dX5_isAct_94 (by decide) ?_
        exact W.zret (v := 0) (ty := .boolean) hx hb hr rfl (fun t ht hW => ⟨0, rfl, (Or.inr ⟨rfl, fun h9 => by have h8 := (okP_0 hk3).mp h9; omega⟩), ht⟩) (by intro q hq; cases hq) dX5_isAct_95
      · -- no
        have k_2 : V6 aa := two_nz hw_1 c_2
        refine lv_iload_n hx hb dX5_isAct_83 rfl (lv_at hl 2 rfl) ?_
        refine vp_callSi (va_runS (As := [.int ba]) (rest := []) ⟨hx, hb, hml, hown, hts⟩ (c_X5_isNumber l ba) (va_cwS 1 hts g_X5_isAct_X5_isNumber_119 rfl rfl rfl (by decide +kernel) ⟨Nat.le_of_ble_eq_true rfl, Nat.le_of_ble_eq_true rfl⟩) ⟨fun _ _ _ _ q => q, fun _ _ _ => ⟨rfl, trivial⟩⟩ rfl rfl hl.1 rfl (lv_room (Nat.le_of_ble_eq_true rfl)) dX5_isAct_84 ⟨Nat.le_of_ble_eq_true rfl, Nat.le_of_ble_eq_true rfl⟩).run (fun r_3 hw_3 => ?_)
        refine lv_if_eq (tgt := 94) hx hb dX5_isAct_87 (by decide) (fun c_4 => ?_) (fun c_4 => ?_)
        · -- yes
          have k_4 : ¬ (VN ba) := two_z hw_3 c_4
          refine lv_iconst (v := 0) hx hb dX5_isAct_94 (by decide) ?_
          exact W.zret (v := 0) (ty := .boolean) hx hb hr rfl (fun t ht hW => ⟨0, rfl, (Or.inr ⟨rfl, fun h9 => by have h8 := (okP_0 hk3).mp h9; omega⟩), ht⟩) (by intro q hq; cases hq) dX5_isAct_95
        · -- no
          have k_4 : VN ba := two_nz hw_3 c_4
          refine lv_iconst (v := 1) hx hb dX5_isAct_90 (by decide) ?_
          refine lv_goto (tgt := 95) hx hb dX5_isAct_91 (by decide) ?_
          exact W.zret (v := 1) (ty := .boolean) hx hb hr rfl (fun t ht hW => ⟨1, rfl, (Or.inl ⟨rfl, (okP_0 hk3).mpr (by omega)⟩), ht⟩) (by intro q hq; cases hq) dX5_isAct_95
    · refine lv_tableIn (tgt := 96) (off := 95) hx hb dX5_isAct_1 (by omega) (by omega) (by rw [hk3]; rfl) (by decide) ?_
      refine lv_iload_n hx hb dX5_isAct_96 rfl (lv_at hl 1 rfl) ?_
      refine vp_callSi (va_runS (As := [.int aa]) (rest := []) ⟨hx, hb, hml, hown, hts⟩ (c_X5_isName l aa) (va_cwS 1 hts g_X5_isAct_X5_isName_115 rfl rfl rfl (by decide +kernel) ⟨Nat.le_of_ble_eq_true rfl, Nat.le_of_ble_eq_true rfl⟩) ⟨fun _ _ _ _ q => q, fun _ _ _ => ⟨rfl, trivial⟩⟩ rfl rfl hl.1 rfl (lv_room (Nat.le_of_ble_eq_true rfl)) dX5_isAct_97 ⟨Nat.le_of_ble_eq_true rfl, Nat.le_of_ble_eq_true rfl⟩).run (fun r_5 hw_5 => ?_)
      refine lv_if_eq (tgt := 126) hx hb dX5_isAct_100 (by decide) (fun c_6 => ?_) (fun c_6 => ?_)
      · -- yes
        have k_6 : ¬ (V6 aa) := two_z hw_5 c_6
        refine lv_iconst (v := 0) hx hb dX5_isAct_126 (by decide) ?_
        exact W.zret (v := 0) (ty := .boolean) hx hb hr rfl (fun t ht hW => ⟨0, rfl, (Or.inr ⟨rfl, fun h9 => by have h8 := (okP_1 hk3).mp h9; omega⟩), ht⟩) (by intro q hq; cases hq) dX5_isAct_127
      · -- no
        have k_6 : V6 aa := two_nz hw_5 c_6
        refine lv_iload_n hx hb dX5_isAct_103 rfl (lv_at hl 2 rfl) ?_
        refine vp_callSi (va_runS (As := [.int ba]) (rest := []) ⟨hx, hb, hml, hown, hts⟩ (c_X5_isNumber l ba) (va_cwS 1 hts g_X5_isAct_X5_isNumber_119 rfl rfl rfl (by decide +kernel) ⟨Nat.le_of_ble_eq_true rfl, Nat.le_of_ble_eq_true rfl⟩) ⟨fun _ _ _ _ q => q, fun _ _ _ => ⟨rfl, trivial⟩⟩ rfl rfl hl.1 rfl (lv_room (Nat.le_of_ble_eq_true rfl)) dX5_isAct_104 ⟨Nat.le_of_ble_eq_true rfl, Nat.le_of_ble_eq_true rfl⟩).run (fun r_7 hw_7 => ?_)
        refine lv_if_eq (tgt := 126) hx hb dX5_isAct_107 (by decide) (fun c_8 => ?_) (fun c_8 => ?_)
        · -- yes
          have k_8 : ¬ (VN ba) := two_z hw_7 c_8
          refine lv_iconst (v := 0) hx hb dX5_isAct_126 (by decide) ?_
          exact W.zret (v := 0) (ty := .boolean) hx hb hr rfl (fun t ht hW => ⟨0, rfl, (Or.inr ⟨rfl, fun h9 => by have h8 := (okP_1 hk3).mp h9; omega⟩), ht⟩) (by intro q hq; cases hq) dX5_isAct_127
        · -- no
          have k_8 : VN ba := two_nz hw_7 c_8
          refine lv_iload_n hx hb dX5_isAct_110 rfl (lv_at hl 3 rfl) ?_
          refine vp_callSi (va_runS (As := [.int ca]) (rest := []) ⟨hx, hb, hml, hown, hts⟩ (c_X5_isNumber l ca) (va_cwS 1 hts g_X5_isAct_X5_isNumber_119 rfl rfl rfl (by decide +kernel) ⟨Nat.le_of_ble_eq_true rfl, Nat.le_of_ble_eq_true rfl⟩) ⟨fun _ _ _ _ q => q, fun _ _ _ => ⟨rfl, trivial⟩⟩ rfl rfl hl.1 rfl (lv_room (Nat.le_of_ble_eq_true rfl)) dX5_isAct_111 ⟨Nat.le_of_ble_eq_true rfl, Nat.le_of_ble_eq_true rfl⟩).run (fun r_9 hw_9 => ?_)
          refine lv_if_eq (tgt := 126) hx hb dX5_isAct_114 (by decide) (fun c_10 => ?_) (fun c_10 => ?_)
          · -- yes
            have k_10 : ¬ (VN ca) := two_z hw_9 c_10
            refine lv_iconst (v := 0) hx hb dX5_isAct_126 (by decide) ?_
            exact W.zret (v := 0) (ty := .boolean) hx hb hr rfl (fun t ht hW => ⟨0, rfl, (Or.inr ⟨rfl, fun h9 => by have h8 := (okP_1 hk3).mp h9; omega⟩), ht⟩) (by intro q hq; cases hq) dX5_isAct_127
          · -- no
            have k_10 : VN ca := two_nz hw_9 c_10
            refine lv_iload_n hx hb dX5_isAct_117 rfl (lv_at hl 2 rfl) ?_
            refine lv_iload_n hx hb dX5_isAct_118 rfl (lv_at hl 3 rfl) ?_
            refine lv_icmp_gt (tgt := 126) hx hb dX5_isAct_119 (by decide) (fun c_11 => ?_) (fun c_11 => ?_)
            · -- yes
              have k_11 : (ca.toInt : Int) < (ba.toInt : Int) := by first | exact lt_i c_11 | simpa using lt_i c_11
              refine lv_iconst (v := 0) hx hb dX5_isAct_126 (by decide) ?_
              exact W.zret (v := 0) (ty := .boolean) hx hb hr rfl (fun t ht hW => ⟨0, rfl, (Or.inr ⟨rfl, fun h9 => by have h8 := (okP_1 hk3).mp h9; omega⟩), ht⟩) (by intro q hq; cases hq) dX5_isAct_127
            · -- no
              have k_11 : (ba.toInt : Int) ≤ (ca.toInt : Int) := by first | exact nlt_i c_11 | simpa using nlt_i c_11
              refine lv_iconst (v := 1) hx hb dX5_isAct_122 (by decide) ?_
              refine lv_goto (tgt := 127) hx hb dX5_isAct_123 (by decide) ?_
              exact W.zret (v := 1) (ty := .boolean) hx hb hr rfl (fun t ht hW => ⟨1, rfl, (Or.inl ⟨rfl, (okP_1 hk3).mpr (by omega)⟩), ht⟩) (by intro q hq; cases hq) dX5_isAct_127
    · refine lv_tableIn (tgt := 128) (off := 127) hx hb dX5_isAct_1 (by omega) (by omega) (by rw [hk3]; rfl) (by decide) ?_
      refine lv_iload_n hx hb dX5_isAct_128 rfl (lv_at hl 1 rfl) ?_
      refine vp_callSi (va_runS (As := [.int aa]) (rest := []) ⟨hx, hb, hml, hown, hts⟩ (c_X5_isName l aa) (va_cwS 1 hts g_X5_isAct_X5_isName_115 rfl rfl rfl (by decide +kernel) ⟨Nat.le_of_ble_eq_true rfl, Nat.le_of_ble_eq_true rfl⟩) ⟨fun _ _ _ _ q => q, fun _ _ _ => ⟨rfl, trivial⟩⟩ rfl rfl hl.1 rfl (lv_room (Nat.le_of_ble_eq_true rfl)) dX5_isAct_129 ⟨Nat.le_of_ble_eq_true rfl, Nat.le_of_ble_eq_true rfl⟩).run (fun r_12 hw_12 => ?_)
      refine lv_if_eq (tgt := 153) hx hb dX5_isAct_132 (by decide) (fun c_13 => ?_) (fun c_13 => ?_)
      · -- yes
        have k_13 : ¬ (V6 aa) := two_z hw_12 c_13
        refine lv_iconst (v := 0) hx hb dX5_isAct_153 (by decide) ?_
        exact W.zret (v := 0) (ty := .boolean) hx hb hr rfl (fun t ht hW => ⟨0, rfl, (Or.inr ⟨rfl, fun h9 => by have h8 := (okP_2 hk3).mp h9; omega⟩), ht⟩) (by intro q hq; cases hq) dX5_isAct_154
      · -- no
        have k_13 : V6 aa := two_nz hw_12 c_13
        refine lv_iload_n hx hb dX5_isAct_135 rfl (lv_at hl 2 rfl) ?_
        refine vp_callSi (va_runS (As := [.int ba]) (rest := []) ⟨hx, hb, hml, hown, hts⟩ (c_X5_isName l ba) (va_cwS 1 hts g_X5_isAct_X5_isName_115 rfl rfl rfl (by decide +kernel) ⟨Nat.le_of_ble_eq_true rfl, Nat.le_of_ble_eq_true rfl⟩) ⟨fun _ _ _ _ q => q, fun _ _ _ => ⟨rfl, trivial⟩⟩ rfl rfl hl.1 rfl (lv_room (Nat.le_of_ble_eq_true rfl)) dX5_isAct_136 ⟨Nat.le_of_ble_eq_true rfl, Nat.le_of_ble_eq_true rfl⟩).run (fun r_14 hw_14 => ?_)
        refine lv_if_eq (tgt := 153) hx hb dX5_isAct_139 (by decide) (fun c_15 => ?_) (fun c_15 => ?_)
        · -- yes
          have k_15 : ¬ (V6 ba) := two_z hw_14 c_15
          refine lv_iconst (v := 0) hx hb dX5_isAct_153 (by decide) ?_
          exact W.zret (v := 0) (ty := .boolean) hx hb hr rfl (fun t ht hW => ⟨0, rfl, (Or.inr ⟨rfl, fun h9 => by have h8 := (okP_2 hk3).mp h9; omega⟩), ht⟩) (by intro q hq; cases hq) dX5_isAct_154
        · -- no
          have k_15 : V6 ba := two_nz hw_14 c_15
          refine lv_iload_n hx hb dX5_isAct_142 rfl (lv_at hl 3 rfl) ?_
          refine vp_callSi (va_runS (As := [.int ca]) (rest := []) ⟨hx, hb, hml, hown, hts⟩ (c_X5_isName l ca) (va_cwS 1 hts g_X5_isAct_X5_isName_115 rfl rfl rfl (by decide +kernel) ⟨Nat.le_of_ble_eq_true rfl, Nat.le_of_ble_eq_true rfl⟩) ⟨fun _ _ _ _ q => q, fun _ _ _ => ⟨rfl, trivial⟩⟩ rfl rfl hl.1 rfl (lv_room (Nat.le_of_ble_eq_true rfl)) dX5_isAct_143 ⟨Nat.le_of_ble_eq_true rfl, Nat.le_of_ble_eq_true rfl⟩).run (fun r_16 hw_16 => ?_)
          refine lv_if_eq (tgt := 153) hx hb dX5_isAct_146 (by decide) (fun c_17 => ?_) (fun c_17 => ?_)
          · -- yes
            have k_17 : ¬ (V6 ca) := two_z hw_16 c_17
            refine lv_iconst (v := 0) hx hb dX5_isAct_153 (by decide) ?_
            exact W.zret (v := 0) (ty := .boolean) hx hb hr rfl (fun t ht hW => ⟨0, rfl, (Or.inr ⟨rfl, fun h9 => by have h8 := (okP_2 hk3).mp h9; omega⟩), ht⟩) (by intro q hq; cases hq) dX5_isAct_154
          · -- no
            have k_17 : V6 ca := two_nz hw_16 c_17
            refine lv_iconst (v := 1) hx hb dX5_isAct_149 (by decide) ?_
            refine lv_goto (tgt := 154) hx hb dX5_isAct_150 (by decide) ?_
            exact W.zret (v := 1) (ty := .boolean) hx hb hr rfl (fun t ht hW => ⟨1, rfl, (Or.inl ⟨rfl, (okP_2 hk3).mpr (by omega)⟩), ht⟩) (by intro q hq; cases hq) dX5_isAct_154
    · refine lv_tableIn (tgt := 128) (off := 127) hx hb dX5_isAct_1 (by omega) (by omega) (by rw [hk3]; rfl) (by decide) ?_
      refine lv_iload_n hx hb dX5_isAct_128 rfl (lv_at hl 1 rfl) ?_
      refine vp_callSi (va_runS (As := [.int aa]) (rest := []) ⟨hx, hb, hml, hown, hts⟩ (c_X5_isName l aa) (va_cwS 1 hts g_X5_isAct_X5_isName_115 rfl rfl rfl (by decide +kernel) ⟨Nat.le_of_ble_eq_true rfl, Nat.le_of_ble_eq_true rfl⟩) ⟨fun _ _ _ _ q => q, fun _ _ _ => ⟨rfl, trivial⟩⟩ rfl rfl hl.1 rfl (lv_room (Nat.le_of_ble_eq_true rfl)) dX5_isAct_129 ⟨Nat.le_of_ble_eq_true rfl, Nat.le_of_ble_eq_true rfl⟩).run (fun r_18 hw_18 => ?_)
      refine lv_if_eq (tgt := 153) hx hb dX5_isAct_132 (by decide) (fun c_19 => ?_) (fun c_19 => ?_)
      · -- yes
        have k_19 : ¬ (V6 aa) := two_z hw_18 c_19
        refine lv_iconst (v := 0) hx hb dX5_isAct_153 (by decide) ?_
        exact W.zret (v := 0) (ty := .boolean) hx hb hr rfl (fun t ht hW => ⟨0, rfl, (Or.inr ⟨rfl, fun h9 => by have h8 := (okP_3 hk3).mp h9; omega⟩), ht⟩) (by intro q hq; cases hq) dX5_isAct_154
      · -- no
        have k_19 : V6 aa := two_nz hw_18 c_19
        refine lv_iload_n hx hb dX5_isAct_135 rfl (lv_at hl 2 rfl) ?_
        refine vp_callSi (va_runS (As := [.int ba]) (rest := []) ⟨hx, hb, hml, hown, hts⟩ (c_X5_isName l ba) (va_cwS 1 hts g_X5_isAct_X5_isName_115 rfl rfl rfl (by decide +kernel) ⟨Nat.le_of_ble_eq_true rfl, Nat.le_of_ble_eq_true rfl⟩) ⟨fun _ _ _ _ q => q, fun _ _ _ => ⟨rfl, trivial⟩⟩ rfl rfl hl.1 rfl (lv_room (Nat.le_of_ble_eq_true rfl)) dX5_isAct_136 ⟨Nat.le_of_ble_eq_true rfl, Nat.le_of_ble_eq_true rfl⟩).run (fun r_20 hw_20 => ?_)
        refine lv_if_eq (tgt := 153) hx hb dX5_isAct_139 (by decide) (fun c_21 => ?_) (fun c_21 => ?_)
        · -- yes
          have k_21 : ¬ (V6 ba) := two_z hw_20 c_21
          refine lv_iconst (v := 0) hx hb dX5_isAct_153 (by decide) ?_
          exact W.zret (v := 0) (ty := .boolean) hx hb hr rfl (fun t ht hW => ⟨0, rfl, (Or.inr ⟨rfl, fun h9 => by have h8 := (okP_3 hk3).mp h9; omega⟩), ht⟩) (by intro q hq; cases hq) dX5_isAct_154
        · -- no
          have k_21 : V6 ba := two_nz hw_20 c_21
          refine lv_iload_n hx hb dX5_isAct_142 rfl (lv_at hl 3 rfl) ?_
          refine vp_callSi (va_runS (As := [.int ca]) (rest := []) ⟨hx, hb, hml, hown, hts⟩ (c_X5_isName l ca) (va_cwS 1 hts g_X5_isAct_X5_isName_115 rfl rfl rfl (by decide +kernel) ⟨Nat.le_of_ble_eq_true rfl, Nat.le_of_ble_eq_true rfl⟩) ⟨fun _ _ _ _ q => q, fun _ _ _ => ⟨rfl, trivial⟩⟩ rfl rfl hl.1 rfl (lv_room (Nat.le_of_ble_eq_true rfl)) dX5_isAct_143 ⟨Nat.le_of_ble_eq_true rfl, Nat.le_of_ble_eq_true rfl⟩).run (fun r_22 hw_22 => ?_)
          refine lv_if_eq (tgt := 153) hx hb dX5_isAct_146 (by decide) (fun c_23 => ?_) (fun c_23 => ?_)
          · -- yes
            have k_23 : ¬ (V6 ca) := two_z hw_22 c_23
            refine lv_iconst (v := 0) hx hb dX5_isAct_153 (by decide) ?_
            exact W.zret (v := 0) (ty := .boolean) hx hb hr rfl (fun t ht hW => ⟨0, rfl, (Or.inr ⟨rfl, fun h9 => by have h8 := (okP_3 hk3).mp h9; omega⟩), ht⟩) (by intro q hq; cases hq) dX5_isAct_154
          · -- no
            have k_23 : V6 ca := two_nz hw_22 c_23
            refine lv_iconst (v := 1) hx hb dX5_isAct_149 (by decide) ?_
            refine lv_goto (tgt := 154) hx hb dX5_isAct_150 (by decide) ?_
            exact W.zret (v := 1) (ty := .boolean) hx hb hr rfl (fun t ht hW => ⟨1, rfl, (Or.inl ⟨rfl, (okP_3 hk3).mpr (by omega)⟩), ht⟩) (by intro q hq; cases hq) dX5_isAct_154
    · refine lv_tableIn (tgt := 155) (off := 154) hx hb dX5_isAct_1 (by omega) (by omega) (by rw [hk3]; rfl) (by decide) ?_
      refine lv_iload_n hx hb dX5_isAct_155 rfl (lv_at hl 1 rfl) ?_
      refine vp_callSi (va_runS (As := [.int aa]) (rest := []) ⟨hx, hb, hml, hown, hts⟩ (c_X5_isName l aa) (va_cwS 1 hts g_X5_isAct_X5_isName_115 rfl rfl rfl (by decide +kernel) ⟨Nat.le_of_ble_eq_true rfl, Nat.le_of_ble_eq_true rfl⟩) ⟨fun _ _ _ _ q => q, fun _ _ _ => ⟨rfl, trivial⟩⟩ rfl rfl hl.1 rfl (lv_room (Nat.le_of_ble_eq_true rfl)) dX5_isAct_156 ⟨Nat.le_of_ble_eq_true rfl, Nat.le_of_ble_eq_true rfl⟩).run (fun r_24 hw_24 => ?_)
      refine lv_if_eq (tgt := 180) hx hb dX5_isAct_159 (by decide) (fun c_25 => ?_) (fun c_25 => ?_)
      · -- yes
        have k_25 : ¬ (V6 aa) := two_z hw_24 c_25
        refine lv_iconst (v := 0) hx hb dX5_isAct_180 (by decide) ?_
        exact W.zret (v := 0) (ty := .boolean) hx hb hr rfl (fun t ht hW => ⟨0, rfl, (Or.inr ⟨rfl, fun h9 => by have h8 := (okP_4 hk3).mp h9; omega⟩), ht⟩) (by intro q hq; cases hq) dX5_isAct_181
      · -- no
        have k_25 : V6 aa := two_nz hw_24 c_25
        refine lv_iload_n hx hb dX5_isAct_162 rfl (lv_at hl 2 rfl) ?_
        refine vp_callSi (va_runS (As := [.int ba]) (rest := []) ⟨hx, hb, hml, hown, hts⟩ (c_X5_isLane l ba) (va_cwS 1 hts g_X5_isAct_X5_isLane_122 rfl rfl rfl (by decide +kernel) ⟨Nat.le_of_ble_eq_true rfl, Nat.le_of_ble_eq_true rfl⟩) ⟨fun _ _ _ _ q => q, fun _ _ _ => ⟨rfl, trivial⟩⟩ rfl rfl hl.1 rfl (lv_room (Nat.le_of_ble_eq_true rfl)) dX5_isAct_163 ⟨Nat.le_of_ble_eq_true rfl, Nat.le_of_ble_eq_true rfl⟩).run (fun r_26 hw_26 => ?_)
        refine lv_if_eq (tgt := 180) hx hb dX5_isAct_166 (by decide) (fun c_27 => ?_) (fun c_27 => ?_)
        · -- yes
          have k_27 : ¬ (V3 ba) := two_z hw_26 c_27
          refine lv_iconst (v := 0) hx hb dX5_isAct_180 (by decide) ?_
          exact W.zret (v := 0) (ty := .boolean) hx hb hr rfl (fun t ht hW => ⟨0, rfl, (Or.inr ⟨rfl, fun h9 => by have h8 := (okP_4 hk3).mp h9; omega⟩), ht⟩) (by intro q hq; cases hq) dX5_isAct_181
        · -- no
          have k_27 : V3 ba := two_nz hw_26 c_27
          refine lv_iload_n hx hb dX5_isAct_169 rfl (lv_at hl 3 rfl) ?_
          refine vp_callSi (va_runS (As := [.int ca]) (rest := []) ⟨hx, hb, hml, hown, hts⟩ (c_X5_isName l ca) (va_cwS 1 hts g_X5_isAct_X5_isName_115 rfl rfl rfl (by decide +kernel) ⟨Nat.le_of_ble_eq_true rfl, Nat.le_of_ble_eq_true rfl⟩) ⟨fun _ _ _ _ q => q, fun _ _ _ => ⟨rfl, trivial⟩⟩ rfl rfl hl.1 rfl (lv_room (Nat.le_of_ble_eq_true rfl)) dX5_isAct_170 ⟨Nat.le_of_ble_eq_true rfl, Nat.le_of_ble_eq_true rfl⟩).run (fun r_28 hw_28 => ?_)
          refine lv_if_eq (tgt := 180) hx hb dX5_isAct_173 (by decide) (fun c_29 => ?_) (fun c_29 => ?_)
          · -- yes
            have k_29 : ¬ (V6 ca) := two_z hw_28 c_29
            refine lv_iconst (v := 0) hx hb dX5_isAct_180 (by decide) ?_
            exact W.zret (v := 0) (ty := .boolean) hx hb hr rfl (fun t ht hW => ⟨0, rfl, (Or.inr ⟨rfl, fun h9 => by have h8 := (okP_4 hk3).mp h9; omega⟩), ht⟩) (by intro q hq; cases hq) dX5_isAct_181
          · -- no
            have k_29 : V6 ca := two_nz hw_28 c_29
            refine lv_iconst (v := 1) hx hb dX5_isAct_176 (by decide) ?_
            refine lv_goto (tgt := 181) hx hb dX5_isAct_177 (by decide) ?_
            exact W.zret (v := 1) (ty := .boolean) hx hb hr rfl (fun t ht hW => ⟨1, rfl, (Or.inl ⟨rfl, (okP_4 hk3).mpr (by omega)⟩), ht⟩) (by intro q hq; cases hq) dX5_isAct_181
    · refine lv_tableIn (tgt := 182) (off := 181) hx hb dX5_isAct_1 (by omega) (by omega) (by rw [hk3]; rfl) (by decide) ?_
      refine lv_iload_n hx hb dX5_isAct_182 rfl (lv_at hl 1 rfl) ?_
      refine vp_callSi (va_runS (As := [.int aa]) (rest := []) ⟨hx, hb, hml, hown, hts⟩ (c_X5_isName l aa) (va_cwS 1 hts g_X5_isAct_X5_isName_115 rfl rfl rfl (by decide +kernel) ⟨Nat.le_of_ble_eq_true rfl, Nat.le_of_ble_eq_true rfl⟩) ⟨fun _ _ _ _ q => q, fun _ _ _ => ⟨rfl, trivial⟩⟩ rfl rfl hl.1 rfl (lv_room (Nat.le_of_ble_eq_true rfl)) dX5_isAct_183 ⟨Nat.le_of_ble_eq_true rfl, Nat.le_of_ble_eq_true rfl⟩).run (fun r_30 hw_30 => ?_)
      rcases hw_30 with ⟨rfl, k_31⟩ | ⟨rfl, k_31⟩
      · -- answer 1
        exact W.zret (v := 1) (ty := .boolean) hx hb hr rfl (fun t ht hW => ⟨1, rfl, (Or.inl ⟨rfl, (okP_5 hk3).mpr (by omega)⟩), ht⟩) (by intro q hq; cases hq) dX5_isAct_186
      · -- answer 0
        exact W.zret (v := 0) (ty := .boolean) hx hb hr rfl (fun t ht hW => ⟨0, rfl, (Or.inr ⟨rfl, fun h9 => by have h8 := (okP_5 hk3).mp h9; omega⟩), ht⟩) (by intro q hq; cases hq) dX5_isAct_186
    · refine lv_tableIn (tgt := 187) (off := 186) hx hb dX5_isAct_1 (by omega) (by omega) (by rw [hk3]; rfl) (by decide) ?_
      refine lv_iload_n hx hb dX5_isAct_187 rfl (lv_at hl 1 rfl) ?_
      refine vp_callSi (va_runS (As := [.int aa]) (rest := []) ⟨hx, hb, hml, hown, hts⟩ (c_X5_isName l aa) (va_cwS 1 hts g_X5_isAct_X5_isName_115 rfl rfl rfl (by decide +kernel) ⟨Nat.le_of_ble_eq_true rfl, Nat.le_of_ble_eq_true rfl⟩) ⟨fun _ _ _ _ q => q, fun _ _ _ => ⟨rfl, trivial⟩⟩ rfl rfl hl.1 rfl (lv_room (Nat.le_of_ble_eq_true rfl)) dX5_isAct_188 ⟨Nat.le_of_ble_eq_true rfl, Nat.le_of_ble_eq_true rfl⟩).run (fun r_32 hw_32 => ?_)
      refine lv_if_eq (tgt := 205) hx hb dX5_isAct_191 (by decide) (fun c_33 => ?_) (fun c_33 => ?_)
      · -- yes
        have k_33 : ¬ (V6 aa) := two_z hw_32 c_33
        refine lv_iconst (v := 0) hx hb dX5_isAct_205 (by decide) ?_
        exact W.zret (v := 0) (ty := .boolean) hx hb hr rfl (fun t ht hW => ⟨0, rfl, (Or.inr ⟨rfl, fun h9 => by have h8 := (okP_6 hk3).mp h9; omega⟩), ht⟩) (by intro q hq; cases hq) dX5_isAct_206
      · -- no
        have k_33 : V6 aa := two_nz hw_32 c_33
        refine lv_iload_n hx hb dX5_isAct_194 rfl (lv_at hl 2 rfl) ?_
        refine vp_callSi (va_runS (As := [.int ba]) (rest := []) ⟨hx, hb, hml, hown, hts⟩ (c_X5_isName l ba) (va_cwS 1 hts g_X5_isAct_X5_isName_115 rfl rfl rfl (by decide +kernel) ⟨Nat.le_of_ble_eq_true rfl, Nat.le_of_ble_eq_true rfl⟩) ⟨fun _ _ _ _ q => q, fun _ _ _ => ⟨rfl, trivial⟩⟩ rfl rfl hl.1 rfl (lv_room (Nat.le_of_ble_eq_true rfl)) dX5_isAct_195 ⟨Nat.le_of_ble_eq_true rfl, Nat.le_of_ble_eq_true rfl⟩).run (fun r_34 hw_34 => ?_)
        refine lv_if_eq (tgt := 205) hx hb dX5_isAct_198 (by decide) (fun c_35 => ?_) (fun c_35 => ?_)
        · -- yes
          have k_35 : ¬ (V6 ba) := two_z hw_34 c_35
          refine lv_iconst (v := 0) hx hb dX5_isAct_205 (by decide) ?_
          exact W.zret (v := 0) (ty := .boolean) hx hb hr rfl (fun t ht hW => ⟨0, rfl, (Or.inr ⟨rfl, fun h9 => by have h8 := (okP_6 hk3).mp h9; omega⟩), ht⟩) (by intro q hq; cases hq) dX5_isAct_206
        · -- no
          have k_35 : V6 ba := two_nz hw_34 c_35
          refine lv_iconst (v := 1) hx hb dX5_isAct_201 (by decide) ?_
          refine lv_goto (tgt := 206) hx hb dX5_isAct_202 (by decide) ?_
          exact W.zret (v := 1) (ty := .boolean) hx hb hr rfl (fun t ht hW => ⟨1, rfl, (Or.inl ⟨rfl, (okP_6 hk3).mpr (by omega)⟩), ht⟩) (by intro q hq; cases hq) dX5_isAct_206
    · refine lv_tableIn (tgt := 128) (off := 127) hx hb dX5_isAct_1 (by omega) (by omega) (by rw [hk3]; rfl) (by decide) ?_
      refine lv_iload_n hx hb dX5_isAct_128 rfl (lv_at hl 1 rfl) ?_
      refine vp_callSi (va_runS (As := [.int aa]) (rest := []) ⟨hx, hb, hml, hown, hts⟩ (c_X5_isName l aa) (va_cwS 1 hts g_X5_isAct_X5_isName_115 rfl rfl rfl (by decide +kernel) ⟨Nat.le_of_ble_eq_true rfl, Nat.le_of_ble_eq_true rfl⟩) ⟨fun _ _ _ _ q => q, fun _ _ _ => ⟨rfl, trivial⟩⟩ rfl rfl hl.1 rfl (lv_room (Nat.le_of_ble_eq_true rfl)) dX5_isAct_129 ⟨Nat.le_of_ble_eq_true rfl, Nat.le_of_ble_eq_true rfl⟩).run (fun r_36 hw_36 => ?_)
      refine lv_if_eq (tgt := 153) hx hb dX5_isAct_132 (by decide) (fun c_37 => ?_) (fun c_37 => ?_)
      · -- yes
        have k_37 : ¬ (V6 aa) := two_z hw_36 c_37
        refine lv_iconst (v := 0) hx hb dX5_isAct_153 (by decide) ?_
        exact W.zret (v := 0) (ty := .boolean) hx hb hr rfl (fun t ht hW => ⟨0, rfl, (Or.inr ⟨rfl, fun h9 => by have h8 := (okP_7 hk3).mp h9; omega⟩), ht⟩) (by intro q hq; cases hq) dX5_isAct_154
      · -- no
        have k_37 : V6 aa := two_nz hw_36 c_37
        refine lv_iload_n hx hb dX5_isAct_135 rfl (lv_at hl 2 rfl) ?_
        refine vp_callSi (va_runS (As := [.int ba]) (rest := []) ⟨hx, hb, hml, hown, hts⟩ (c_X5_isName l ba) (va_cwS 1 hts g_X5_isAct_X5_isName_115 rfl rfl rfl (by decide +kernel) ⟨Nat.le_of_ble_eq_true rfl, Nat.le_of_ble_eq_true rfl⟩) ⟨fun _ _ _ _ q => q, fun _ _ _ => ⟨rfl, trivial⟩⟩ rfl rfl hl.1 rfl (lv_room (Nat.le_of_ble_eq_true rfl)) dX5_isAct_136 ⟨Nat.le_of_ble_eq_true rfl, Nat.le_of_ble_eq_true rfl⟩).run (fun r_38 hw_38 => ?_)
        refine lv_if_eq (tgt := 153) hx hb dX5_isAct_139 (by decide) (fun c_39 => ?_) (fun c_39 => ?_)
        · -- yes
          have k_39 : ¬ (V6 ba) := two_z hw_38 c_39
          refine lv_iconst (v := 0) hx hb dX5_isAct_153 (by decide) ?_
          exact W.zret (v := 0) (ty := .boolean) hx hb hr rfl (fun t ht hW => ⟨0, rfl, (Or.inr ⟨rfl, fun h9 => by have h8 := (okP_7 hk3).mp h9; omega⟩), ht⟩) (by intro q hq; cases hq) dX5_isAct_154
        · -- no
          have k_39 : V6 ba := two_nz hw_38 c_39
          refine lv_iload_n hx hb dX5_isAct_142 rfl (lv_at hl 3 rfl) ?_
          refine vp_callSi (va_runS (As := [.int ca]) (rest := []) ⟨hx, hb, hml, hown, hts⟩ (c_X5_isName l ca) (va_cwS 1 hts g_X5_isAct_X5_isName_115 rfl rfl rfl (by decide +kernel) ⟨Nat.le_of_ble_eq_true rfl, Nat.le_of_ble_eq_true rfl⟩) ⟨fun _ _ _ _ q => q, fun _ _ _ => ⟨rfl, trivial⟩⟩ rfl rfl hl.1 rfl (lv_room (Nat.le_of_ble_eq_true rfl)) dX5_isAct_143 ⟨Nat.le_of_ble_eq_true rfl, Nat.le_of_ble_eq_true rfl⟩).run (fun r_40 hw_40 => ?_)
          refine lv_if_eq (tgt := 153) hx hb dX5_isAct_146 (by decide) (fun c_41 => ?_) (fun c_41 => ?_)
          · -- yes
            have k_41 : ¬ (V6 ca) := two_z hw_40 c_41
            refine lv_iconst (v := 0) hx hb dX5_isAct_153 (by decide) ?_
            exact W.zret (v := 0) (ty := .boolean) hx hb hr rfl (fun t ht hW => ⟨0, rfl, (Or.inr ⟨rfl, fun h9 => by have h8 := (okP_7 hk3).mp h9; omega⟩), ht⟩) (by intro q hq; cases hq) dX5_isAct_154
          · -- no
            have k_41 : V6 ca := two_nz hw_40 c_41
            refine lv_iconst (v := 1) hx hb dX5_isAct_149 (by decide) ?_
            refine lv_goto (tgt := 154) hx hb dX5_isAct_150 (by decide) ?_
            exact W.zret (v := 1) (ty := .boolean) hx hb hr rfl (fun t ht hW => ⟨1, rfl, (Or.inl ⟨rfl, (okP_7 hk3).mpr (by omega)⟩), ht⟩) (by intro q hq; cases hq) dX5_isAct_154
    · refine lv_tableIn (tgt := 187) (off := 186) hx hb dX5_isAct_1 (by omega) (by omega) (by rw [hk3]; rfl) (by decide) ?_
      refine lv_iload_n hx hb dX5_isAct_187 rfl (lv_at hl 1 rfl) ?_
      refine vp_callSi (va_runS (As := [.int aa]) (rest := []) ⟨hx, hb, hml, hown, hts⟩ (c_X5_isName l aa) (va_cwS 1 hts g_X5_isAct_X5_isName_115 rfl rfl rfl (by decide +kernel) ⟨Nat.le_of_ble_eq_true rfl, Nat.le_of_ble_eq_true rfl⟩) ⟨fun _ _ _ _ q => q, fun _ _ _ => ⟨rfl, trivial⟩⟩ rfl rfl hl.1 rfl (lv_room (Nat.le_of_ble_eq_true rfl)) dX5_isAct_188 ⟨Nat.le_of_ble_eq_true rfl, Nat.le_of_ble_eq_true rfl⟩).run (fun r_42 hw_42 => ?_)
      refine lv_if_eq (tgt := 205) hx hb dX5_isAct_191 (by decide) (fun c_43 => ?_) (fun c_43 => ?_)
      · -- yes
        have k_43 : ¬ (V6 aa) := two_z hw_42 c_43
        refine lv_iconst (v := 0) hx hb dX5_isAct_205 (by decide) ?_
        exact W.zret (v := 0) (ty := .boolean) hx hb hr rfl (fun t ht hW => ⟨0, rfl, (Or.inr ⟨rfl, fun h9 => by have h8 := (okP_8 hk3).mp h9; omega⟩), ht⟩) (by intro q hq; cases hq) dX5_isAct_206
      · -- no
        have k_43 : V6 aa := two_nz hw_42 c_43
        refine lv_iload_n hx hb dX5_isAct_194 rfl (lv_at hl 2 rfl) ?_
        refine vp_callSi (va_runS (As := [.int ba]) (rest := []) ⟨hx, hb, hml, hown, hts⟩ (c_X5_isName l ba) (va_cwS 1 hts g_X5_isAct_X5_isName_115 rfl rfl rfl (by decide +kernel) ⟨Nat.le_of_ble_eq_true rfl, Nat.le_of_ble_eq_true rfl⟩) ⟨fun _ _ _ _ q => q, fun _ _ _ => ⟨rfl, trivial⟩⟩ rfl rfl hl.1 rfl (lv_room (Nat.le_of_ble_eq_true rfl)) dX5_isAct_195 ⟨Nat.le_of_ble_eq_true rfl, Nat.le_of_ble_eq_true rfl⟩).run (fun r_44 hw_44 => ?_)
        refine lv_if_eq (tgt := 205) hx hb dX5_isAct_198 (by decide) (fun c_45 => ?_) (fun c_45 => ?_)
        · -- yes
          have k_45 : ¬ (V6 ba) := two_z hw_44 c_45
          refine lv_iconst (v := 0) hx hb dX5_isAct_205 (by decide) ?_
          exact W.zret (v := 0) (ty := .boolean) hx hb hr rfl (fun t ht hW => ⟨0, rfl, (Or.inr ⟨rfl, fun h9 => by have h8 := (okP_8 hk3).mp h9; omega⟩), ht⟩) (by intro q hq; cases hq) dX5_isAct_206
        · -- no
          have k_45 : V6 ba := two_nz hw_44 c_45
          refine lv_iconst (v := 1) hx hb dX5_isAct_201 (by decide) ?_
          refine lv_goto (tgt := 206) hx hb dX5_isAct_202 (by decide) ?_
          exact W.zret (v := 1) (ty := .boolean) hx hb hr rfl (fun t ht hW => ⟨1, rfl, (Or.inl ⟨rfl, (okP_8 hk3).mpr (by omega)⟩), ht⟩) (by intro q hq; cases hq) dX5_isAct_206
    · refine lv_tableIn (tgt := 207) (off := 206) hx hb dX5_isAct_1 (by omega) (by omega) (by rw [hk3]; rfl) (by decide) ?_
      refine lv_iload_n hx hb dX5_isAct_207 rfl (lv_at hl 1 rfl) ?_
      refine vp_callSi (va_runS (As := [.int aa]) (rest := []) ⟨hx, hb, hml, hown, hts⟩ (c_X5_isName l aa) (va_cwS 1 hts g_X5_isAct_X5_isName_115 rfl rfl rfl (by decide +kernel) ⟨Nat.le_of_ble_eq_true rfl, Nat.le_of_ble_eq_true rfl⟩) ⟨fun _ _ _ _ q => q, fun _ _ _ => ⟨rfl, trivial⟩⟩ rfl rfl hl.1 rfl (lv_room (Nat.le_of_ble_eq_true rfl)) dX5_isAct_208 ⟨Nat.le_of_ble_eq_true rfl, Nat.le_of_ble_eq_true rfl⟩).run (fun r_46 hw_46 => ?_)
      refine lv_if_eq (tgt := 240) hx hb dX5_isAct_211 (by decide) (fun c_47 => ?_) (fun c_47 => ?_)
      · -- yes
        have k_47 : ¬ (V6 aa) := two_z hw_46 c_47
        refine lv_iconst (v := 0) hx hb dX5_isAct_240 (by decide) ?_
        exact W.zret (v := 0) (ty := .boolean) hx hb hr rfl (fun t ht hW => ⟨0, rfl, (Or.inr ⟨rfl, fun h9 => by have h8 := (okP_9 hk3).mp h9; omega⟩), ht⟩) (by intro q hq; cases hq) dX5_isAct_241
      · -- no
        have k_47 : V6 aa := two_nz hw_46 c_47
        refine lv_iload_n hx hb dX5_isAct_214 rfl (lv_at hl 2 rfl) ?_
        refine vp_callSi (va_runS (As := [.int ba]) (rest := []) ⟨hx, hb, hml, hown, hts⟩ (c_X5_isLane l ba) (va_cwS 1 hts g_X5_isAct_X5_isLane_122 rfl rfl rfl (by decide +kernel) ⟨Nat.le_of_ble_eq_true rfl, Nat.le_of_ble_eq_true rfl⟩) ⟨fun _ _ _ _ q => q, fun _ _ _ => ⟨rfl, trivial⟩⟩ rfl rfl hl.1 rfl (lv_room (Nat.le_of_ble_eq_true rfl)) dX5_isAct_215 ⟨Nat.le_of_ble_eq_true rfl, Nat.le_of_ble_eq_true rfl⟩).run (fun r_48 hw_48 => ?_)
        refine lv_if_eq (tgt := 240) hx hb dX5_isAct_218 (by decide) (fun c_49 => ?_) (fun c_49 => ?_)
        · -- yes
          have k_49 : ¬ (V3 ba) := two_z hw_48 c_49
          refine lv_iconst (v := 0) hx hb dX5_isAct_240 (by decide) ?_
          exact W.zret (v := 0) (ty := .boolean) hx hb hr rfl (fun t ht hW => ⟨0, rfl, (Or.inr ⟨rfl, fun h9 => by have h8 := (okP_9 hk3).mp h9; omega⟩), ht⟩) (by intro q hq; cases hq) dX5_isAct_241
        · -- no
          have k_49 : V3 ba := two_nz hw_48 c_49
          refine lv_iload_n hx hb dX5_isAct_221 rfl (lv_at hl 3 rfl) ?_
          refine vp_callSi (va_runS (As := [.int ca]) (rest := []) ⟨hx, hb, hml, hown, hts⟩ (c_X5_isName l ca) (va_cwS 1 hts g_X5_isAct_X5_isName_115 rfl rfl rfl (by decide +kernel) ⟨Nat.le_of_ble_eq_true rfl, Nat.le_of_ble_eq_true rfl⟩) ⟨fun _ _ _ _ q => q, fun _ _ _ => ⟨rfl, trivial⟩⟩ rfl rfl hl.1 rfl (lv_room (Nat.le_of_ble_eq_true rfl)) dX5_isAct_222 ⟨Nat.le_of_ble_eq_true rfl, Nat.le_of_ble_eq_true rfl⟩).run (fun r_50 hw_50 => ?_)
          refine lv_if_eq (tgt := 240) hx hb dX5_isAct_225 (by decide) (fun c_51 => ?_) (fun c_51 => ?_)
          · -- yes
            have k_51 : ¬ (V6 ca) := two_z hw_50 c_51
            refine lv_iconst (v := 0) hx hb dX5_isAct_240 (by decide) ?_
            exact W.zret (v := 0) (ty := .boolean) hx hb hr rfl (fun t ht hW => ⟨0, rfl, (Or.inr ⟨rfl, fun h9 => by have h8 := (okP_9 hk3).mp h9; omega⟩), ht⟩) (by intro q hq; cases hq) dX5_isAct_241
          · -- no
            have k_51 : V6 ca := two_nz hw_50 c_51
            refine lv_iload hx hb dX5_isAct_228 (lv_at hl 4 rfl) ?_
            refine vp_callSi (va_runS (As := [.int da]) (rest := []) ⟨hx, hb, hml, hown, hts⟩ (c_X5_isName l da) (va_cwS 1 hts g_X5_isAct_X5_isName_115 rfl rfl rfl (by decide +kernel) ⟨Nat.le_of_ble_eq_true rfl, Nat.le_of_ble_eq_true rfl⟩) ⟨fun _ _ _ _ q => q, fun _ _ _ => ⟨rfl, trivial⟩⟩ rfl rfl hl.1 rfl (lv_room (Nat.le_of_ble_eq_true rfl)) dX5_isAct_230 ⟨Nat.le_of_ble_eq_true rfl, Nat.le_of_ble_eq_true rfl⟩).run (fun r_52 hw_52 => ?_)
            refine lv_if_eq (tgt := 240) hx hb dX5_isAct_233 (by decide) (fun c_53 => ?_) (fun c_53 => ?_)
            · -- yes
              have k_53 : ¬ (V6 da) := two_z hw_52 c_53
              refine lv_iconst (v := 0) hx hb dX5_isAct_240 (by decide) ?_
              exact W.zret (v := 0) (ty := .boolean) hx hb hr rfl (fun t ht hW => ⟨0, rfl, (Or.inr ⟨rfl, fun h9 => by have h8 := (okP_9 hk3).mp h9; omega⟩), ht⟩) (by intro q hq; cases hq) dX5_isAct_241
            · -- no
              have k_53 : V6 da := two_nz hw_52 c_53
              refine lv_iconst (v := 1) hx hb dX5_isAct_236 (by decide) ?_
              refine lv_goto (tgt := 241) hx hb dX5_isAct_237 (by decide) ?_
              exact W.zret (v := 1) (ty := .boolean) hx hb hr rfl (fun t ht hW => ⟨1, rfl, (Or.inl ⟨rfl, (okP_9 hk3).mpr (by omega)⟩), ht⟩) (by intro q hq; cases hq) dX5_isAct_241
    · refine lv_tableIn (tgt := 242) (off := 241) hx hb dX5_isAct_1 (by omega) (by omega) (by rw [hk3]; rfl) (by decide) ?_
      refine lv_iload_n hx hb dX5_isAct_242 rfl (lv_at hl 1 rfl) ?_
      refine vp_callSi (va_runS (As := [.int aa]) (rest := []) ⟨hx, hb, hml, hown, hts⟩ (c_X5_isName l aa) (va_cwS 1 hts g_X5_isAct_X5_isName_115 rfl rfl rfl (by decide +kernel) ⟨Nat.le_of_ble_eq_true rfl, Nat.le_of_ble_eq_true rfl⟩) ⟨fun _ _ _ _ q => q, fun _ _ _ => ⟨rfl, trivial⟩⟩ rfl rfl hl.1 rfl (lv_room (Nat.le_of_ble_eq_true rfl)) dX5_isAct_243 ⟨Nat.le_of_ble_eq_true rfl, Nat.le_of_ble_eq_true rfl⟩).run (fun r_54 hw_54 => ?_)
      refine lv_if_eq (tgt := 275) hx hb dX5_isAct_246 (by decide) (fun c_55 => ?_) (fun c_55 => ?_)
      · -- yes
        have k_55 : ¬ (V6 aa) := two_z hw_54 c_55
        refine lv_iconst (v := 0) hx hb dX5_isAct_275 (by decide) ?_
        exact W.zret (v := 0) (ty := .boolean) hx hb hr rfl (fun t ht hW => ⟨0, rfl, (Or.inr ⟨rfl, fun h9 => by have h8 := (okP_10 hk3).mp h9; omega⟩), ht⟩) (by intro q hq; cases hq) dX5_isAct_276
      · -- no
        have k_55 : V6 aa := two_nz hw_54 c_55
        refine lv_iload_n hx hb dX5_isAct_249 rfl (lv_at hl 2 rfl) ?_
        refine vp_callSi (va_runS (As := [.int ba]) (rest := []) ⟨hx, hb, hml, hown, hts⟩ (c_X5_isName l ba) (va_cwS 1 hts g_X5_isAct_X5_isName_115 rfl rfl rfl (by decide +kernel) ⟨Nat.le_of_ble_eq_true rfl, Nat.le_of_ble_eq_true rfl⟩) ⟨fun _ _ _ _ q => q, fun _ _ _ => ⟨rfl, trivial⟩⟩ rfl rfl hl.1 rfl (lv_room (Nat.le_of_ble_eq_true rfl)) dX5_isAct_250 ⟨Nat.le_of_ble_eq_true rfl, Nat.le_of_ble_eq_true rfl⟩).run (fun r_56 hw_56 => ?_)
        refine lv_if_eq (tgt := 275) hx hb dX5_isAct_253 (by decide) (fun c_57 => ?_) (fun c_57 => ?_)
        · -- yes
          have k_57 : ¬ (V6 ba) := two_z hw_56 c_57
          refine lv_iconst (v := 0) hx hb dX5_isAct_275 (by decide) ?_
          exact W.zret (v := 0) (ty := .boolean) hx hb hr rfl (fun t ht hW => ⟨0, rfl, (Or.inr ⟨rfl, fun h9 => by have h8 := (okP_10 hk3).mp h9; omega⟩), ht⟩) (by intro q hq; cases hq) dX5_isAct_276
        · -- no
          have k_57 : V6 ba := two_nz hw_56 c_57
          refine lv_iload_n hx hb dX5_isAct_256 rfl (lv_at hl 3 rfl) ?_
          refine vp_callSi (va_runS (As := [.int ca]) (rest := []) ⟨hx, hb, hml, hown, hts⟩ (c_X5_isLane l ca) (va_cwS 1 hts g_X5_isAct_X5_isLane_122 rfl rfl rfl (by decide +kernel) ⟨Nat.le_of_ble_eq_true rfl, Nat.le_of_ble_eq_true rfl⟩) ⟨fun _ _ _ _ q => q, fun _ _ _ => ⟨rfl, trivial⟩⟩ rfl rfl hl.1 rfl (lv_room (Nat.le_of_ble_eq_true rfl)) dX5_isAct_257 ⟨Nat.le_of_ble_eq_true rfl, Nat.le_of_ble_eq_true rfl⟩).run (fun r_58 hw_58 => ?_)
          refine lv_if_eq (tgt := 275) hx hb dX5_isAct_260 (by decide) (fun c_59 => ?_) (fun c_59 => ?_)
          · -- yes
            have k_59 : ¬ (V3 ca) := two_z hw_58 c_59
            refine lv_iconst (v := 0) hx hb dX5_isAct_275 (by decide) ?_
            exact W.zret (v := 0) (ty := .boolean) hx hb hr rfl (fun t ht hW => ⟨0, rfl, (Or.inr ⟨rfl, fun h9 => by have h8 := (okP_10 hk3).mp h9; omega⟩), ht⟩) (by intro q hq; cases hq) dX5_isAct_276
          · -- no
            have k_59 : V3 ca := two_nz hw_58 c_59
            refine lv_iload hx hb dX5_isAct_263 (lv_at hl 4 rfl) ?_
            refine vp_callSi (va_runS (As := [.int da]) (rest := []) ⟨hx, hb, hml, hown, hts⟩ (c_X5_isName l da) (va_cwS 1 hts g_X5_isAct_X5_isName_115 rfl rfl rfl (by decide +kernel) ⟨Nat.le_of_ble_eq_true rfl, Nat.le_of_ble_eq_true rfl⟩) ⟨fun _ _ _ _ q => q, fun _ _ _ => ⟨rfl, trivial⟩⟩ rfl rfl hl.1 rfl (lv_room (Nat.le_of_ble_eq_true rfl)) dX5_isAct_265 ⟨Nat.le_of_ble_eq_true rfl, Nat.le_of_ble_eq_true rfl⟩).run (fun r_60 hw_60 => ?_)
            refine lv_if_eq (tgt := 275) hx hb dX5_isAct_268 (by decide) (fun c_61 => ?_) (fun c_61 => ?_)
            · -- yes
              have k_61 : ¬ (V6 da) := two_z hw_60 c_61
              refine lv_iconst (v := 0) hx hb dX5_isAct_275 (by decide) ?_
              exact W.zret (v := 0) (ty := .boolean) hx hb hr rfl (fun t ht hW => ⟨0, rfl, (Or.inr ⟨rfl, fun h9 => by have h8 := (okP_10 hk3).mp h9; omega⟩), ht⟩) (by intro q hq; cases hq) dX5_isAct_276
            · -- no
              have k_61 : V6 da := two_nz hw_60 c_61
              refine lv_iconst (v := 1) hx hb dX5_isAct_271 (by decide) ?_
              refine lv_goto (tgt := 276) hx hb dX5_isAct_272 (by decide) ?_
              exact W.zret (v := 1) (ty := .boolean) hx hb hr rfl (fun t ht hW => ⟨1, rfl, (Or.inl ⟨rfl, (okP_10 hk3).mpr (by omega)⟩), ht⟩) (by intro q hq; cases hq) dX5_isAct_276
    · refine lv_tableIn (tgt := 277) (off := 276) hx hb dX5_isAct_1 (by omega) (by omega) (by rw [hk3]; rfl) (by decide) ?_
      refine lv_iload_n hx hb dX5_isAct_277 rfl (lv_at hl 1 rfl) ?_
      refine vp_callSi (va_runS (As := [.int aa]) (rest := []) ⟨hx, hb, hml, hown, hts⟩ (c_X5_isName l aa) (va_cwS 1 hts g_X5_isAct_X5_isName_115 rfl rfl rfl (by decide +kernel) ⟨Nat.le_of_ble_eq_true rfl, Nat.le_of_ble_eq_true rfl⟩) ⟨fun _ _ _ _ q => q, fun _ _ _ => ⟨rfl, trivial⟩⟩ rfl rfl hl.1 rfl (lv_room (Nat.le_of_ble_eq_true rfl)) dX5_isAct_278 ⟨Nat.le_of_ble_eq_true rfl, Nat.le_of_ble_eq_true rfl⟩).run (fun r_62 hw_62 => ?_)
      refine lv_if_eq (tgt := 318) hx hb dX5_isAct_281 (by decide) (fun c_63 => ?_) (fun c_63 => ?_)
      · -- yes
        have k_63 : ¬ (V6 aa) := two_z hw_62 c_63
        refine lv_iconst (v := 0) hx hb dX5_isAct_318 (by decide) ?_
        exact W.zret (v := 0) (ty := .boolean) hx hb hr rfl (fun t ht hW => ⟨0, rfl, (Or.inr ⟨rfl, fun h9 => by have h8 := (okP_11 hk3).mp h9; omega⟩), ht⟩) (by intro q hq; cases hq) dX5_isAct_319
      · -- no
        have k_63 : V6 aa := two_nz hw_62 c_63
        refine lv_iload_n hx hb dX5_isAct_284 rfl (lv_at hl 2 rfl) ?_
        refine vp_callSi (va_runS (As := [.int ba]) (rest := []) ⟨hx, hb, hml, hown, hts⟩ (c_X5_isName l ba) (va_cwS 1 hts g_X5_isAct_X5_isName_115 rfl rfl rfl (by decide +kernel) ⟨Nat.le_of_ble_eq_true rfl, Nat.le_of_ble_eq_true rfl⟩) ⟨fun _ _ _ _ q => q, fun _ _ _ => ⟨rfl, trivial⟩⟩ rfl rfl hl.1 rfl (lv_room (Nat.le_of_ble_eq_true rfl)) dX5_isAct_285 ⟨Nat.le_of_ble_eq_true rfl, Nat.le_of_ble_eq_true rfl⟩).run (fun r_64 hw_64 => ?_)
        refine lv_if_eq (tgt := 318) hx hb dX5_isAct_288 (by decide) (fun c_65 => ?_) (fun c_65 => ?_)
        · -- yes
          have k_65 : ¬ (V6 ba) := two_z hw_64 c_65
          refine lv_iconst (v := 0) hx hb dX5_isAct_318 (by decide) ?_
          exact W.zret (v := 0) (ty := .boolean) hx hb hr rfl (fun t ht hW => ⟨0, rfl, (Or.inr ⟨rfl, fun h9 => by have h8 := (okP_11 hk3).mp h9; omega⟩), ht⟩) (by intro q hq; cases hq) dX5_isAct_319
        · -- no
          have k_65 : V6 ba := two_nz hw_64 c_65
          refine lv_iload_n hx hb dX5_isAct_291 rfl (lv_at hl 3 rfl) ?_
          refine vp_callSi (va_runS (As := [.int ca]) (rest := []) ⟨hx, hb, hml, hown, hts⟩ (c_X5_isName l ca) (va_cwS 1 hts g_X5_isAct_X5_isName_115 rfl rfl rfl (by decide +kernel) ⟨Nat.le_of_ble_eq_true rfl, Nat.le_of_ble_eq_true rfl⟩) ⟨fun _ _ _ _ q => q, fun _ _ _ => ⟨rfl, trivial⟩⟩ rfl rfl hl.1 rfl (lv_room (Nat.le_of_ble_eq_true rfl)) dX5_isAct_292 ⟨Nat.le_of_ble_eq_true rfl, Nat.le_of_ble_eq_true rfl⟩).run (fun r_66 hw_66 => ?_)
          refine lv_if_eq (tgt := 318) hx hb dX5_isAct_295 (by decide) (fun c_67 => ?_) (fun c_67 => ?_)
          · -- yes
            have k_67 : ¬ (V6 ca) := two_z hw_66 c_67
            refine lv_iconst (v := 0) hx hb dX5_isAct_318 (by decide) ?_
            exact W.zret (v := 0) (ty := .boolean) hx hb hr rfl (fun t ht hW => ⟨0, rfl, (Or.inr ⟨rfl, fun h9 => by have h8 := (okP_11 hk3).mp h9; omega⟩), ht⟩) (by intro q hq; cases hq) dX5_isAct_319
          · -- no
            have k_67 : V6 ca := two_nz hw_66 c_67
            refine lv_iload hx hb dX5_isAct_298 (lv_at hl 4 rfl) ?_
            refine vp_callSi (va_runS (As := [.int da]) (rest := []) ⟨hx, hb, hml, hown, hts⟩ (c_X5_isName l da) (va_cwS 1 hts g_X5_isAct_X5_isName_115 rfl rfl rfl (by decide +kernel) ⟨Nat.le_of_ble_eq_true rfl, Nat.le_of_ble_eq_true rfl⟩) ⟨fun _ _ _ _ q => q, fun _ _ _ => ⟨rfl, trivial⟩⟩ rfl rfl hl.1 rfl (lv_room (Nat.le_of_ble_eq_true rfl)) dX5_isAct_300 ⟨Nat.le_of_ble_eq_true rfl, Nat.le_of_ble_eq_true rfl⟩).run (fun r_68 hw_68 => ?_)
            refine lv_if_eq (tgt := 318) hx hb dX5_isAct_303 (by decide) (fun c_69 => ?_) (fun c_69 => ?_)
            · -- yes
              have k_69 : ¬ (V6 da) := two_z hw_68 c_69
              refine lv_iconst (v := 0) hx hb dX5_isAct_318 (by decide) ?_
              exact W.zret (v := 0) (ty := .boolean) hx hb hr rfl (fun t ht hW => ⟨0, rfl, (Or.inr ⟨rfl, fun h9 => by have h8 := (okP_11 hk3).mp h9; omega⟩), ht⟩) (by intro q hq; cases hq) dX5_isAct_319
            · -- no
              have k_69 : V6 da := two_nz hw_68 c_69
              refine lv_iload hx hb dX5_isAct_306 (lv_at hl 5 rfl) ?_
              refine vp_callSi (va_runS (As := [.int ea]) (rest := []) ⟨hx, hb, hml, hown, hts⟩ (c_X5_isName l ea) (va_cwS 1 hts g_X5_isAct_X5_isName_115 rfl rfl rfl (by decide +kernel) ⟨Nat.le_of_ble_eq_true rfl, Nat.le_of_ble_eq_true rfl⟩) ⟨fun _ _ _ _ q => q, fun _ _ _ => ⟨rfl, trivial⟩⟩ rfl rfl hl.1 rfl (lv_room (Nat.le_of_ble_eq_true rfl)) dX5_isAct_308 ⟨Nat.le_of_ble_eq_true rfl, Nat.le_of_ble_eq_true rfl⟩).run (fun r_70 hw_70 => ?_)
              refine lv_if_eq (tgt := 318) hx hb dX5_isAct_311 (by decide) (fun c_71 => ?_) (fun c_71 => ?_)
              · -- yes
                have k_71 : ¬ (V6 ea) := two_z hw_70 c_71
                refine lv_iconst (v := 0) hx hb dX5_isAct_318 (by decide) ?_
                exact W.zret (v := 0) (ty := .boolean) hx hb hr rfl (fun t ht hW => ⟨0, rfl, (Or.inr ⟨rfl, fun h9 => by have h8 := (okP_11 hk3).mp h9; omega⟩), ht⟩) (by intro q hq; cases hq) dX5_isAct_319
              · -- no
                have k_71 : V6 ea := two_nz hw_70 c_71
                refine lv_iconst (v := 1) hx hb dX5_isAct_314 (by decide) ?_
                refine lv_goto (tgt := 319) hx hb dX5_isAct_315 (by decide) ?_
                exact W.zret (v := 1) (ty := .boolean) hx hb hr rfl (fun t ht hW => ⟨1, rfl, (Or.inl ⟨rfl, (okP_11 hk3).mpr (by omega)⟩), ht⟩) (by intro q hq; cases hq) dX5_isAct_319
    · refine lv_tableIn (tgt := 320) (off := 319) hx hb dX5_isAct_1 (by omega) (by omega) (by rw [hk3]; rfl) (by decide) ?_
      refine lv_iload_n hx hb dX5_isAct_320 rfl (lv_at hl 1 rfl) ?_
      refine vp_callSi (va_runS (As := [.int aa]) (rest := []) ⟨hx, hb, hml, hown, hts⟩ (c_X5_isName l aa) (va_cwS 1 hts g_X5_isAct_X5_isName_115 rfl rfl rfl (by decide +kernel) ⟨Nat.le_of_ble_eq_true rfl, Nat.le_of_ble_eq_true rfl⟩) ⟨fun _ _ _ _ q => q, fun _ _ _ => ⟨rfl, trivial⟩⟩ rfl rfl hl.1 rfl (lv_room (Nat.le_of_ble_eq_true rfl)) dX5_isAct_321 ⟨Nat.le_of_ble_eq_true rfl, Nat.le_of_ble_eq_true rfl⟩).run (fun r_72 hw_72 => ?_)
      refine lv_if_eq (tgt := 361) hx hb dX5_isAct_324 (by decide) (fun c_73 => ?_) (fun c_73 => ?_)
      · -- yes
        have k_73 : ¬ (V6 aa) := two_z hw_72 c_73
        refine lv_iconst (v := 0) hx hb dX5_isAct_361 (by decide) ?_
        exact W.zret (v := 0) (ty := .boolean) hx hb hr rfl (fun t ht hW => ⟨0, rfl, (Or.inr ⟨rfl, fun h9 => by have h8 := (okP_12 hk3).mp h9; omega⟩), ht⟩) (by intro q hq; cases hq) dX5_isAct_362
      · -- no
        have k_73 : V6 aa := two_nz hw_72 c_73
        refine lv_iload_n hx hb dX5_isAct_327 rfl (lv_at hl 2 rfl) ?_
        refine vp_callSi (va_runS (As := [.int ba]) (rest := []) ⟨hx, hb, hml, hown, hts⟩ (c_X5_isLane l ba) (va_cwS 1 hts g_X5_isAct_X5_isLane_122 rfl rfl rfl (by decide +kernel) ⟨Nat.le_of_ble_eq_true rfl, Nat.le_of_ble_eq_true rfl⟩) ⟨fun _ _ _ _ q => q, fun _ _ _ => ⟨rfl, trivial⟩⟩ rfl rfl hl.1 rfl (lv_room (Nat.le_of_ble_eq_true rfl)) dX5_isAct_328 ⟨Nat.le_of_ble_eq_true rfl, Nat.le_of_ble_eq_true rfl⟩).run (fun r_74 hw_74 => ?_)
        refine lv_if_eq (tgt := 361) hx hb dX5_isAct_331 (by decide) (fun c_75 => ?_) (fun c_75 => ?_)
        · -- yes
          have k_75 : ¬ (V3 ba) := two_z hw_74 c_75
          refine lv_iconst (v := 0) hx hb dX5_isAct_361 (by decide) ?_
          exact W.zret (v := 0) (ty := .boolean) hx hb hr rfl (fun t ht hW => ⟨0, rfl, (Or.inr ⟨rfl, fun h9 => by have h8 := (okP_12 hk3).mp h9; omega⟩), ht⟩) (by intro q hq; cases hq) dX5_isAct_362
        · -- no
          have k_75 : V3 ba := two_nz hw_74 c_75
          refine lv_iload_n hx hb dX5_isAct_334 rfl (lv_at hl 3 rfl) ?_
          refine vp_callSi (va_runS (As := [.int ca]) (rest := []) ⟨hx, hb, hml, hown, hts⟩ (c_X5_isName l ca) (va_cwS 1 hts g_X5_isAct_X5_isName_115 rfl rfl rfl (by decide +kernel) ⟨Nat.le_of_ble_eq_true rfl, Nat.le_of_ble_eq_true rfl⟩) ⟨fun _ _ _ _ q => q, fun _ _ _ => ⟨rfl, trivial⟩⟩ rfl rfl hl.1 rfl (lv_room (Nat.le_of_ble_eq_true rfl)) dX5_isAct_335 ⟨Nat.le_of_ble_eq_true rfl, Nat.le_of_ble_eq_true rfl⟩).run (fun r_76 hw_76 => ?_)
          refine lv_if_eq (tgt := 361) hx hb dX5_isAct_338 (by decide) (fun c_77 => ?_) (fun c_77 => ?_)
          · -- yes
            have k_77 : ¬ (V6 ca) := two_z hw_76 c_77
            refine lv_iconst (v := 0) hx hb dX5_isAct_361 (by decide) ?_
            exact W.zret (v := 0) (ty := .boolean) hx hb hr rfl (fun t ht hW => ⟨0, rfl, (Or.inr ⟨rfl, fun h9 => by have h8 := (okP_12 hk3).mp h9; omega⟩), ht⟩) (by intro q hq; cases hq) dX5_isAct_362
          · -- no
            have k_77 : V6 ca := two_nz hw_76 c_77
            refine lv_iload hx hb dX5_isAct_341 (lv_at hl 4 rfl) ?_
            refine vp_callSi (va_runS (As := [.int da]) (rest := []) ⟨hx, hb, hml, hown, hts⟩ (c_X5_isName l da) (va_cwS 1 hts g_X5_isAct_X5_isName_115 rfl rfl rfl (by decide +kernel) ⟨Nat.le_of_ble_eq_true rfl, Nat.le_of_ble_eq_true rfl⟩) ⟨fun _ _ _ _ q => q, fun _ _ _ => ⟨rfl, trivial⟩⟩ rfl rfl hl.1 rfl (lv_room (Nat.le_of_ble_eq_true rfl)) dX5_isAct_343 ⟨Nat.le_of_ble_eq_true rfl, Nat.le_of_ble_eq_true rfl⟩).run (fun r_78 hw_78 => ?_)
            refine lv_if_eq (tgt := 361) hx hb dX5_isAct_346 (by decide) (fun c_79 => ?_) (fun c_79 => ?_)
            · -- yes
              have k_79 : ¬ (V6 da) := two_z hw_78 c_79
              refine lv_iconst (v := 0) hx hb dX5_isAct_361 (by decide) ?_
              exact W.zret (v := 0) (ty := .boolean) hx hb hr rfl (fun t ht hW => ⟨0, rfl, (Or.inr ⟨rfl, fun h9 => by have h8 := (okP_12 hk3).mp h9; omega⟩), ht⟩) (by intro q hq; cases hq) dX5_isAct_362
            · -- no
              have k_79 : V6 da := two_nz hw_78 c_79
              refine lv_iload hx hb dX5_isAct_349 (lv_at hl 5 rfl) ?_
              refine vp_callSi (va_runS (As := [.int ea]) (rest := []) ⟨hx, hb, hml, hown, hts⟩ (c_X5_isName l ea) (va_cwS 1 hts g_X5_isAct_X5_isName_115 rfl rfl rfl (by decide +kernel) ⟨Nat.le_of_ble_eq_true rfl, Nat.le_of_ble_eq_true rfl⟩) ⟨fun _ _ _ _ q => q, fun _ _ _ => ⟨rfl, trivial⟩⟩ rfl rfl hl.1 rfl (lv_room (Nat.le_of_ble_eq_true rfl)) dX5_isAct_351 ⟨Nat.le_of_ble_eq_true rfl, Nat.le_of_ble_eq_true rfl⟩).run (fun r_80 hw_80 => ?_)
              refine lv_if_eq (tgt := 361) hx hb dX5_isAct_354 (by decide) (fun c_81 => ?_) (fun c_81 => ?_)
              · -- yes
                have k_81 : ¬ (V6 ea) := two_z hw_80 c_81
                refine lv_iconst (v := 0) hx hb dX5_isAct_361 (by decide) ?_
                exact W.zret (v := 0) (ty := .boolean) hx hb hr rfl (fun t ht hW => ⟨0, rfl, (Or.inr ⟨rfl, fun h9 => by have h8 := (okP_12 hk3).mp h9; omega⟩), ht⟩) (by intro q hq; cases hq) dX5_isAct_362
              · -- no
                have k_81 : V6 ea := two_nz hw_80 c_81
                refine lv_iconst (v := 1) hx hb dX5_isAct_357 (by decide) ?_
                refine lv_goto (tgt := 362) hx hb dX5_isAct_358 (by decide) ?_
                exact W.zret (v := 1) (ty := .boolean) hx hb hr rfl (fun t ht hW => ⟨1, rfl, (Or.inl ⟨rfl, (okP_12 hk3).mpr (by omega)⟩), ht⟩) (by intro q hq; cases hq) dX5_isAct_362
    · refine lv_tableIn (tgt := 187) (off := 186) hx hb dX5_isAct_1 (by omega) (by omega) (by rw [hk3]; rfl) (by decide) ?_
      refine lv_iload_n hx hb dX5_isAct_187 rfl (lv_at hl 1 rfl) ?_
      refine vp_callSi (va_runS (As := [.int aa]) (rest := []) ⟨hx, hb, hml, hown, hts⟩ (c_X5_isName l aa) (va_cwS 1 hts g_X5_isAct_X5_isName_115 rfl rfl rfl (by decide +kernel) ⟨Nat.le_of_ble_eq_true rfl, Nat.le_of_ble_eq_true rfl⟩) ⟨fun _ _ _ _ q => q, fun _ _ _ => ⟨rfl, trivial⟩⟩ rfl rfl hl.1 rfl (lv_room (Nat.le_of_ble_eq_true rfl)) dX5_isAct_188 ⟨Nat.le_of_ble_eq_true rfl, Nat.le_of_ble_eq_true rfl⟩).run (fun r_82 hw_82 => ?_)
      refine lv_if_eq (tgt := 205) hx hb dX5_isAct_191 (by decide) (fun c_83 => ?_) (fun c_83 => ?_)
      · -- yes
        have k_83 : ¬ (V6 aa) := two_z hw_82 c_83
        refine lv_iconst (v := 0) hx hb dX5_isAct_205 (by decide) ?_
        exact W.zret (v := 0) (ty := .boolean) hx hb hr rfl (fun t ht hW => ⟨0, rfl, (Or.inr ⟨rfl, fun h9 => by have h8 := (okP_13 hk3).mp h9; omega⟩), ht⟩) (by intro q hq; cases hq) dX5_isAct_206
      · -- no
        have k_83 : V6 aa := two_nz hw_82 c_83
        refine lv_iload_n hx hb dX5_isAct_194 rfl (lv_at hl 2 rfl) ?_
        refine vp_callSi (va_runS (As := [.int ba]) (rest := []) ⟨hx, hb, hml, hown, hts⟩ (c_X5_isName l ba) (va_cwS 1 hts g_X5_isAct_X5_isName_115 rfl rfl rfl (by decide +kernel) ⟨Nat.le_of_ble_eq_true rfl, Nat.le_of_ble_eq_true rfl⟩) ⟨fun _ _ _ _ q => q, fun _ _ _ => ⟨rfl, trivial⟩⟩ rfl rfl hl.1 rfl (lv_room (Nat.le_of_ble_eq_true rfl)) dX5_isAct_195 ⟨Nat.le_of_ble_eq_true rfl, Nat.le_of_ble_eq_true rfl⟩).run (fun r_84 hw_84 => ?_)
        refine lv_if_eq (tgt := 205) hx hb dX5_isAct_198 (by decide) (fun c_85 => ?_) (fun c_85 => ?_)
        · -- yes
          have k_85 : ¬ (V6 ba) := two_z hw_84 c_85
          refine lv_iconst (v := 0) hx hb dX5_isAct_205 (by decide) ?_
          exact W.zret (v := 0) (ty := .boolean) hx hb hr rfl (fun t ht hW => ⟨0, rfl, (Or.inr ⟨rfl, fun h9 => by have h8 := (okP_13 hk3).mp h9; omega⟩), ht⟩) (by intro q hq; cases hq) dX5_isAct_206
        · -- no
          have k_85 : V6 ba := two_nz hw_84 c_85
          refine lv_iconst (v := 1) hx hb dX5_isAct_201 (by decide) ?_
          refine lv_goto (tgt := 206) hx hb dX5_isAct_202 (by decide) ?_
          exact W.zret (v := 1) (ty := .boolean) hx hb hr rfl (fun t ht hW => ⟨1, rfl, (Or.inl ⟨rfl, (okP_13 hk3).mpr (by omega)⟩), ht⟩) (by intro q hq; cases hq) dX5_isAct_206
    · refine lv_tableIn (tgt := 363) (off := 362) hx hb dX5_isAct_1 (by omega) (by omega) (by rw [hk3]; rfl) (by decide) ?_
      refine lv_iload_n hx hb dX5_isAct_363 rfl (lv_at hl 2 rfl) ?_
      refine lv_iconst (v := 1) hx hb dX5_isAct_364 (by decide) ?_
      refine lv_icmp_lt (tgt := 378) hx hb dX5_isAct_365 (by decide) (fun c_86 => ?_) (fun c_86 => ?_)
      · -- yes
        have k_86 : (ba.toInt : Int) < (1 : Int) := by first | exact lt_i c_86 | simpa using lt_i c_86
        refine lv_iconst (v := 0) hx hb dX5_isAct_378 (by decide) ?_
        exact W.zret (v := 0) (ty := .boolean) hx hb hr rfl (fun t ht hW => ⟨0, rfl, (Or.inr ⟨rfl, fun h9 => by have h8 := (okP_14 hk3).mp h9; omega⟩), ht⟩) (by intro q hq; cases hq) dX5_isAct_379
      · -- no
        have k_86 : (1 : Int) ≤ (ba.toInt : Int) := by first | exact nlt_i c_86 | simpa using nlt_i c_86
        refine lv_iload_n hx hb dX5_isAct_368 rfl (lv_at hl 2 rfl) ?_
        refine lv_bipush (v := 10) hx hb dX5_isAct_369 (by decide) ?_
        refine lv_icmp_gt (tgt := 378) hx hb dX5_isAct_371 (by decide) (fun c_87 => ?_) (fun c_87 => ?_)
        · -- yes
          have k_87 : (10 : Int) < (ba.toInt : Int) := by first | exact lt_i c_87 | simpa using lt_i c_87
          refine lv_iconst (v := 0) hx hb dX5_isAct_378 (by decide) ?_
          exact W.zret (v := 0) (ty := .boolean) hx hb hr rfl (fun t ht hW => ⟨0, rfl, (Or.inr ⟨rfl, fun h9 => by have h8 := (okP_14 hk3).mp h9; omega⟩), ht⟩) (by intro q hq; cases hq) dX5_isAct_379
        · -- no
          have k_87 : (ba.toInt : Int) ≤ (10 : Int) := by first | exact nlt_i c_87 | simpa using nlt_i c_87
          refine lv_iconst (v := 1) hx hb dX5_isAct_374 (by decide) ?_
          refine lv_goto (tgt := 379) hx hb dX5_isAct_375 (by decide) ?_
          exact W.zret (v := 1) (ty := .boolean) hx hb hr rfl (fun t ht hW => ⟨1, rfl, (Or.inl ⟨rfl, (okP_14 hk3).mpr (by omega)⟩), ht⟩) (by intro q hq; cases hq) dX5_isAct_379
