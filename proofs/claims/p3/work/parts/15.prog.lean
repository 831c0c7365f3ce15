def v_X3_hasAct : List Cond := .code yX3_hasAct cX3_hasAct 2 (some .boolean) :: ([.fieldLink RX3 19 "ArraySegments$Program" "count" "I"] ++ (wsX30))
theorem inv_X3_hasAct_X3 : ∀ w ∈ wsX30, w ∈ v_X3_hasAct := fun _ h => List.mem_cons_of_mem _ (List.mem_append_right _ (h))
set_option maxRecDepth 20000 in
theorem gd_X3_hasAct : gdL v_X3_hasAct := gdC (gdW (by decide +kernel)) (gdA (gdW (by decide +kernel)) gd_wsX30)
abbrev sw_X3_hasAct (cI cJ cZ : ClassId) (ph : Nat) (p_rows : Value) (p_dropped : Value) (p_count : Int32) (ia : Int32) : va_W := [(ph, .inr (3, [p_rows, p_dropped, .int p_count]))]
set_option maxHeartbeats 8000000 in
set_option maxRecDepth 100000 in
theorem s_X3_hasAct (l : Launch) (dC : Nat → ClassId) (dI : Nat → Nat → Nat) (cI cJ cZ : ClassId) (ph : Nat) (p_rows : Value) (p_dropped : Value) (p_count : Int32) (ia : Int32) (sz : Nat) (hy_count : 0 ≤ p_count.toInt ∧ p_count.toInt ≤ 40) : Met l yX3_hasAct v_X3_hasAct ({ frames := 0, cells := 0, slots := 0, locals := 0 }) (va_Pc [.ref ph, .int ia] (cPre dC dI cI cJ cZ sz (sw_X3_hasAct cI cJ cZ ph p_rows p_dropped p_count ia))) (va_Qi (fun (r : Int32) (u : Unit) => (two r (0 ≤ ia.toInt ∧ ia.toInt < p_count.toInt) 1 0)) (fun (u : Unit) => cPost dC dI cI cJ cZ (va_A (sw_X3_hasAct cI cJ cZ ph p_rows p_dropped p_count ia) sz) [(ph, .inr (3, [p_rows, p_dropped, .int p_count]))]) (va_A (sw_X3_hasAct cI cJ cZ ph p_rows p_dropped p_count ia) sz)) 0 0 (va_A (sw_X3_hasAct cI cJ cZ ph p_rows p_dropped p_count ia) sz) := by
  refine Met.ofW (cc := cX3_hasAct) (maxL := 2) (ret := (some .boolean)) (by decide) rfl ?_
  intro p e s m args below meth c s₁ B hml hv
  obtain ⟨rfl, hsz, hP, hK, hD0, hN⟩ := hv
  have hx := B.exec
  have hb := B.bytes
  have hr := B.returns
  have hts := atoms_spec (ws := v_X3_hasAct) B.pre
  have hown : s.vm.findClass RX3 = some m.cls := findClass_of_methodNamed B.named
  have hlocks := B.notSynchronized
  subst hsz
  have hD := hD0.self (sz := s.heap.size)
  generalize hAe : va_A (sw_X3_hasAct cI cJ cZ ph p_rows p_dropped p_count ia) s.heap.size = A at hD ⊢
  have hA : ∀ q : Nat, s.heap.size ≤ q → A q := fun q h => by rw [← hAe]; exact Or.inr h
  clear hAe hD0
  have hS : va_S A s.heap s.heap [] := va_S.rf
  replace hP : va_P (dC, dI) vwCl [(ph, .inr (3, [p_rows, p_dropped, .int p_count]))] s.heap := hP
  replace hD : va_D A [(ph, .inr (3, [p_rows, p_dropped, .int p_count]))] := hD
  have hl := lv_entry ([.ref ph, .int ia]) (n := 2) (Nat.le_of_ble_eq_true rfl)
  rw [lg_entry_eq]
  generalize (lg_sl ([.ref ph, .int ia]) ++ List.replicate (2 - (lg_sl ([.ref ph, .int ia])).length) Slot.unset).toArray = ls at hl ⊢
  replace hl : lv_has ls 2 [(0, .ref ph), (1, .int ia)] := hl
  have z_0 : (0 : Int32).toInt = 0 := by decide
  have z_1 : (1 : Int32).toInt = 1 := by decide
  have z_40 : (40 : Int32).toInt = 40 := by decide
  refine lv_iload_n hx hb dX3_hasAct_0 rfl (lv_at hl 1 rfl) ?_
  refine lv_if_lt (tgt := 22) hx hb dX3_hasAct_1 (by decide) (fun c_1 => ?_) (fun c_1 => ?_)
  · -- yes
    have k_1 : ia.toInt < (0 : Int32).toInt := ci_lt c_1
    refine lv_iconst (v := 0) hx hb dX3_hasAct_22 (by decide) ?_
    have hP9 := hP.sub (ws' := [(ph, .inr (3, [p_rows, p_dropped, .int p_count]))]) [0] rfl
    have hD9 := hD.sub (ws' := [(ph, .inr (3, [p_rows, p_dropped, .int p_count]))]) [0] (by decide) rfl
    exact W.zret (v := 0) (ty := .boolean) hx hb hr rfl (fun t ht hW => ⟨⟨0, (), rfl, (show two (0 : Int32) (0 ≤ ia.toInt ∧ ia.toInt < p_count.toInt) 1 0 from (by first | (refine Or.inl ⟨rfl, ?_⟩; omega) | (refine Or.inr ⟨rfl, ?_⟩; omega))), by rw [ht]; exact hP9, va_K.moved hW.alike hK, hD9⟩, hS.F ht⟩) hS.2.2 dX3_hasAct_23
  · -- no
    have k_1 : (0 : Int32).toInt ≤ ia.toInt := ci_nlt c_1
    refine lv_iload_n hx hb dX3_hasAct_4 rfl (lv_at hl 1 rfl) ?_
    refine lv_aload_n hx hb dX3_hasAct_5 rfl (lv_at hl 0 rfl) ?_
    refine va_get (D := (dC, dI)) (ci := 3) (v := .int p_count) (C := RX3) (T := TX3) (N := 3) hx hb hts inv_X3_hasAct_X3 hown hK hP 0 rfl rfl 2 (by decide) (hts (.fieldLink RX3 19 "ArraySegments$Program" "count" "I") (List.mem_of_getElem? (i := 1) rfl)) (fun _ h9 => h9) rfl dX3_hasAct_6 ?_
    refine lv_icmp_ge (tgt := 22) hx hb dX3_hasAct_9 (by decide) (fun c_2 => ?_) (fun c_2 => ?_)
    · -- yes
      have k_2 : p_count.toInt ≤ ia.toInt := ci_ge c_2
      refine lv_iconst (v := 0) hx hb dX3_hasAct_22 (by decide) ?_
      have hP9 := hP.sub (ws' := [(ph, .inr (3, [p_rows, p_dropped, .int p_count]))]) [0] rfl
      have hD9 := hD.sub (ws' := [(ph, .inr (3, [p_rows, p_dropped, .int p_count]))]) [0] (by decide) rfl
      exact W.zret (v := 0) (ty := .boolean) hx hb hr rfl (fun t ht hW => ⟨⟨0, (), rfl, (show two (0 : Int32) (0 ≤ ia.toInt ∧ ia.toInt < p_count.toInt) 1 0 from (by first | (refine Or.inl ⟨rfl, ?_⟩; omega) | (refine Or.inr ⟨rfl, ?_⟩; omega))), by rw [ht]; exact hP9, va_K.moved hW.alike hK, hD9⟩, hS.F ht⟩) hS.2.2 dX3_hasAct_23
    · -- no
      have k_2 : ia.toInt < p_count.toInt := ci_nge c_2
      refine lv_iload_n hx hb dX3_hasAct_12 rfl (lv_at hl 1 rfl) ?_
      refine lv_bipush (v := 40) hx hb dX3_hasAct_13 (by decide) ?_
      refine lv_icmp_ge (tgt := 22) hx hb dX3_hasAct_15 (by decide) (fun c_3 => ?_) (fun c_3 => ?_)
      · -- yes
        have k_3 : (40 : Int32).toInt ≤ ia.toInt := ci_ge c_3
        exfalso; omega
      · -- no
        have k_3 : ia.toInt < (40 : Int32).toInt := ci_nge c_3
        refine lv_iconst (v := 1) hx hb dX3_hasAct_18 (by decide) ?_
        refine lv_goto (tgt := 23) hx hb dX3_hasAct_19 (by decide) ?_
        have hP9 := hP.sub (ws' := [(ph, .inr (3, [p_rows, p_dropped, .int p_count]))]) [0] rfl
        have hD9 := hD.sub (ws' := [(ph, .inr (3, [p_rows, p_dropped, .int p_count]))]) [0] (by decide) rfl
        exact W.zret (v := 1) (ty := .boolean) hx hb hr rfl (fun t ht hW => ⟨⟨1, (), rfl, (show two (1 : Int32) (0 ≤ ia.toInt ∧ ia.toInt < p_count.toInt) 1 0 from (by first | (refine Or.inl ⟨rfl, ?_⟩; omega) | (refine Or.inr ⟨rfl, ?_⟩; omega))), by rw [ht]; exact hP9, va_K.moved hW.alike hK, hD9⟩, hS.F ht⟩) hS.2.2 dX3_hasAct_23

def v_X3_kindOf : List Cond := .code yX3_kindOf cX3_kindOf 2 (some .int) :: ([.fieldLink RX3 11 "ArraySegments$Program" "rows" "[I"] ++ (wsX30))
theorem inv_X3_kindOf_X3 : ∀ w ∈ wsX30, w ∈ v_X3_kindOf := fun _ h => List.mem_cons_of_mem _ (List.mem_append_right _ (h))
set_option maxRecDepth 20000 in
theorem gd_X3_kindOf : gdL v_X3_kindOf := gdC (gdW (by decide +kernel)) (gdA (gdW (by decide +kernel)) gd_wsX30)
abbrev sw_X3_kindOf (cI cJ cZ : ClassId) (ph : Nat) (pa_rows : Nat) (p_dropped : Value) (p_count : Int32) (pc_rows : Nat → Int32) (ia : Int32) : va_W := [(ph, .inr (3, [.ref pa_rows, p_dropped, .int p_count])), (pa_rows, .inl (cI, 240, .inl pc_rows))]
set_option maxHeartbeats 8000000 in
set_option maxRecDepth 100000 in
theorem s_X3_kindOf (l : Launch) (dC : Nat → ClassId) (dI : Nat → Nat → Nat) (cI cJ cZ : ClassId) (ph : Nat) (pa_rows : Nat) (p_dropped : Value) (p_count : Int32) (pc_rows : Nat → Int32) (ia : Int32) (sz : Nat) (hy_ia : 0 ≤ ia.toInt ∧ ia.toInt ≤ 39) : Met l yX3_kindOf v_X3_kindOf ({ frames := 0, cells := 0, slots := 0, locals := 0 }) (va_Pc [.ref ph, .int ia] (cPre dC dI cI cJ cZ sz (sw_X3_kindOf cI cJ cZ ph pa_rows p_dropped p_count pc_rows ia))) (va_Qi (fun (r : Int32) (u : Unit) => (r = pc_rows (6 * ia.toInt.toNat))) (fun (u : Unit) => cPost dC dI cI cJ cZ (va_A (sw_X3_kindOf cI cJ cZ ph pa_rows p_dropped p_count pc_rows ia) sz) [(ph, .inr (3, [.ref pa_rows, p_dropped, .int p_count])), (pa_rows, .inl (cI, 240, .inl pc_rows))]) (va_A (sw_X3_kindOf cI cJ cZ ph pa_rows p_dropped p_count pc_rows ia) sz)) 0 0 (va_A (sw_X3_kindOf cI cJ cZ ph pa_rows p_dropped p_count pc_rows ia) sz) := by
  refine Met.ofW (cc := cX3_kindOf) (maxL := 2) (ret := (some .int)) (by decide) rfl ?_
  intro p e s m args below meth c s₁ B hml hv
  obtain ⟨rfl, hsz, hP, hK, hD0, hN⟩ := hv
  have hx := B.exec
  have hb := B.bytes
  have hr := B.returns
  have hts := atoms_spec (ws := v_X3_kindOf) B.pre
  have hown : s.vm.findClass RX3 = some m.cls := findClass_of_methodNamed B.named
  have hlocks := B.notSynchronized
  subst hsz
  have hD := hD0.self (sz := s.heap.size)
  generalize hAe : va_A (sw_X3_kindOf cI cJ cZ ph pa_rows p_dropped p_count pc_rows ia) s.heap.size = A at hD ⊢
  have hA : ∀ q : Nat, s.heap.size ≤ q → A q := fun q h => by rw [← hAe]; exact Or.inr h
  clear hAe hD0
  have hS : va_S A s.heap s.heap [] := va_S.rf
  replace hP : va_P (dC, dI) vwCl [(ph, .inr (3, [.ref pa_rows, p_dropped, .int p_count])), (pa_rows, .inl (cI, 240, .inl pc_rows))] s.heap := hP
  replace hD : va_D A [(ph, .inr (3, [.ref pa_rows, p_dropped, .int p_count])), (pa_rows, .inl (cI, 240, .inl pc_rows))] := hD
  have hl := lv_entry ([.ref ph, .int ia]) (n := 2) (Nat.le_of_ble_eq_true rfl)
  rw [lg_entry_eq]
  generalize (lg_sl ([.ref ph, .int ia]) ++ List.replicate (2 - (lg_sl ([.ref ph, .int ia])).length) Slot.unset).toArray = ls at hl ⊢
  replace hl : lv_has ls 2 [(0, .ref ph), (1, .int ia)] := hl
  have z_0 : (0 : Int32).toInt = 0 := by decide
  have z_1 : (1 : Int32).toInt = 1 := by decide
  refine lv_aload_n hx hb dX3_kindOf_0 rfl (lv_at hl 0 rfl) ?_
  refine va_get (D := (dC, dI)) (ci := 3) (v := .ref pa_rows) (C := RX3) (T := TX3) (N := 3) hx hb hts inv_X3_kindOf_X3 hown hK hP 0 rfl rfl 0 (by decide) (hts (.fieldLink RX3 11 "ArraySegments$Program" "rows" "[I") (List.mem_of_getElem? (i := 1) rfl)) (fun _ h9 => h9) rfl dX3_kindOf_1 ?_
  refine lv_iload_n hx hb dX3_kindOf_4 rfl (lv_at hl 1 rfl) ?_
  refine lv_bipush (v := 6) hx hb dX3_kindOf_5 (by decide) ?_
  refine sf_imul (w := ia.toInt) (z := 6) hx hb dX3_kindOf_7 rfl (by decide) ⟨by omega, by omega⟩ (fun v_1 q_v_1 => ?_)
  refine va_iald hx hb hK hP 1 0 rfl rfl (vp_in_iff.mpr ⟨by omega, by omega⟩) dX3_kindOf_8 ?_
  have hP9 := hP.sub (ws' := [(ph, .inr (3, [.ref pa_rows, p_dropped, .int p_count])), (pa_rows, .inl (cI, 240, .inl pc_rows))]) [0, 1] rfl
  have hD9 := hD.sub (ws' := [(ph, .inr (3, [.ref pa_rows, p_dropped, .int p_count])), (pa_rows, .inl (cI, 240, .inl pc_rows))]) [0, 1] (by decide) rfl
  exact W.iret (v := pc_rows (v_1).toNatClampNeg) hx hb hr (fun t ht hW => ⟨⟨pc_rows (v_1).toNatClampNeg, (), rfl, (show (pc_rows (v_1).toNatClampNeg) = pc_rows (6 * ia.toInt.toNat) from (congrArg pc_rows (by have := nn_cl (z := v_1) (by omega); omega))), by rw [ht]; exact hP9, va_K.moved hW.alike hK, hD9⟩, hS.F ht⟩) hS.2.2 dX3_kindOf_9

def v_X3_a : List Cond := .code yX3_a cX3_a 2 (some .int) :: ([.fieldLink RX3 11 "ArraySegments$Program" "rows" "[I"] ++ (wsX30))
theorem inv_X3_a_X3 : ∀ w ∈ wsX30, w ∈ v_X3_a := fun _ h => List.mem_cons_of_mem _ (List.mem_append_right _ (h))
set_option maxRecDepth 20000 in
theorem gd_X3_a : gdL v_X3_a := gdC (gdW (by decide +kernel)) (gdA (gdW (by decide +kernel)) gd_wsX30)
abbrev sw_X3_a (cI cJ cZ : ClassId) (ph : Nat) (pa_rows : Nat) (p_dropped : Value) (p_count : Int32) (pc_rows : Nat → Int32) (ia : Int32) : va_W := [(ph, .inr (3, [.ref pa_rows, p_dropped, .int p_count])), (pa_rows, .inl (cI, 240, .inl pc_rows))]
set_option maxHeartbeats 8000000 in
set_option maxRecDepth 100000 in
theorem s_X3_a (l : Launch) (dC : Nat → ClassId) (dI : Nat → Nat → Nat) (cI cJ cZ : ClassId) (ph : Nat) (pa_rows : Nat) (p_dropped : Value) (p_count : Int32) (pc_rows : Nat → Int32) (ia : Int32) (sz : Nat) (hy_ia : 0 ≤ ia.toInt ∧ ia.toInt ≤ 39) : Met l yX3_a v_X3_a ({ frames := 0, cells := 0, slots := 0, locals := 0 }) (va_Pc [.ref ph, .int ia] (cPre dC dI cI cJ cZ sz (sw_X3_a cI cJ cZ ph pa_rows p_dropped p_count pc_rows ia))) (va_Qi (fun (r : Int32) (u : Unit) => (r = pc_rows (6 * ia.toInt.toNat + 1))) (fun (u : Unit) => cPost dC dI cI cJ cZ (va_A (sw_X3_a cI cJ cZ ph pa_rows p_dropped p_count pc_rows ia) sz) [(ph, .inr (3, [.ref pa_rows, p_dropped, .int p_count])), (pa_rows, .inl (cI, 240, .inl pc_rows))]) (va_A (sw_X3_a cI cJ cZ ph pa_rows p_dropped p_count pc_rows ia) sz)) 0 0 (va_A (sw_X3_a cI cJ cZ ph pa_rows p_dropped p_count pc_rows ia) sz) := by
  refine Met.ofW (cc := cX3_a) (maxL := 2) (ret := (some .int)) (by decide) rfl ?_
  intro p e s m args below meth c s₁ B hml hv
  obtain ⟨rfl, hsz, hP, hK, hD0, hN⟩ := hv
  have hx := B.exec
  have hb := B.bytes
  have hr := B.returns
  have hts := atoms_spec (ws := v_X3_a) B.pre
  have hown : s.vm.findClass RX3 = some m.cls := findClass_of_methodNamed B.named
  have hlocks := B.notSynchronized
  subst hsz
  have hD := hD0.self (sz := s.heap.size)
  generalize hAe : va_A (sw_X3_a cI cJ cZ ph pa_rows p_dropped p_count pc_rows ia) s.heap.size = A at hD ⊢
  have hA : ∀ q : Nat, s.heap.size ≤ q → A q := fun q h => by rw [← hAe]; exact Or.inr h
  clear hAe hD0
  have hS : va_S A s.heap s.heap [] := va_S.rf
  replace hP : va_P (dC, dI) vwCl [(ph, .inr (3, [.ref pa_rows, p_dropped, .int p_count])), (pa_rows, .inl (cI, 240, .inl pc_rows))] s.heap := hP
  replace hD : va_D A [(ph, .inr (3, [.ref pa_rows, p_dropped, .int p_count])), (pa_rows, .inl (cI, 240, .inl pc_rows))] := hD
  have hl := lv_entry ([.ref ph, .int ia]) (n := 2) (Nat.le_of_ble_eq_true rfl)
  rw [lg_entry_eq]
  generalize (lg_sl ([.ref ph, .int ia]) ++ List.replicate (2 - (lg_sl ([.ref ph, .int ia])).length) Slot.unset).toArray = ls at hl ⊢
  replace hl : lv_has ls 2 [(0, .ref ph), (1, .int ia)] := hl
  have z_0 : (0 : Int32).toInt = 0 := by decide
  have z_1 : (1 : Int32).toInt = 1 := by decide
  refine lv_aload_n hx hb dX3_a_0 rfl (lv_at hl 0 rfl) ?_
  refine va_get (D := (dC, dI)) (ci := 3) (v := .ref pa_rows) (C := RX3) (T := TX3) (N := 3) hx hb hts inv_X3_a_X3 hown hK hP 0 rfl rfl 0 (by decide) (hts (.fieldLink RX3 11 "ArraySegments$Program" "rows" "[I") (List.mem_of_getElem? (i := 1) rfl)) (fun _ h9 => h9) rfl dX3_a_1 ?_
  refine lv_iload_n hx hb dX3_a_4 rfl (lv_at hl 1 rfl) ?_
  refine lv_bipush (v := 6) hx hb dX3_a_5 (by decide) ?_
  refine sf_imul (w := ia.toInt) (z := 6) hx hb dX3_a_7 rfl (by decide) ⟨by omega, by omega⟩ (fun v_1 q_v_1 => ?_)
  refine lv_iconst (v := 1) hx hb dX3_a_8 (by decide) ?_
  refine sf_iadd hx hb dX3_a_9 ⟨by omega, by omega⟩ (fun v_2 q_v_2 => ?_)
  refine va_iald hx hb hK hP 1 0 rfl rfl (vp_in_iff.mpr ⟨by omega, by omega⟩) dX3_a_10 ?_
  have hP9 := hP.sub (ws' := [(ph, .inr (3, [.ref pa_rows, p_dropped, .int p_count])), (pa_rows, .inl (cI, 240, .inl pc_rows))]) [0, 1] rfl
  have hD9 := hD.sub (ws' := [(ph, .inr (3, [.ref pa_rows, p_dropped, .int p_count])), (pa_rows, .inl (cI, 240, .inl pc_rows))]) [0, 1] (by decide) rfl
  exact W.iret (v := pc_rows (v_2).toNatClampNeg) hx hb hr (fun t ht hW => ⟨⟨pc_rows (v_2).toNatClampNeg, (), rfl, (show (pc_rows (v_2).toNatClampNeg) = pc_rows (6 * ia.toInt.toNat + 1) from (congrArg pc_rows (by have := nn_cl (z := v_2) (by omega); omega))), by rw [ht]; exact hP9, va_K.moved hW.alike hK, hD9⟩, hS.F ht⟩) hS.2.2 dX3_a_11

def v_X3_b : List Cond := .code yX3_b cX3_b 2 (some .int) :: ([.fieldLink RX3 11 "ArraySegments$Program" "rows" "[I"] ++ (wsX30))
theorem inv_X3_b_X3 : ∀ w ∈ wsX30, w ∈ v_X3_b := fun _ h => List.mem_cons_of_mem _ (List.mem_append_right _ (h))
set_option maxRecDepth 20000 in
theorem gd_X3_b : gdL v_X3_b := gdC (gdW (by decide +kernel)) (gdA (gdW (by decide +kernel)) gd_wsX30)
abbrev sw_X3_b (cI cJ cZ : ClassId) (ph : Nat) (pa_rows : Nat) (p_dropped : Value) (p_count : Int32) (pc_rows : Nat → Int32) (ia : Int32) : va_W := [(ph, .inr (3, [.ref pa_rows, p_dropped, .int p_count])), (pa_rows, .inl (cI, 240, .inl pc_rows))]
set_option maxHeartbeats 8000000 in
set_option maxRecDepth 100000 in
theorem s_X3_b (l : Launch) (dC : Nat → ClassId) (dI : Nat → Nat → Nat) (cI cJ cZ : ClassId) (ph : Nat) (pa_rows : Nat) (p_dropped : Value) (p_count : Int32) (pc_rows : Nat → Int32) (ia : Int32) (sz : Nat) (hy_ia : 0 ≤ ia.toInt ∧ ia.toInt ≤ 39) : Met l yX3_b v_X3_b ({ frames := 0, cells := 0, slots := 0, locals := 0 }) (va_Pc [.ref ph, .int ia] (cPre dC dI cI cJ cZ sz (sw_X3_b cI cJ cZ ph pa_rows p_dropped p_count pc_rows ia))) (va_Qi (fun (r : Int32) (u : Unit) => (r = pc_rows (6 * ia.toInt.toNat + 2))) (fun (u : Unit) => cPost dC dI cI cJ cZ (va_A (sw_X3_b cI cJ cZ ph pa_rows p_dropped p_count pc_rows ia) sz) [(ph, .inr (3, [.ref pa_rows, p_dropped, .int p_count])), (pa_rows, .inl (cI, 240, .inl pc_rows))]) (va_A (sw_X3_b cI cJ cZ ph pa_rows p_dropped p_count pc_rows ia) sz)) 0 0 (va_A (sw_X3_b cI cJ cZ ph pa_rows p_dropped p_count pc_rows ia) sz) := by
  refine Met.ofW (cc := cX3_b) (maxL := 2) (ret := (some .int)) (by decide) rfl ?_
  intro p e s m args below meth c s₁ B hml hv
  obtain ⟨rfl, hsz, hP, hK, hD0, hN⟩ := hv
  have hx := B.exec
  have hb := B.bytes
  have hr := B.returns
  have hts := atoms_spec (ws := v_X3_b) B.pre
  have hown : s.vm.findClass RX3 = some m.cls := findClass_of_methodNamed B.named
  have hlocks := B.notSynchronized
  subst hsz
  have hD := hD0.self (sz := s.heap.size)
  generalize hAe : va_A (sw_X3_b cI cJ cZ ph pa_rows p_dropped p_count pc_rows ia) s.heap.size = A at hD ⊢
  have hA : ∀ q : Nat, s.heap.size ≤ q → A q := fun q h => by rw [← hAe]; exact Or.inr h
  clear hAe hD0
  have hS : va_S A s.heap s.heap [] := va_S.rf
  replace hP : va_P (dC, dI) vwCl [(ph, .inr (3, [.ref pa_rows, p_dropped, .int p_count])), (pa_rows, .inl (cI, 240, .inl pc_rows))] s.heap := hP
  replace hD : va_D A [(ph, .inr (3, [.ref pa_rows, p_dropped, .int p_count])), (pa_rows, .inl (cI, 240, .inl pc_rows))] := hD
  have hl := lv_entry ([.ref ph, .int ia]) (n := 2) (Nat.le_of_ble_eq_true rfl)
  rw [lg_entry_eq]
  generalize (lg_sl ([.ref ph, .int ia]) ++ List.replicate (2 - (lg_sl ([.ref ph, .int ia])).length) Slot.unset).toArray = ls at hl ⊢
  replace hl : lv_has ls 2 [(0, .ref ph), (1, .int ia)] := hl
  have z_0 : (0 : Int32).toInt = 0 := by decide
  have z_1 : (1 : Int32).toInt = 1 := by decide
  have z_2 : (2 : Int32).toInt = 2 := by decide
  refine lv_aload_n hx hb dX3_b_0 rfl (lv_at hl 0 rfl) ?_
  refine va_get (D := (dC, dI)) (ci := 3) (v := .ref pa_rows) (C := RX3) (T := TX3) (N := 3) hx hb hts inv_X3_b_X3 hown hK hP 0 rfl rfl 0 (by decide) (hts (.fieldLink RX3 11 "ArraySegments$Program" "rows" "[I") (List.mem_of_getElem? (i := 1) rfl)) (fun _ h9 => h9) rfl dX3_b_1 ?_
  refine lv_iload_n hx hb dX3_b_4 rfl (lv_at hl 1 rfl) ?_
  refine lv_bipush (v := 6) hx hb dX3_b_5 (by decide) ?_
  refine sf_imul (w := ia.toInt) (z := 6) hx hb dX3_b_7 rfl (by decide) ⟨by omega, by omega⟩ (fun v_1 q_v_1 => ?_)
  refine lv_iconst (v := 2) hx hb dX3_b_8 (by decide) ?_
  refine sf_iadd hx hb dX3_b_9 ⟨by omega, by omega⟩ (fun v_2 q_v_2 => ?_)
  refine va_iald hx hb hK hP 1 0 rfl rfl (vp_in_iff.mpr ⟨by omega, by omega⟩) dX3_b_10 ?_
  have hP9 := hP.sub (ws' := [(ph, .inr (3, [.ref pa_rows, p_dropped, .int p_count])), (pa_rows, .inl (cI, 240, .inl pc_rows))]) [0, 1] rfl
  have hD9 := hD.sub (ws' := [(ph, .inr (3, [.ref pa_rows, p_dropped, .int p_count])), (pa_rows, .inl (cI, 240, .inl pc_rows))]) [0, 1] (by decide) rfl
  exact W.iret (v := pc_rows (v_2).toNatClampNeg) hx hb hr (fun t ht hW => ⟨⟨pc_rows (v_2).toNatClampNeg, (), rfl, (show (pc_rows (v_2).toNatClampNeg) = pc_rows (6 * ia.toInt.toNat + 2) from (congrArg pc_rows (by have := nn_cl (z := v_2) (by omega); omega))), by rw [ht]; exact hP9, va_K.moved hW.alike hK, hD9⟩, hS.F ht⟩) hS.2.2 dX3_b_11

def v_X3_c : List Cond := .code yX3_c cX3_c 2 (some .int) :: ([.fieldLink RX3 11 "ArraySegments$Program" "rows" "[I"] ++ (wsX30))
theorem inv_X3_c_X3 : ∀ w ∈ wsX30, w ∈ v_X3_c := fun _ h => List.mem_cons_of_mem _ (List.mem_append_right _ (h))
set_option maxRecDepth 20000 in
theorem gd_X3_c : gdL v_X3_c := gdC (gdW (by decide +kernel)) (gdA (gdW (by decide +kernel)) gd_wsX30)
abbrev sw_X3_c (cI cJ cZ : ClassId) (ph : Nat) (pa_rows : Nat) (p_dropped : Value) (p_count : Int32) (pc_rows : Nat → Int32) (ia : Int32) : va_W := [(ph, .inr (3, [.ref pa_rows, p_dropped, .int p_count])), (pa_rows, .inl (cI, 240, .inl pc_rows))]
set_option maxHeartbeats 8000000 in
set_option maxRecDepth 100000 in
theorem s_X3_c (l : Launch) (dC : Nat → ClassId) (dI : Nat → Nat → Nat) (cI cJ cZ : ClassId) (ph : Nat) (pa_rows : Nat) (p_dropped : Value) (p_count : Int32) (pc_rows : Nat → Int32) (ia : Int32) (sz : Nat) (hy_ia : 0 ≤ ia.toInt ∧ ia.toInt ≤ 39) : Met l yX3_c v_X3_c ({ frames := 0, cells := 0, slots := 0, locals := 0 }) (va_Pc [.ref ph, .int ia] (cPre dC dI cI cJ cZ sz (sw_X3_c cI cJ cZ ph pa_rows p_dropped p_count pc_rows ia))) (va_Qi (fun (r : Int32) (u : Unit) => (r = pc_rows (6 * ia.toInt.toNat + 3))) (fun (u : Unit) => cPost dC dI cI cJ cZ (va_A (sw_X3_c cI cJ cZ ph pa_rows p_dropped p_count pc_rows ia) sz) [(ph, .inr (3, [.ref pa_rows, p_dropped, .int p_count])), (pa_rows, .inl (cI, 240, .inl pc_rows))]) (va_A (sw_X3_c cI cJ cZ ph pa_rows p_dropped p_count pc_rows ia) sz)) 0 0 (va_A (sw_X3_c cI cJ cZ ph pa_rows p_dropped p_count pc_rows ia) sz) := by
  refine Met.ofW (cc := cX3_c) (maxL := 2) (ret := (some .int)) (by decide) rfl ?_
  intro p e s m args below meth c s₁ B hml hv
  obtain ⟨rfl, hsz, hP, hK, hD0, hN⟩ := hv
  have hx := B.exec
  have hb := B.bytes
  have hr := B.returns
  have hts := atoms_spec (ws := v_X3_c) B.pre
  have hown : s.vm.findClass RX3 = some m.cls := findClass_of_methodNamed B.named
  have hlocks := B.notSynchronized
  subst hsz
  have hD := hD0.self (sz := s.heap.size)
  generalize hAe : va_A (sw_X3_c cI cJ cZ ph pa_rows p_dropped p_count pc_rows ia) s.heap.size = A at hD ⊢
  have hA : ∀ q : Nat, s.heap.size ≤ q → A q := fun q h => by rw [← hAe]; exact Or.inr h
  clear hAe hD0
  have hS : va_S A s.heap s.heap [] := va_S.rf
  replace hP : va_P (dC, dI) vwCl [(ph, .inr (3, [.ref pa_rows, p_dropped, .int p_count])), (pa_rows, .inl (cI, 240, .inl pc_rows))] s.heap := hP
  replace hD : va_D A [(ph, .inr (3, [.ref pa_rows, p_dropped, .int p_count])), (pa_rows, .inl (cI, 240, .inl pc_rows))] := hD
  have hl := lv_entry ([.ref ph, .int ia]) (n := 2) (Nat.le_of_ble_eq_true rfl)
  rw [lg_entry_eq]
  generalize (lg_sl ([.ref ph, .int ia]) ++ List.replicate (2 - (lg_sl ([.ref ph, .int ia])).length) Slot.unset).toArray = ls at hl ⊢
  replace hl : lv_has ls 2 [(0, .ref ph), (1, .int ia)] := hl
  have z_0 : (0 : Int32).toInt = 0 := by decide
  have z_1 : (1 : Int32).toInt = 1 := by decide
  have z_3 : (3 : Int32).toInt = 3 := by decide
  refine lv_aload_n hx hb dX3_c_0 rfl (lv_at hl 0 rfl) ?_
  refine va_get (D := (dC, dI)) (ci := 3) (v := .ref pa_rows) (C := RX3) (T := TX3) (N := 3) hx hb hts inv_X3_c_X3 hown hK hP 0 rfl rfl 0 (by decide) (hts (.fieldLink RX3 11 "ArraySegments$Program" "rows" "[I") (List.mem_of_getElem? (i := 1) rfl)) (fun _ h9 => h9) rfl dX3_c_1 ?_
  refine lv_iload_n hx hb dX3_c_4 rfl (lv_at hl 1 rfl) ?_
  refine lv_bipush (v := 6) hx hb dX3_c_5 (by decide) ?_
  refine sf_imul (w := ia.toInt) (z := 6) hx hb dX3_c_7 rfl (by decide) ⟨by omega, by omega⟩ (fun v_1 q_v_1 => ?_)
  refine lv_iconst (v := 3) hx hb dX3_c_8 (by decide) ?_
  refine sf_iadd hx hb dX3_c_9 ⟨by omega, by omega⟩ (fun v_2 q_v_2 => ?_)
  refine va_iald hx hb hK hP 1 0 rfl rfl (vp_in_iff.mpr ⟨by omega, by omega⟩) dX3_c_10 ?_
  have hP9 := hP.sub (ws' := [(ph, .inr (3, [.ref pa_rows, p_dropped, .int p_count])), (pa_rows, .inl (cI, 240, .inl pc_rows))]) [0, 1] rfl
  have hD9 := hD.sub (ws' := [(ph, .inr (3, [.ref pa_rows, p_dropped, .int p_count])), (pa_rows, .inl (cI, 240, .inl pc_rows))]) [0, 1] (by decide) rfl
  exact W.iret (v := pc_rows (v_2).toNatClampNeg) hx hb hr (fun t ht hW => ⟨⟨pc_rows (v_2).toNatClampNeg, (), rfl, (show (pc_rows (v_2).toNatClampNeg) = pc_rows (6 * ia.toInt.toNat + 3) from (congrArg pc_rows (by have := nn_cl (z := v_2) (by omega); omega))), by rw [ht]; exact hP9, va_K.moved hW.alike hK, hD9⟩, hS.F ht⟩) hS.2.2 dX3_c_11

def v_X3_d : List Cond := .code yX3_d cX3_d 2 (some .int) :: ([.fieldLink RX3 11 "ArraySegments$Program" "rows" "[I"] ++ (wsX30))
theorem inv_X3_d_X3 : ∀ w ∈ wsX30, w ∈ v_X3_d := fun _ h => List.mem_cons_of_mem _ (List.mem_append_right _ (h))
set_option maxRecDepth 20000 in
theorem gd_X3_d : gdL v_X3_d := gdC (gdW (by decide +kernel)) (gdA (gdW (by decide +kernel)) gd_wsX30)
abbrev sw_X3_d (cI cJ cZ : ClassId) (ph : Nat) (pa_rows : Nat) (p_dropped : Value) (p_count : Int32) (pc_rows : Nat → Int32) (ia : Int32) : va_W := [(ph, .inr (3, [.ref pa_rows, p_dropped, .int p_count])), (pa_rows, .inl (cI, 240, .inl pc_rows))]
set_option maxHeartbeats 8000000 in
set_option maxRecDepth 100000 in
theorem s_X3_d (l : Launch) (dC : Nat → ClassId) (dI : Nat → Nat → Nat) (cI cJ cZ : ClassId) (ph : Nat) (pa_rows : Nat) (p_dropped : Value) (p_count : Int32) (pc_rows : Nat → Int32) (ia : Int32) (sz : Nat) (hy_ia : 0 ≤ ia.toInt ∧ ia.toInt ≤ 39) : Met l yX3_d v_X3_d ({ frames := 0, cells := 0, slots := 0, locals := 0 }) (va_Pc [.ref ph, .int ia] (cPre dC dI cI cJ cZ sz (sw_X3_d cI cJ cZ ph pa_rows p_dropped p_count pc_rows ia))) (va_Qi (fun (r : Int32) (u : Unit) => (r = pc_rows (6 * ia.toInt.toNat + 4))) (fun (u : Unit) => cPost dC dI cI cJ cZ (va_A (sw_X3_d cI cJ cZ ph pa_rows p_dropped p_count pc_rows ia) sz) [(ph, .inr (3, [.ref pa_rows, p_dropped, .int p_count])), (pa_rows, .inl (cI, 240, .inl pc_rows))]) (va_A (sw_X3_d cI cJ cZ ph pa_rows p_dropped p_count pc_rows ia) sz)) 0 0 (va_A (sw_X3_d cI cJ cZ ph pa_rows p_dropped p_count pc_rows ia) sz) := by
  refine Met.ofW (cc := cX3_d) (maxL := 2) (ret := (some .int)) (by decide) rfl ?_
  intro p e s m args below meth c s₁ B hml hv
  obtain ⟨rfl, hsz, hP, hK, hD0, hN⟩ := hv
  have hx := B.exec
  have hb := B.bytes
  have hr := B.returns
  have hts := atoms_spec (ws := v_X3_d) B.pre
  have hown : s.vm.findClass RX3 = some m.cls := findClass_of_methodNamed B.named
  have hlocks := B.notSynchronized
  subst hsz
  have hD := hD0.self (sz := s.heap.size)
  generalize hAe : va_A (sw_X3_d cI cJ cZ ph pa_rows p_dropped p_count pc_rows ia) s.heap.size = A at hD ⊢
  have hA : ∀ q : Nat, s.heap.size ≤ q → A q := fun q h => by rw [← hAe]; exact Or.inr h
  clear hAe hD0
  have hS : va_S A s.heap s.heap [] := va_S.rf
  replace hP : va_P (dC, dI) vwCl [(ph, .inr (3, [.ref pa_rows, p_dropped, .int p_count])), (pa_rows, .inl (cI, 240, .inl pc_rows))] s.heap := hP
  replace hD : va_D A [(ph, .inr (3, [.ref pa_rows, p_dropped, .int p_count])), (pa_rows, .inl (cI, 240, .inl pc_rows))] := hD
  have hl := lv_entry ([.ref ph, .int ia]) (n := 2) (Nat.le_of_ble_eq_true rfl)
  rw [lg_entry_eq]
  generalize (lg_sl ([.ref ph, .int ia]) ++ List.replicate (2 - (lg_sl ([.ref ph, .int ia])).length) Slot.unset).toArray = ls at hl ⊢
  replace hl : lv_has ls 2 [(0, .ref ph), (1, .int ia)] := hl
  have z_0 : (0 : Int32).toInt = 0 := by decide
  have z_1 : (1 : Int32).toInt = 1 := by decide
  have z_4 : (4 : Int32).toInt = 4 := by decide
  refine lv_aload_n hx hb dX3_d_0 rfl (lv_at hl 0 rfl) ?_
  refine va_get (D := (dC, dI)) (ci := 3) (v := .ref pa_rows) (C := RX3) (T := TX3) (N := 3) hx hb hts inv_X3_d_X3 hown hK hP 0 rfl rfl 0 (by decide) (hts (.fieldLink RX3 11 "ArraySegments$Program" "rows" "[I") (List.mem_of_getElem? (i := 1) rfl)) (fun _ h9 => h9) rfl dX3_d_1 ?_
  refine lv_iload_n hx hb dX3_d_4 rfl (lv_at hl 1 rfl) ?_
  refine lv_bipush (v := 6) hx hb dX3_d_5 (by decide) ?_
  refine sf_imul (w := ia.toInt) (z := 6) hx hb dX3_d_7 rfl (by decide) ⟨by omega, by omega⟩ (fun v_1 q_v_1 => ?_)
  refine lv_iconst (v := 4) hx hb dX3_d_8 (by decide) ?_
  refine sf_iadd hx hb dX3_d_9 ⟨by omega, by omega⟩ (fun v_2 q_v_2 => ?_)
  refine va_iald hx hb hK hP 1 0 rfl rfl (vp_in_iff.mpr ⟨by omega, by omega⟩) dX3_d_10 ?_
  have hP9 := hP.sub (ws' := [(ph, .inr (3, [.ref pa_rows, p_dropped, .int p_count])), (pa_rows, .inl (cI, 240, .inl pc_rows))]) [0, 1] rfl
  have hD9 := hD.sub (ws' := [(ph, .inr (3, [.ref pa_rows, p_dropped, .int p_count])), (pa_rows, .inl (cI, 240, .inl pc_rows))]) [0, 1] (by decide) rfl
  exact W.iret (v := pc_rows (v_2).toNatClampNeg) hx hb hr (fun t ht hW => ⟨⟨pc_rows (v_2).toNatClampNeg, (), rfl, (show (pc_rows (v_2).toNatClampNeg) = pc_rows (6 * ia.toInt.toNat + 4) from (congrArg pc_rows (by have := nn_cl (z := v_2) (by omega); omega))), by rw [ht]; exact hP9, va_K.moved hW.alike hK, hD9⟩, hS.F ht⟩) hS.2.2 dX3_d_11

def v_X3_e : List Cond := .code yX3_e cX3_e 2 (some .int) :: ([.fieldLink RX3 11 "ArraySegments$Program" "rows" "[I"] ++ (wsX30))
theorem inv_X3_e_X3 : ∀ w ∈ wsX30, w ∈ v_X3_e := fun _ h => List.mem_cons_of_mem _ (List.mem_append_right _ (h))
set_option maxRecDepth 20000 in
theorem gd_X3_e : gdL v_X3_e := gdC (gdW (by decide +kernel)) (gdA (gdW (by decide +kernel)) gd_wsX30)
abbrev sw_X3_e (cI cJ cZ : ClassId) (ph : Nat) (pa_rows : Nat) (p_dropped : Value) (p_count : Int32) (pc_rows : Nat → Int32) (ia : Int32) : va_W := [(ph, .inr (3, [.ref pa_rows, p_dropped, .int p_count])), (pa_rows, .inl (cI, 240, .inl pc_rows))]
set_option maxHeartbeats 8000000 in
set_option maxRecDepth 100000 in
theorem s_X3_e (l : Launch) (dC : Nat → ClassId) (dI : Nat → Nat → Nat) (cI cJ cZ : ClassId) (ph : Nat) (pa_rows : Nat) (p_dropped : Value) (p_count : Int32) (pc_rows : Nat → Int32) (ia : Int32) (sz : Nat) (hy_ia : 0 ≤ ia.toInt ∧ ia.toInt ≤ 39) : Met l yX3_e v_X3_e ({ frames := 0, cells := 0, slots := 0, locals := 0 }) (va_Pc [.ref ph, .int ia] (cPre dC dI cI cJ cZ sz (sw_X3_e cI cJ cZ ph pa_rows p_dropped p_count pc_rows ia))) (va_Qi (fun (r : Int32) (u : Unit) => (r = pc_rows (6 * ia.toInt.toNat + 5))) (fun (u : Unit) => cPost dC dI cI cJ cZ (va_A (sw_X3_e cI cJ cZ ph pa_rows p_dropped p_count pc_rows ia) sz) [(ph, .inr (3, [.ref pa_rows, p_dropped, .int p_count])), (pa_rows, .inl (cI, 240, .inl pc_rows))]) (va_A (sw_X3_e cI cJ cZ ph pa_rows p_dropped p_count pc_rows ia) sz)) 0 0 (va_A (sw_X3_e cI cJ cZ ph pa_rows p_dropped p_count pc_rows ia) sz) := by
  refine Met.ofW (cc := cX3_e) (maxL := 2) (ret := (some .int)) (by decide) rfl ?_
  intro p e s m args below meth c s₁ B hml hv
  obtain ⟨rfl, hsz, hP, hK, hD0, hN⟩ := hv
  have hx := B.exec
  have hb := B.bytes
  have hr := B.returns
  have hts := atoms_spec (ws := v_X3_e) B.pre
  have hown : s.vm.findClass RX3 = some m.cls := findClass_of_methodNamed B.named
  have hlocks := B.notSynchronized
  subst hsz
  have hD := hD0.self (sz := s.heap.size)
  generalize hAe : va_A (sw_X3_e cI cJ cZ ph pa_rows p_dropped p_count pc_rows ia) s.heap.size = A at hD ⊢
  have hA : ∀ q : Nat, s.heap.size ≤ q → A q := fun q h => by rw [← hAe]; exact Or.inr h
  clear hAe hD0
  have hS : va_S A s.heap s.heap [] := va_S.rf
  replace hP : va_P (dC, dI) vwCl [(ph, .inr (3, [.ref pa_rows, p_dropped, .int p_count])), (pa_rows, .inl (cI, 240, .inl pc_rows))] s.heap := hP
  replace hD : va_D A [(ph, .inr (3, [.ref pa_rows, p_dropped, .int p_count])), (pa_rows, .inl (cI, 240, .inl pc_rows))] := hD
  have hl := lv_entry ([.ref ph, .int ia]) (n := 2) (Nat.le_of_ble_eq_true rfl)
  rw [lg_entry_eq]
  generalize (lg_sl ([.ref ph, .int ia]) ++ List.replicate (2 - (lg_sl ([.ref ph, .int ia])).length) Slot.unset).toArray = ls at hl ⊢
  replace hl : lv_has ls 2 [(0, .ref ph), (1, .int ia)] := hl
  have z_0 : (0 : Int32).toInt = 0 := by decide
  have z_1 : (1 : Int32).toInt = 1 := by decide
  have z_5 : (5 : Int32).toInt = 5 := by decide
  refine lv_aload_n hx hb dX3_e_0 rfl (lv_at hl 0 rfl) ?_
  refine va_get (D := (dC, dI)) (ci := 3) (v := .ref pa_rows) (C := RX3) (T := TX3) (N := 3) hx hb hts inv_X3_e_X3 hown hK hP 0 rfl rfl 0 (by decide) (hts (.fieldLink RX3 11 "ArraySegments$Program" "rows" "[I") (List.mem_of_getElem? (i := 1) rfl)) (fun _ h9 => h9) rfl dX3_e_1 ?_
  refine lv_iload_n hx hb dX3_e_4 rfl (lv_at hl 1 rfl) ?_
  refine lv_bipush (v := 6) hx hb dX3_e_5 (by decide) ?_
  refine sf_imul (w := ia.toInt) (z := 6) hx hb dX3_e_7 rfl (by decide) ⟨by omega, by omega⟩ (fun v_1 q_v_1 => ?_)
  refine lv_iconst (v := 5) hx hb dX3_e_8 (by decide) ?_
  refine sf_iadd hx hb dX3_e_9 ⟨by omega, by omega⟩ (fun v_2 q_v_2 => ?_)
  refine va_iald hx hb hK hP 1 0 rfl rfl (vp_in_iff.mpr ⟨by omega, by omega⟩) dX3_e_10 ?_
  have hP9 := hP.sub (ws' := [(ph, .inr (3, [.ref pa_rows, p_dropped, .int p_count])), (pa_rows, .inl (cI, 240, .inl pc_rows))]) [0, 1] rfl
  have hD9 := hD.sub (ws' := [(ph, .inr (3, [.ref pa_rows, p_dropped, .int p_count])), (pa_rows, .inl (cI, 240, .inl pc_rows))]) [0, 1] (by decide) rfl
  exact W.iret (v := pc_rows (v_2).toNatClampNeg) hx hb hr (fun t ht hW => ⟨⟨pc_rows (v_2).toNatClampNeg, (), rfl, (show (pc_rows (v_2).toNatClampNeg) = pc_rows (6 * ia.toInt.toNat + 5) from (congrArg pc_rows (by have := nn_cl (z := v_2) (by omega); omega))), by rw [ht]; exact hP9, va_K.moved hW.alike hK, hD9⟩, hS.F ht⟩) hS.2.2 dX3_e_11

def v_X3_countKept : List Cond := .code yX3_countKept cX3_countKept 3 (some .int) :: ([.fieldLink RX3 19 "ArraySegments$Program" "count" "I", .fieldLink RX3 15 "ArraySegments$Program" "dropped" "[Z"] ++ (wsX30))
theorem inv_X3_countKept_X3 : ∀ w ∈ wsX30, w ∈ v_X3_countKept := fun _ h => List.mem_cons_of_mem _ (List.mem_append_right _ (h))
set_option maxRecDepth 20000 in
theorem gd_X3_countKept : gdL v_X3_countKept := gdC (gdW (by decide +kernel)) (gdA (gdW (by decide +kernel)) gd_wsX30)
abbrev sw_X3_countKept (cI cJ cZ : ClassId) (ph : Nat) (p_rows : Value) (pa_dropped : Nat) (p_count : Int32) (pc_dropped : Nat → Int32) : va_W := [(ph, .inr (3, [p_rows, .ref pa_dropped, .int p_count])), (pa_dropped, .inl (cZ, 40, .inl pc_dropped))]
set_option maxHeartbeats 8000000 in
set_option maxRecDepth 100000 in
theorem s_X3_countKept (l : Launch) (dC : Nat → ClassId) (dI : Nat → Nat → Nat) (cI cJ cZ : ClassId) (ph : Nat) (p_rows : Value) (pa_dropped : Nat) (p_count : Int32) (pc_dropped : Nat → Int32) (sz : Nat) (h_pc_dropped : ∀ j : Nat, kZ (pc_dropped j)) (hy_count : 0 ≤ p_count.toInt ∧ p_count.toInt ≤ 40) : Met l yX3_countKept v_X3_countKept ({ frames := 0, cells := 0, slots := 0, locals := 0 }) (va_Pc [.ref ph] (cPre dC dI cI cJ cZ sz (sw_X3_countKept cI cJ cZ ph p_rows pa_dropped p_count pc_dropped))) (va_Qi (fun (r : Int32) (u : Unit) => True) (fun (u : Unit) => cPost dC dI cI cJ cZ (va_A (sw_X3_countKept cI cJ cZ ph p_rows pa_dropped p_count pc_dropped) sz) [(ph, .inr (3, [p_rows, .ref pa_dropped, .int p_count])), (pa_dropped, .inl (cZ, 40, .inl pc_dropped))]) (va_A (sw_X3_countKept cI cJ cZ ph p_rows pa_dropped p_count pc_dropped) sz)) 0 0 (va_A (sw_X3_countKept cI cJ cZ ph p_rows pa_dropped p_count pc_dropped) sz) := by
  refine Met.ofW (cc := cX3_countKept) (maxL := 3) (ret := (some .int)) (by decide) rfl ?_
  intro p e s m args below meth c s₁ B hml hv
  obtain ⟨rfl, hsz, hP, hK, hD0, hN⟩ := hv
  have hx := B.exec
  have hb := B.bytes
  have hr := B.returns
  have hts := atoms_spec (ws := v_X3_countKept) B.pre
  have hown : s.vm.findClass RX3 = some m.cls := findClass_of_methodNamed B.named
  have hlocks := B.notSynchronized
  subst hsz
  have hD := hD0.self (sz := s.heap.size)
  generalize hAe : va_A (sw_X3_countKept cI cJ cZ ph p_rows pa_dropped p_count pc_dropped) s.heap.size = A at hD ⊢
  have hA : ∀ q : Nat, s.heap.size ≤ q → A q := fun q h => by rw [← hAe]; exact Or.inr h
  clear hAe hD0
  have hS : va_S A s.heap s.heap [] := va_S.rf
  replace hP : va_P (dC, dI) vwCl [(ph, .inr (3, [p_rows, .ref pa_dropped, .int p_count])), (pa_dropped, .inl (cZ, 40, .inl pc_dropped))] s.heap := hP
  replace hD : va_D A [(ph, .inr (3, [p_rows, .ref pa_dropped, .int p_count])), (pa_dropped, .inl (cZ, 40, .inl pc_dropped))] := hD
  have hl := lv_entry ([.ref ph]) (n := 3) (Nat.le_of_ble_eq_true rfl)
  rw [lg_entry_eq]
  generalize (lg_sl ([.ref ph]) ++ List.replicate (3 - (lg_sl ([.ref ph])).length) Slot.unset).toArray = ls at hl ⊢
  replace hl : lv_has ls 3 [(0, .ref ph)] := hl
  have z_0 : (0 : Int32).toInt = 0 := by decide
  have z_1 : (1 : Int32).toInt = 1 := by decide
  refine lv_iconst (v := 0) hx hb dX3_countKept_0 (by decide) ?_
  refine lv_istore_n (lv' := [(1, .int 0), (0, .ref ph)]) hx hb dX3_countKept_1 rfl hl (by decide) rfl (fun ls1 hl1 => ?_)
  replace hl := hl1; clear hl1
  refine lv_iconst (v := 0) hx hb dX3_countKept_2 (by decide) ?_
  refine lv_istore_n (lv' := [(2, .int 0), (1, .int 0), (0, .ref ph)]) hx hb dX3_countKept_3 rfl hl (by decide) rfl (fun ls1 hl1 => ?_)
  replace hl := hl1; clear hl1
  refine my_wloop (S := Int32 × Int32) (fun u => (0 ≤ (u.1).toInt ∧ (u.1).toInt ≤ 40)) (fun u => (40 - (u.1).toInt).toNat) (fun u => [(ph, .inr (3, [p_rows, .ref pa_dropped, .int p_count])), (pa_dropped, .inl (cZ, 40, .inl pc_dropped))]) (fun u => [(2, .int (u.1)), (1, .int (u.2)), (0, .ref ph)]) (H0 := s.heap) (A := A) (D := (dC, dI)) (cl := vwCl) ((0 : Int32), (0 : Int32)) (show (0 ≤ (0 : Int32).toInt ∧ (0 : Int32).toInt ≤ 40) from ⟨by omega, by omega⟩) (by exact hP) (by exact hD) hS (by exact hl) (fun u_1 hu_1 ih_1 H_1 locs_1 ls1 hP1 hD1 hS1 hl1 => ?_)
  obtain ⟨v_2, v_3⟩ := u_1
  replace hu_1 : (0 ≤ v_2.toInt ∧ v_2.toInt ≤ 40) := hu_1
  have q_v_2 := hu_1
  replace hP : va_P (dC, dI) vwCl [(ph, .inr (3, [p_rows, .ref pa_dropped, .int p_count])), (pa_dropped, .inl (cZ, 40, .inl pc_dropped))] H_1 := hP1
  replace hD : va_D A [(ph, .inr (3, [p_rows, .ref pa_dropped, .int p_count])), (pa_dropped, .inl (cZ, 40, .inl pc_dropped))] := hD1
  replace hS := hS1
  clear hP1 hD1 hS1
  replace hl : lv_has ls1 3 [(2, .int v_2), (1, .int v_3), (0, .ref ph)] := hl1
  clear hl1
  refine lv_iload_n hx hb dX3_countKept_4 rfl (lv_at hl 0 rfl) ?_
  refine lv_aload_n hx hb dX3_countKept_5 rfl (lv_at hl 2 rfl) ?_
  refine va_get (D := (dC, dI)) (ci := 3) (v := .int p_count) (C := RX3) (T := TX3) (N := 3) hx hb hts inv_X3_countKept_X3 hown hK hP 0 rfl rfl 2 (by decide) (hts (.fieldLink RX3 19 "ArraySegments$Program" "count" "I") (List.mem_of_getElem? (i := 1) rfl)) (fun _ h9 => h9) rfl dX3_countKept_6 ?_
  refine lv_icmp_ge (tgt := 30) hx hb dX3_countKept_9 (by decide) (fun c_4 => ?_) (fun c_4 => ?_)
  · -- yes
    have k_4 : p_count.toInt ≤ v_2.toInt := ci_ge c_4
    refine lv_iload_n hx hb dX3_countKept_30 rfl (lv_at hl 1 rfl) ?_
    have hP9 := hP.sub (ws' := [(ph, .inr (3, [p_rows, .ref pa_dropped, .int p_count])), (pa_dropped, .inl (cZ, 40, .inl pc_dropped))]) [0, 1] rfl
    have hD9 := hD.sub (ws' := [(ph, .inr (3, [p_rows, .ref pa_dropped, .int p_count])), (pa_dropped, .inl (cZ, 40, .inl pc_dropped))]) [0, 1] (by decide) rfl
    exact W.iret (v := v_3) hx hb hr (fun t ht hW => ⟨⟨v_3, (), rfl, trivial, by rw [ht]; exact hP9, va_K.moved hW.alike hK, hD9⟩, hS.F ht⟩) hS.2.2 dX3_countKept_31
  · -- no
    have k_4 : v_2.toInt < p_count.toInt := ci_nge c_4
    refine lv_aload_n hx hb dX3_countKept_12 rfl (lv_at hl 2 rfl) ?_
    refine va_get (D := (dC, dI)) (ci := 3) (v := .ref pa_dropped) (C := RX3) (T := TX3) (N := 3) hx hb hts inv_X3_countKept_X3 hown hK hP 0 rfl rfl 1 (by decide) (hts (.fieldLink RX3 15 "ArraySegments$Program" "dropped" "[Z") (List.mem_of_getElem? (i := 2) rfl)) (fun _ h9 => h9) rfl dX3_countKept_13 ?_
    refine lv_iload_n hx hb dX3_countKept_16 rfl (lv_at hl 0 rfl) ?_
    refine sf_zald kZ hx hb hK hP 1 2 rfl rfl h_pc_dropped (vp_in_iff.mpr ⟨by omega, by omega⟩) dX3_countKept_17 (fun v_5 q_v_5 e_v_5 => ?_)
    refine my_join (S := Int32) (fun u => True) (fun u => [(ph, .inr (3, [p_rows, .ref pa_dropped, .int p_count])), (pa_dropped, .inl (cZ, 40, .inl pc_dropped))]) (fun u => [(2, .int v_2), (1, .int (u)), (0, .ref ph)]) (fun u => []) (nL := 3) (H0 := s.heap) (A := A) (D := (dC, dI)) (cl := vwCl) 24 (fun u_7 hu_7 H_7 locs_7 ls1 hP1 hD1 hS1 hl1 => ?_) (fun jn_7 => ?_)
    · -- behind 24
      obtain ⟨v_8, rfl⟩ : ∃ z, z = u_7 := ⟨_, rfl⟩
      replace hP : va_P (dC, dI) vwCl [(ph, .inr (3, [p_rows, .ref pa_dropped, .int p_count])), (pa_dropped, .inl (cZ, 40, .inl pc_dropped))] H_7 := hP1
      replace hD : va_D A [(ph, .inr (3, [p_rows, .ref pa_dropped, .int p_count])), (pa_dropped, .inl (cZ, 40, .inl pc_dropped))] := hD1
      replace hS := hS1
      clear hP1 hD1 hS1
      replace hl : lv_has ls1 3 [(2, .int v_2), (1, .int v_8), (0, .ref ph)] := hl1
      clear hl1
      refine sf_iinc hx hb dX3_countKept_24 hl (k := 0) (x := v_2) (w := 1) rfl (by decide) (by decide) ⟨by omega, by omega⟩ (fun v_9 q_v_9 ls1 hl1 => ?_)
      replace hl : lv_has ls1 3 [(2, .int v_9), (1, .int v_8), (0, .ref ph)] := hl1
      clear hl1
      refine lv_goto (tgt := 4) hx hb dX3_countKept_27 (by decide) ?_
      exact ih_1 (v_9, v_8) (show (0 ≤ v_9.toInt ∧ v_9.toInt ≤ 40) from ⟨by omega, by omega⟩) (by show (40 - v_9.toInt).toNat < (40 - v_2.toInt).toNat; omega) _ _ _ (hP.sub [0, 1] rfl) (hD.sub [0, 1] (by decide) rfl) hS (lv_sub hl [0, 1, 2] rfl)
    · -- ahead of 24
      refine lv_if_ne (tgt := 24) hx hb dX3_countKept_18 (by decide) (fun c_10 => ?_) (fun c_10 => ?_)
      · -- yes
        have k_10 : ¬ v_5.toInt = (0 : Int32).toInt := ci_ne c_10
        exact jn_7 v_3 (show True from trivial) _ _ _ (hP.sub [0, 1] rfl) (hD.sub [0, 1] (by decide) rfl) hS (lv_sub hl [0, 1, 2] rfl)
      · -- no
        have k_10 : v_5.toInt = (0 : Int32).toInt := ci_eq c_10
        refine sf_iincA hx hb dX3_countKept_21 hl (k := 1) (x := v_3) rfl (by decide) (fun v_11 ls1 hl1 => ?_)
        replace hl : lv_has ls1 3 [(1, .int v_11), (2, .int v_2), (0, .ref ph)] := hl1
        clear hl1
        exact jn_7 v_11 (show True from trivial) _ _ _ (hP.sub [0, 1] rfl) (hD.sub [0, 1] (by decide) rfl) hS (lv_sub hl [1, 0, 2] rfl)
