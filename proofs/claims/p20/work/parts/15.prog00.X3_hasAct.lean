def v_X3_hasAct : List Cond := .code yX3_hasAct cX3_hasAct 2 (some .boolean) :: ([.fieldLink RX3 19 "ArraySegments$Program" "count" "I"] ++ (wsX30))
theorem inv_X3_hasAct_X3 : ∀ w ∈ wsX30, w ∈ v_X3_hasAct := fun _ h => List.mem_cons_of_mem _ (List.mem_append_right _ (h))
set_option maxRecDepth 20000 in
theorem gd_X3_hasAct : gdL v_X3_hasAct := gdC (gdW (by decide +kernel)) (gdA (gdW (by decide +kernel)) gd_wsX30)
abbrev sw_X3_hasAct (cI cJ cZ : ClassId) (ph : Nat) (p_rows : Value) (p_dropped : Value) (p_count : Int32) (ia : Int32) : va_W := [(ph, .inr (3, [p_rows, p_dropped, .int p_count]))]
set_option maxHeartbeats 8000000 in
set_option maxRecDepth 100000 in
theorem s_X3_hasAct (l : Launch) (dC : Nat → ClassId) (dI : Nat → Nat → Nat) (cI cJ cZ : ClassId) (ph : Nat) (p_rows : Value) (p_dropped : Value) (p_count : Int32) (ia : Int32) (sz : Nat) (hy_count : 0 ≤ p_count.toInt ∧ p_count.toInt ≤ 40) : Met l yX3_hasAct v_X3_hasAct ({ frames := 0, cells := 0, slots := 0, locals := 0 }) (va_Pc [.ref ph, .int ia] (cPre dC dI cI cJ cZ sz (sw_X3_hasAct cI cJ cZ ph p_rows p_dropped p_count ia))) (va_Qi (fun (r : Int32) (u : Unit) => (two r (0 ≤ ia.toInt ∧ ia.toInt < p_count.toInt) 1 0)) (fun (u : Unit) => cPost dC dI cI cJ cZ (va_A (sw_X3_hasAct cI cJ cZ ph p_rows p_dropped p_count ia) sz) [(ph, .inr (3, [p_rows, p_dropped, .int p_count]))]) (va_A (sw_X3_hasAct cI cJ cZ ph p_rows p_dropped p_count ia) sz)) 0 0 (va_A (sw_X3_hasAct cI cJ cZ ph p_rows p_dropped p_count ia) sz) := by
  refine Met.ofW (cc := cX3_hasAct) (maxL := 2) (ret := (some .boolean)) (by decide) rfl ?_
  intro p e s m args below meth c s₁ B hml hv
  obtain ⟨rfl, hsz, hP, hK, hD0, hN⟩ := hv
  have hx := B.exec
  have hb := B.bytes
  have hr := B.returns
  have hts := atoms_spec (ws := v_X3_hasAct) B.pre
  have hown : s.vm.findClass RX3 = some m.cls := findClass_of_methodNamed B.named
  have hlocks := B.notSynchronized
  subst hsz
  have hD := hD0.self (sz := s.heap.size)
  generalize hAe : va_A (sw_X3_hasAct cI cJ cZ ph p_rows p_dropped p_count ia) s.heap.size = A at hD ⊢
  have hA : ∀ q : Nat, s.heap.size ≤ q → A q := fun q h => by rw [← hAe]; exact Or.inr h
  clear hAe hD0
  have hS : va_S A s.heap s.heap [] := va_S.rf
  replace hP : va_P (dC, dI) vwCl [(ph, .inr (3, [p_rows, p_dropped, .int p_count]))] s.heap := hP
  replace hD : va_D A [(ph, .inr (3, [p_rows, p_dropped, .int p_count]))] := hD
  have hl := lv_entry ([.ref ph, .int ia]) (n := 2) (Nat.le_of_ble_eq_true rfl)
  rw [lg_entry_eq]
  generalize (lg_sl ([.ref ph, .int ia]) ++ List.replicate (2 - (lg_sl ([.ref ph, .int ia])).length) Slot.unset).toArray = ls at hl ⊢
  replace hl : lv_has ls 2 [(0, .ref ph), (1, .int ia)] := hl
  have z_0 : (0 : Int32).toInt = 0 := by decide
  have z_1 : (1 : Int32).toInt = 1 := by decide
  have z_40 : (40 : Int32).toInt = 40 := by decide
  refine lv_iload_n hx hb dX3_hasAct_0 rfl (lv_at hl 1 rfl) ?_
  refine lv_if_lt (tgt := 22) hx hb dX3_hasAct_1 (by decide) (fun c_1 => ?_) (fun c_1 => ?_)
  · -- yes
    have k_1 : ia.toInt < (0 : Int32).toInt := ci_lt c_1
    refine lv_iconst (v := 0) hx hb dX3_hasAct_22 (by decide) ?_
    have hP9 := hP.sub (ws' := [(ph, .inr (3, [p_rows, p_dropped, .int p_count]))]) [0] rfl
    have hD9 := hD.sub (ws' := [(ph, .inr (3, [p_rows, p_dropped, .int p_count]))]) [0] (by decide) rfl
    exact W.zret (v := 0) (ty := .boolean) hx hb hr rfl (fun t ht hW => ⟨⟨0, (), rfl, (show two (0 : Int32) (0 ≤ ia.toInt ∧ ia.toInt < p_count.toInt) 1 0 from (by first | (refine Or.inl ⟨rfl, ?_⟩; omega) | (refine Or.inr ⟨rfl, ?_⟩; omega))), by rw [ht]; exact hP9, va_K.moved hW.alike hK, hD9⟩, hS.F ht⟩) hS.2.2 dX3_hasAct_23
  · -- no
    have k_1 : (0 : Int32).toInt ≤ ia.toInt := ci_nlt c_1
    refine lv_iload_n hx hb dX3_hasAct_4 rfl (lv_at hl 1 rfl) ?_
    refine lv_aload_n hx hb dX3_hasAct_5 rfl (lv_at hl 0 rfl) ?_
    refine va_get (D := (dC, dI)) (ci := 3) (v := .int p_count) (C := RX3) (T := TX3) (N := 3) hx hb hts inv_X3_hasAct_X3 hown hK hP 0 rfl rfl 2 (by decide) (hts (.fieldLink RX3 19 "ArraySegments$Program" "count" "I") (List.mem_of_getElem? (i := 1) rfl)) (fun _ h9 => h9) rfl dX3_hasAct_6 ?_
    refine lv_icmp_ge (tgt := 22) hx hb dX3_hasAct_9 (by decide) (fun c_2 => ?_) (fun c_2 => ?_)
    · -- yes
      have k_2 : p_count.toInt ≤ ia.toInt := ci_ge c_2
      refine lv_iconst (v := 0) hx hb dX3_hasAct_22 (by decide) ?_
      have hP9 := hP.sub (ws' := [(ph, .inr (3, [p_rows, p_dropped, .int p_count]))]) [0] rfl
      have hD9 := hD.sub (ws' := [(ph, .inr (3, [p_rows, p_dropped, .int p_count]))]) [0] (by decide) rfl
      exact W.zret (v := 0) (ty := .boolean) hx hb hr rfl (fun t ht hW => ⟨⟨0, (), rfl, (show two (0 : Int32) (0 ≤ ia.toInt ∧ ia.toInt < p_count.toInt) 1 0 from (by first | (refine Or.inl ⟨rfl, ?_⟩; omega) | (refine Or.inr ⟨rfl, ?_⟩; omega))), by rw [ht]; exact hP9, va_K.moved hW.alike hK, hD9⟩, hS.F ht⟩) hS.2.2 dX3_hasAct_23
    · -- no
      have k_2 : ia.toInt < p_count.toInt := ci_nge c_2
      refine lv_iload_n hx hb dX3_hasAct_12 rfl (lv_at hl 1 rfl) ?_
      refine lv_bipush (v := 40) hx hb dX3_hasAct_13 (by decide) ?_
      refine lv_icmp_ge (tgt := 22) hx hb dX3_hasAct_15 (by decide) (fun c_3 => ?_) (fun c_3 => ?_)
      · -- yes
        have k_3 : (40 : Int32).toInt ≤ ia.toInt := ci_ge c_3
        exfalso; omega
      · -- no
        have k_3 : ia.toInt < (40 : Int32).toInt := ci_nge c_3
        refine lv_iconst (v := 1) hx hb dX3_hasAct_18 (by decide) ?_
        refine lv_goto (tgt := 23) hx hb dX3_hasAct_19 (by decide) ?_
        have hP9 := hP.sub (ws' := [(ph, .inr (3, [p_rows, p_dropped, .int p_count]))]) [0] rfl
        have hD9 := hD.sub (ws' := [(ph, .inr (3, [p_rows, p_dropped, .int p_count]))]) [0] (by decide) rfl
        exact W.zret (v := 1) (ty := .boolean) hx hb hr rfl (fun t ht hW => ⟨⟨1, (), rfl, (show two (1 : Int32) (0 ≤ ia.toInt ∧ ia.toInt < p_count.toInt) 1 0 from (by first | (refine Or.inl ⟨rfl, ?_⟩; omega) | (refine Or.inr ⟨rfl, ?_⟩; omega))), by rw [ht]; exact hP9, va_K.moved hW.alike hK, hD9⟩, hS.F ht⟩) hS.2.2 dX3_hasAct_23
