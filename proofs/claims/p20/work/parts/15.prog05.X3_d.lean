def v_X3_d : List Cond := .code yX3_d cX3_d 2 (some .int) :: ([.fieldLink RX3 11 "ArraySegments$Program" "rows" "[I"] ++ (wsX30))
theorem inv_X3_d_X3 : ∀ w ∈ wsX30, w ∈ v_X3_d := fun _ h => List.mem_cons_of_mem _ (List.mem_append_right _ (h))
set_option maxRecDepth 20000 in
theorem gd_X3_d : gdL v_X3_d := gdC (gdW (by decide +kernel)) (gdA (gdW (by decide +kernel)) gd_wsX30)
abbrev sw_X3_d (cI cJ cZ : ClassId) (ph : Nat) (pa_rows : Nat) (p_dropped : Value) (p_count : Int32) (pc_rows : Nat → Int32) (ia : Int32) : va_W := [(ph, .inr (3, [.ref pa_rows, p_dropped, .int p_count])), (pa_rows, .inl (cI, 240, .inl pc_rows))]
set_option maxHeartbeats 8000000 in
set_option maxRecDepth 100000 in
theorem s_X3_d (l : Launch) (dC : Nat → ClassId) (dI : Nat → Nat → Nat) (cI cJ cZ : ClassId) (ph : Nat) (pa_rows : Nat) (p_dropped : Value) (p_count : Int32) (pc_rows : Nat → Int32) (ia : Int32) (sz : Nat) (hy_ia : 0 ≤ ia.toInt ∧ ia.toInt ≤ 39) : Met l yX3_d v_X3_d ({ frames := 0, cells := 0, slots := 0, locals := 0 }) (va_Pc [.ref ph, .int ia] (cPre dC dI cI cJ cZ sz (sw_X3_d cI cJ cZ ph pa_rows p_dropped p_count pc_rows ia))) (va_Qi (fun (r : Int32) (u : Unit) => (r = pc_rows (6 * ia.toInt.toNat + 4))) (fun (u : Unit) => cPost dC dI cI cJ cZ (va_A (sw_X3_d cI cJ cZ ph pa_rows p_dropped p_count pc_rows ia) sz) [(ph, .inr (3, [.ref pa_rows, p_dropped, .int p_count])), (pa_rows, .inl (cI, 240, .inl pc_rows))]) (va_A (sw_X3_d cI cJ cZ ph pa_rows p_dropped p_count pc_rows ia) sz)) 0 0 (va_A (sw_X3_d cI cJ cZ ph pa_rows p_dropped p_count pc_rows ia) sz) := by
  refine Met.ofW (cc := cX3_d) (maxL := 2) (ret := (some .int)) (by decide) rfl ?_
  intro p e s m args below meth c s₁ B hml hv
  obtain ⟨rfl, hsz, hP, hK, hD0, hN⟩ := hv
  have hx := B.exec
  have hb := B.bytes
  have hr := B.returns
  have hts := atoms_spec (ws := v_X3_d) B.pre
  have hown : s.vm.findClass RX3 = some m.cls := findClass_of_methodNamed B.named
  have hlocks := B.notSynchronized
  subst hsz
  have hD := hD0.self (sz := s.heap.size)
  generalize hAe : va_A (sw_X3_d cI cJ cZ ph pa_rows p_dropped p_count pc_rows ia) s.heap.size = A at hD ⊢
  have hA : ∀ q : Nat, s.heap.size ≤ q → A q := fun q h => by rw [← hAe]; exact Or.inr h
  clear hAe hD0
  have hS : va_S A s.heap s.heap [] := va_S.rf
  replace hP : va_P (dC, dI) vwCl [(ph, .inr (3, [.ref pa_rows, p_dropped, .int p_count])), (pa_rows, .inl (cI, 240, .inl pc_rows))] s.heap := hP
  replace hD : va_D A [(ph, .inr (3, [.ref pa_rows, p_dropped, .int p_count])), (pa_rows, .inl (cI, 240, .inl pc_rows))] := hD
  have hl := lv_entry ([.ref ph, .int ia]) (n := 2) (Nat.le_of_ble_eq_true rfl)
  rw [lg_entry_eq]
  generalize (lg_sl ([.ref ph, .int ia]) ++ List.replicate (2 - (lg_sl ([.ref ph, .int ia])).length) Slot.unset).toArray = ls at hl ⊢
  replace hl : lv_has ls 2 [(0, .ref ph), (1, .int ia)] := hl
  have z_0 : (0 : Int32).toInt = 0 := by decide
  have z_1 : (1 : Int32).toInt = 1 := by decide
  have z_4 : (4 : Int32).toInt = 4 := by decide
  refine lv_aload_n hx hb dX3_d_0 rfl (lv_at hl 0 rfl) ?_
  refine va_get (D := (dC, dI)) (ci := 3) (v := .ref pa_rows) (C := RX3) (T := TX3) (N := 3) hx hb hts inv_X3_d_X3 hown hK hP 0 rfl rfl 0 (by decide) (hts (.fieldLink RX3 11 "ArraySegments$Program" "rows" "[I") (List.mem_of_getElem? (i := 1) rfl)) (fun _ h9 => h9) rfl dX3_d_1 ?_
  refine lv_iload_n hx hb dX3_d_4 rfl (lv_at hl 1 rfl) ?_
  refine lv_bipush (v := 6) hx hb dX3_d_5 (by decide) ?_
  refine sf_imul (w := ia.toInt) (z := 6) hx hb dX3_d_7 rfl (by decide) ⟨by omega, by omega⟩ (fun v_1 q_v_1 => ?_)
  refine lv_iconst (v := 4) hx hb dX3_d_8 (by decide) ?_
  refine sf_iadd hx hb dX3_d_9 ⟨by omega, by omega⟩ (fun v_2 q_v_2 => ?_)
  refine va_iald hx hb hK hP 1 0 rfl rfl (vp_in_iff.mpr ⟨by omega, by omega⟩) dX3_d_10 ?_
  have hP9 := hP.sub (ws' := [(ph, .inr (3, [.ref pa_rows, p_dropped, .int p_count])), (pa_rows, .inl (cI, 240, .inl pc_rows))]) [0, 1] rfl
  have hD9 := hD.sub (ws' := [(ph, .inr (3, [.ref pa_rows, p_dropped, .int p_count])), (pa_rows, .inl (cI, 240, .inl pc_rows))]) [0, 1] (by decide) rfl
  exact W.iret (v := pc_rows (v_2).toNatClampNeg) hx hb hr (fun t ht hW => ⟨⟨pc_rows (v_2).toNatClampNeg, (), rfl, (show (pc_rows (v_2).toNatClampNeg) = pc_rows (6 * ia.toInt.toNat + 4) from (congrArg pc_rows (by have := nn_cl (z := v_2) (by omega); omega))), by rw [ht]; exact hP9, va_K.moved hW.alike hK, hD9⟩, hS.F ht⟩) hS.2.2 dX3_d_11
