def v_X3_append : List Cond := .code yX3_append cX3_append 8 (some .int) :: ([.fieldLink RX3 19 "ArraySegments$Program" "count" "I", .fieldLink RX3 11 "ArraySegments$Program" "rows" "[I", .fieldLink RX3 15 "ArraySegments$Program" "dropped" "[Z"] ++ (wsX30))
theorem inv_X3_append_X3 : ∀ w ∈ wsX30, w ∈ v_X3_append := fun _ h => List.mem_cons_of_mem _ (List.mem_append_right _ (h))
set_option maxRecDepth 20000 in
theorem gd_X3_append : gdL v_X3_append := gdC (gdW (by decide +kernel)) (gdA (gdW (by decide +kernel)) gd_wsX30)
abbrev sw_X3_append (cI cJ cZ : ClassId) (ph : Nat) (pa_rows : Nat) (pa_dropped : Nat) (p_count : Int32) (pc_rows : Nat → Int32) (pc_dropped : Nat → Int32) (ka : Int32) (aa : Int32) (ba : Int32) (ca : Int32) (da : Int32) (ea : Int32) : va_W := [(ph, .inr (3, [.ref pa_rows, .ref pa_dropped, .int p_count])), (pa_rows, .inl (cI, 240, .inl pc_rows)), (pa_dropped, .inl (cZ, 40, .inl pc_dropped))]
set_option maxHeartbeats 8000000 in
set_option maxRecDepth 100000 in
theorem s_X3_append (l : Launch) (dC : Nat → ClassId) (dI : Nat → Nat → Nat) (cI cJ cZ : ClassId) (ph : Nat) (pa_rows : Nat) (pa_dropped : Nat) (p_count : Int32) (pc_rows : Nat → Int32) (pc_dropped : Nat → Int32) (ka : Int32) (aa : Int32) (ba : Int32) (ca : Int32) (da : Int32) (ea : Int32) (sz : Nat) (hy_count : 0 ≤ p_count.toInt ∧ p_count.toInt ≤ 39) : Met l yX3_append v_X3_append ({ frames := 0, cells := 0, slots := 0, locals := 0 }) (va_Pc [.ref ph, .int ka, .int aa, .int ba, .int ca, .int da, .int ea] (cPre dC dI cI cJ cZ sz (sw_X3_append cI cJ cZ ph pa_rows pa_dropped p_count pc_rows pc_dropped ka aa ba ca da ea))) (va_Qi (fun (r : Int32) (u : Int32 × (Nat → Int32) × (Nat → Int32)) => (r.toInt = p_count.toInt) ∧ ((u.1).toInt = p_count.toInt + 1) ∧ ((u.2.1) = (upd (upd (upd (upd (upd (upd pc_rows (6 * p_count.toInt.toNat) ka) (6 * p_count.toInt.toNat + 1) aa) (6 * p_count.toInt.toNat + 2) ba) (6 * p_count.toInt.toNat + 3) ca) (6 * p_count.toInt.toNat + 4) da) (6 * p_count.toInt.toNat + 5) ea)) ∧ ((u.2.2) = (upd pc_dropped (p_count.toInt.toNat) 0))) (fun (u : Int32 × (Nat → Int32) × (Nat → Int32)) => cPost dC dI cI cJ cZ (va_A (sw_X3_append cI cJ cZ ph pa_rows pa_dropped p_count pc_rows pc_dropped ka aa ba ca da ea) sz) [(ph, .inr (3, [.ref pa_rows, .ref pa_dropped, .int (u.1)])), (pa_rows, .inl (cI, 240, .inl (u.2.1))), (pa_dropped, .inl (cZ, 40, .inl (u.2.2)))]) (va_A (sw_X3_append cI cJ cZ ph pa_rows pa_dropped p_count pc_rows pc_dropped ka aa ba ca da ea) sz)) 0 0 (va_A (sw_X3_append cI cJ cZ ph pa_rows pa_dropped p_count pc_rows pc_dropped ka aa ba ca da ea) sz) := by
  refine Met.ofW (cc := cX3_append) (maxL := 8) (ret := (some .int)) (by decide) rfl ?_
  intro p e s m args below meth c s₁ B hml hv
  obtain ⟨rfl, hsz, hP, hK, hD0, hN⟩ := hv
  have hx := B.exec
  have hb := B.bytes
  have hr := B.returns
  have hts := atoms_spec (ws := v_X3_append) B.pre
  have hown : s.vm.findClass RX3 = some m.cls := findClass_of_methodNamed B.named
  have hlocks := B.notSynchronized
  subst hsz
  have hD := hD0.self (sz := s.heap.size)
  generalize hAe : va_A (sw_X3_append cI cJ cZ ph pa_rows pa_dropped p_count pc_rows pc_dropped ka aa ba ca da ea) s.heap.size = A at hD ⊢
  have hA : ∀ q : Nat, s.heap.size ≤ q → A q := fun q h => by rw [← hAe]; exact Or.inr h
  clear hAe hD0
  have hS : va_S A s.heap s.heap [] := va_S.rf
  replace hP : va_P (dC, dI) vwCl [(ph, .inr (3, [.ref pa_rows, .ref pa_dropped, .int p_count])), (pa_rows, .inl (cI, 240, .inl pc_rows)), (pa_dropped, .inl (cZ, 40, .inl pc_dropped))] s.heap := hP
  replace hD : va_D A [(ph, .inr (3, [.ref pa_rows, .ref pa_dropped, .int p_count])), (pa_rows, .inl (cI, 240, .inl pc_rows)), (pa_dropped, .inl (cZ, 40, .inl pc_dropped))] := hD
  have hl := lv_entry ([.ref ph, .int ka, .int aa, .int ba, .int ca, .int da, .int ea]) (n := 8) (Nat.le_of_ble_eq_true rfl)
  rw [lg_entry_eq]
  generalize (lg_sl ([.ref ph, .int ka, .int aa, .int ba, .int ca, .int da, .int ea]) ++ List.replicate (8 - (lg_sl ([.ref ph, .int ka, .int aa, .int ba, .int ca, .int da, .int ea])).length) Slot.unset).toArray = ls at hl ⊢
  replace hl : lv_has ls 8 [(0, .ref ph), (1, .int ka), (2, .int aa), (3, .int ba), (4, .int ca), (5, .int da), (6, .int ea)] := hl
  have z_0 : (0 : Int32).toInt = 0 := by decide
  have z_1 : (1 : Int32).toInt = 1 := by decide
  have z_2 : (2 : Int32).toInt = 2 := by decide
  have z_3 : (3 : Int32).toInt = 3 := by decide
  have z_4 : (4 : Int32).toInt = 4 := by decide
  have z_5 : (5 : Int32).toInt = 5 := by decide
  refine lv_aload_n hx hb dX3_append_0 rfl (lv_at hl 0 rfl) ?_
  refine va_get (D := (dC, dI)) (ci := 3) (v := .int p_count) (C := RX3) (T := TX3) (N := 3) hx hb hts inv_X3_append_X3 hown hK hP 0 rfl rfl 2 (by decide) (hts (.fieldLink RX3 19 "ArraySegments$Program" "count" "I") (List.mem_of_getElem? (i := 1) rfl)) (fun _ h9 => h9) rfl dX3_append_1 ?_
  refine lv_bipush (v := 6) hx hb dX3_append_4 (by decide) ?_
  refine sf_imul (w := p_count.toInt) (z := 6) hx hb dX3_append_6 rfl (by decide) ⟨by omega, by omega⟩ (fun v_1 q_v_1 => ?_)
  refine lv_istore (lv' := [(7, .int v_1), (0, .ref ph), (1, .int ka), (2, .int aa), (3, .int ba), (4, .int ca), (5, .int da), (6, .int ea)]) hx hb dX3_append_7 hl (by decide) rfl (fun ls1 hl1 => ?_)
  replace hl := hl1; clear hl1
  refine lv_aload_n hx hb dX3_append_9 rfl (lv_at hl 1 rfl) ?_
  refine va_get (D := (dC, dI)) (ci := 3) (v := .ref pa_rows) (C := RX3) (T := TX3) (N := 3) hx hb hts inv_X3_append_X3 hown hK hP 0 rfl rfl 0 (by decide) (hts (.fieldLink RX3 11 "ArraySegments$Program" "rows" "[I") (List.mem_of_getElem? (i := 2) rfl)) (fun _ h9 => h9) rfl dX3_append_10 ?_
  refine lv_iload hx hb dX3_append_13 (lv_at hl 0 rfl) ?_
  refine lv_iload_n hx hb dX3_append_15 rfl (lv_at hl 2 rfl) ?_
  refine va_iast hx hb hK hP hD hS 1 0 rfl rfl (vp_in_iff.mpr ⟨by omega, by omega⟩) dX3_append_16 (fun H_2 locs_2 hP1 hD1 hS1 => ?_)
  rw [show (v_1).toNatClampNeg = 6 * p_count.toInt.toNat from by have := nn_cl (z := v_1) (by omega); omega] at hP1 hD1
  replace hP : va_P (dC, dI) vwCl [(ph, .inr (3, [.ref pa_rows, .ref pa_dropped, .int p_count])), (pa_rows, .inl (cI, 240, .inl (upd pc_rows (6 * p_count.toInt.toNat) ka))), (pa_dropped, .inl (cZ, 40, .inl pc_dropped))] H_2 := hP1
  replace hD : va_D A [(ph, .inr (3, [.ref pa_rows, .ref pa_dropped, .int p_count])), (pa_rows, .inl (cI, 240, .inl (upd pc_rows (6 * p_count.toInt.toNat) ka))), (pa_dropped, .inl (cZ, 40, .inl pc_dropped))] := hD1
  replace hS := hS1
  clear hP1 hD1 hS1
  refine lv_aload_n hx hb dX3_append_17 rfl (lv_at hl 1 rfl) ?_
  refine va_get (D := (dC, dI)) (ci := 3) (v := .ref pa_rows) (C := RX3) (T := TX3) (N := 3) hx hb hts inv_X3_append_X3 hown hK hP 0 rfl rfl 0 (by decide) (hts (.fieldLink RX3 11 "ArraySegments$Program" "rows" "[I") (List.mem_of_getElem? (i := 2) rfl)) (fun _ h9 => h9) rfl dX3_append_18 ?_
  refine lv_iload hx hb dX3_append_21 (lv_at hl 0 rfl) ?_
  refine lv_iconst (v := 1) hx hb dX3_append_23 (by decide) ?_
  refine sf_iadd hx hb dX3_append_24 ⟨by omega, by omega⟩ (fun v_3 q_v_3 => ?_)
  refine lv_iload_n hx hb dX3_append_25 rfl (lv_at hl 3 rfl) ?_
  refine va_iast hx hb hK hP hD hS 1 0 rfl rfl (vp_in_iff.mpr ⟨by omega, by omega⟩) dX3_append_26 (fun H_4 locs_4 hP1 hD1 hS1 => ?_)
  rw [show (v_3).toNatClampNeg = 6 * p_count.toInt.toNat + 1 from by have := nn_cl (z := v_3) (by omega); omega] at hP1 hD1
  replace hP : va_P (dC, dI) vwCl [(ph, .inr (3, [.ref pa_rows, .ref pa_dropped, .int p_count])), (pa_rows, .inl (cI, 240, .inl (upd (upd pc_rows (6 * p_count.toInt.toNat) ka) (6 * p_count.toInt.toNat + 1) aa))), (pa_dropped, .inl (cZ, 40, .inl pc_dropped))] H_4 := hP1
  replace hD : va_D A [(ph, .inr (3, [.ref pa_rows, .ref pa_dropped, .int p_count])), (pa_rows, .inl (cI, 240, .inl (upd (upd pc_rows (6 * p_count.toInt.toNat) ka) (6 * p_count.toInt.toNat + 1) aa))), (pa_dropped, .inl (cZ, 40, .inl pc_dropped))] := hD1
  replace hS := hS1
  clear hP1 hD1 hS1
  refine lv_aload_n hx hb dX3_append_27 rfl (lv_at hl 1 rfl) ?_
  refine va_get (D := (dC, dI)) (ci := 3) (v := .ref pa_rows) (C := RX3) (T := TX3) (N := 3) hx hb hts inv_X3_append_X3 hown hK hP 0 rfl rfl 0 (by decide) (hts (.fieldLink RX3 11 "ArraySegments$Program" "rows" "[I") (List.mem_of_getElem? (i := 2) rfl)) (fun _ h9 => h9) rfl dX3_append_28 ?_
  refine lv_iload hx hb dX3_append_31 (lv_at hl 0 rfl) ?_
  refine lv_iconst (v := 2) hx hb dX3_append_33 (by decide) ?_
  refine sf_iadd hx hb dX3_append_34 ⟨by omega, by omega⟩ (fun v_5 q_v_5 => ?_)
  refine lv_iload_n hx hb dX3_append_35 rfl (lv_at hl 4 rfl) ?_
  refine va_iast hx hb hK hP hD hS 1 0 rfl rfl (vp_in_iff.mpr ⟨by omega, by omega⟩) dX3_append_36 (fun H_6 locs_6 hP1 hD1 hS1 => ?_)
  rw [show (v_5).toNatClampNeg = 6 * p_count.toInt.toNat + 2 from by have := nn_cl (z := v_5) (by omega); omega] at hP1 hD1
  replace hP : va_P (dC, dI) vwCl [(ph, .inr (3, [.ref pa_rows, .ref pa_dropped, .int p_count])), (pa_rows, .inl (cI, 240, .inl (upd (upd (upd pc_rows (6 * p_count.toInt.toNat) ka) (6 * p_count.toInt.toNat + 1) aa) (6 * p_count.toInt.toNat + 2) ba))), (pa_dropped, .inl (cZ, 40, .inl pc_dropped))] H_6 := hP1
  replace hD : va_D A [(ph, .inr (3, [.ref pa_rows, .ref pa_dropped, .int p_count])), (pa_rows, .inl (cI, 240, .inl (upd (upd (upd pc_rows (6 * p_count.toInt.toNat) ka) (6 * p_count.toInt.toNat + 1) aa) (6 * p_count.toInt.toNat + 2) ba))), (pa_dropped, .inl (cZ, 40, .inl pc_dropped))] := hD1
  replace hS := hS1
  clear hP1 hD1 hS1
  refine lv_aload_n hx hb dX3_append_37 rfl (lv_at hl 1 rfl) ?_
  refine va_get (D := (dC, dI)) (ci := 3) (v := .ref pa_rows) (C := RX3) (T := TX3) (N := 3) hx hb hts inv_X3_append_X3 hown hK hP 0 rfl rfl 0 (by decide) (hts (.fieldLink RX3 11 "ArraySegments$Program" "rows" "[I") (List.mem_of_getElem? (i := 2) rfl)) (fun _ h9 => h9) rfl dX3_append_38 ?_
  refine lv_iload hx hb dX3_append_41 (lv_at hl 0 rfl) ?_
  refine lv_iconst (v := 3) hx hb dX3_append_43 (by decide) ?_
  refine sf_iadd hx hb dX3_append_44 ⟨by omega, by omega⟩ (fun v_7 q_v_7 => ?_)
  refine lv_iload hx hb dX3_append_45 (lv_at hl 5 rfl) ?_
  refine va_iast hx hb hK hP hD hS 1 0 rfl rfl (vp_in_iff.mpr ⟨by omega, by omega⟩) dX3_append_47 (fun H_8 locs_8 hP1 hD1 hS1 => ?_)
  rw [show (v_7).toNatClampNeg = 6 * p_count.toInt.toNat + 3 from by have := nn_cl (z := v_7) (by omega); omega] at hP1 hD1
  replace hP : va_P (dC, dI) vwCl [(ph, .inr (3, [.ref pa_rows, .ref pa_dropped, .int p_count])), (pa_rows, .inl (cI, 240, .inl (upd (upd (upd (upd pc_rows (6 * p_count.toInt.toNat) ka) (6 * p_count.toInt.toNat + 1) aa) (6 * p_count.toInt.toNat + 2) ba) (6 * p_count.toInt.toNat + 3) ca))), (pa_dropped, .inl (cZ, 40, .inl pc_dropped))] H_8 := hP1
  replace hD : va_D A [(ph, .inr (3, [.ref pa_rows, .ref pa_dropped, .int p_count])), (pa_rows, .inl (cI, 240, .inl (upd (upd (upd (upd pc_rows (6 * p_count.toInt.toNat) ka) (6 * p_count.toInt.toNat + 1) aa) (6 * p_count.toInt.toNat + 2) ba) (6 * p_count.toInt.toNat + 3) ca))), (pa_dropped, .inl (cZ, 40, .inl pc_dropped))] := hD1
  replace hS := hS1
  clear hP1 hD1 hS1
  refine lv_aload_n hx hb dX3_append_48 rfl (lv_at hl 1 rfl) ?_
  refine va_get (D := (dC, dI)) (ci := 3) (v := .ref pa_rows) (C := RX3) (T := TX3) (N := 3) hx hb hts inv_X3_append_X3 hown hK hP 0 rfl rfl 0 (by decide) (hts (.fieldLink RX3 11 "ArraySegments$Program" "rows" "[I") (List.mem_of_getElem? (i := 2) rfl)) (fun _ h9 => h9) rfl dX3_append_49 ?_
  refine lv_iload hx hb dX3_append_52 (lv_at hl 0 rfl) ?_
  refine lv_iconst (v := 4) hx hb dX3_append_54 (by decide) ?_
  refine sf_iadd hx hb dX3_append_55 ⟨by omega, by omega⟩ (fun v_9 q_v_9 => ?_)
  refine lv_iload hx hb dX3_append_56 (lv_at hl 6 rfl) ?_
  refine va_iast hx hb hK hP hD hS 1 0 rfl rfl (vp_in_iff.mpr ⟨by omega, by omega⟩) dX3_append_58 (fun H_10 locs_10 hP1 hD1 hS1 => ?_)
  rw [show (v_9).toNatClampNeg = 6 * p_count.toInt.toNat + 4 from by have := nn_cl (z := v_9) (by omega); omega] at hP1 hD1
  replace hP : va_P (dC, dI) vwCl [(ph, .inr (3, [.ref pa_rows, .ref pa_dropped, .int p_count])), (pa_rows, .inl (cI, 240, .inl (upd (upd (upd (upd (upd pc_rows (6 * p_count.toInt.toNat) ka) (6 * p_count.toInt.toNat + 1) aa) (6 * p_count.toInt.toNat + 2) ba) (6 * p_count.toInt.toNat + 3) ca) (6 * p_count.toInt.toNat + 4) da))), (pa_dropped, .inl (cZ, 40, .inl pc_dropped))] H_10 := hP1
  replace hD : va_D A [(ph, .inr (3, [.ref pa_rows, .ref pa_dropped, .int p_count])), (pa_rows, .inl (cI, 240, .inl (upd (upd (upd (upd (upd pc_rows (6 * p_count.toInt.toNat) ka) (6 * p_count.toInt.toNat + 1) aa) (6 * p_count.toInt.toNat + 2) ba) (6 * p_count.toInt.toNat + 3) ca) (6 * p_count.toInt.toNat + 4) da))), (pa_dropped, .inl (cZ, 40, .inl pc_dropped))] := hD1
  replace hS := hS1
  clear hP1 hD1 hS1
  refine lv_aload_n hx hb dX3_append_59 rfl (lv_at hl 1 rfl) ?_
  refine va_get (D := (dC, dI)) (ci := 3) (v := .ref pa_rows) (C := RX3) (T := TX3) (N := 3) hx hb hts inv_X3_append_X3 hown hK hP 0 rfl rfl 0 (by decide) (hts (.fieldLink RX3 11 "ArraySegments$Program" "rows" "[I") (List.mem_of_getElem? (i := 2) rfl)) (fun _ h9 => h9) rfl dX3_append_60 ?_
  refine lv_iload hx hb dX3_append_63 (lv_at hl 0 rfl) ?_
  refine lv_iconst (v := 5) hx hb dX3_append_65 (by decide) ?_
  refine sf_iadd hx hb dX3_append_66 ⟨by omega, by omega⟩ (fun v_11 q_v_11 => ?_)
  refine lv_iload hx hb dX3_append_67 (lv_at hl 7 rfl) ?_
  refine va_iast hx hb hK hP hD hS 1 0 rfl rfl (vp_in_iff.mpr ⟨by omega, by omega⟩) dX3_append_69 (fun H_12 locs_12 hP1 hD1 hS1 => ?_)
  rw [show (v_11).toNatClampNeg = 6 * p_count.toInt.toNat + 5 from by have := nn_cl (z := v_11) (by omega); omega] at hP1 hD1
  replace hP : va_P (dC, dI) vwCl [(ph, .inr (3, [.ref pa_rows, .ref pa_dropped, .int p_count])), (pa_rows, .inl (cI, 240, .inl (upd (upd (upd (upd (upd (upd pc_rows (6 * p_count.toInt.toNat) ka) (6 * p_count.toInt.toNat + 1) aa) (6 * p_count.toInt.toNat + 2) ba) (6 * p_count.toInt.toNat + 3) ca) (6 * p_count.toInt.toNat + 4) da) (6 * p_count.toInt.toNat + 5) ea))), (pa_dropped, .inl (cZ, 40, .inl pc_dropped))] H_12 := hP1
  replace hD : va_D A [(ph, .inr (3, [.ref pa_rows, .ref pa_dropped, .int p_count])), (pa_rows, .inl (cI, 240, .inl (upd (upd (upd (upd (upd (upd pc_rows (6 * p_count.toInt.toNat) ka) (6 * p_count.toInt.toNat + 1) aa) (6 * p_count.toInt.toNat + 2) ba) (6 * p_count.toInt.toNat + 3) ca) (6 * p_count.toInt.toNat + 4) da) (6 * p_count.toInt.toNat + 5) ea))), (pa_dropped, .inl (cZ, 40, .inl pc_dropped))] := hD1
  replace hS := hS1
  clear hP1 hD1 hS1
  refine lv_aload_n hx hb dX3_append_70 rfl (lv_at hl 1 rfl) ?_
  refine va_get (D := (dC, dI)) (ci := 3) (v := .ref pa_dropped) (C := RX3) (T := TX3) (N := 3) hx hb hts inv_X3_append_X3 hown hK hP 0 rfl rfl 1 (by decide) (hts (.fieldLink RX3 15 "ArraySegments$Program" "dropped" "[Z") (List.mem_of_getElem? (i := 3) rfl)) (fun _ h9 => h9) rfl dX3_append_71 ?_
  refine lv_aload_n hx hb dX3_append_74 rfl (lv_at hl 1 rfl) ?_
  refine va_get (D := (dC, dI)) (ci := 3) (v := .int p_count) (C := RX3) (T := TX3) (N := 3) hx hb hts inv_X3_append_X3 hown hK hP 0 rfl rfl 2 (by decide) (hts (.fieldLink RX3 19 "ArraySegments$Program" "count" "I") (List.mem_of_getElem? (i := 1) rfl)) (fun _ h9 => h9) rfl dX3_append_75 ?_
  refine lv_iconst (v := 0) hx hb dX3_append_78 (by decide) ?_
  refine va_zast hx hb hK hP hD hS 2 2 rfl rfl (vp_in_iff.mpr ⟨by omega, by omega⟩) dX3_append_79 (fun H_13 locs_13 hP1 hD1 hS1 => ?_)
  rw [show (p_count).toNatClampNeg = p_count.toInt.toNat from by have := nn_cl (z := p_count) (by omega); omega] at hP1 hD1
  rw [show vp_nar .boolean 0 = 0 from rfl] at hP1 hD1
  replace hP : va_P (dC, dI) vwCl [(ph, .inr (3, [.ref pa_rows, .ref pa_dropped, .int p_count])), (pa_rows, .inl (cI, 240, .inl (upd (upd (upd (upd (upd (upd pc_rows (6 * p_count.toInt.toNat) ka) (6 * p_count.toInt.toNat + 1) aa) (6 * p_count.toInt.toNat + 2) ba) (6 * p_count.toInt.toNat + 3) ca) (6 * p_count.toInt.toNat + 4) da) (6 * p_count.toInt.toNat + 5) ea))), (pa_dropped, .inl (cZ, 40, .inl (upd pc_dropped (p_count.toInt.toNat) 0)))] H_13 := hP1
  replace hD : va_D A [(ph, .inr (3, [.ref pa_rows, .ref pa_dropped, .int p_count])), (pa_rows, .inl (cI, 240, .inl (upd (upd (upd (upd (upd (upd pc_rows (6 * p_count.toInt.toNat) ka) (6 * p_count.toInt.toNat + 1) aa) (6 * p_count.toInt.toNat + 2) ba) (6 * p_count.toInt.toNat + 3) ca) (6 * p_count.toInt.toNat + 4) da) (6 * p_count.toInt.toNat + 5) ea))), (pa_dropped, .inl (cZ, 40, .inl (upd pc_dropped (p_count.toInt.toNat) 0)))] := hD1
  replace hS := hS1
  clear hP1 hD1 hS1
  refine lv_aload_n hx hb dX3_append_80 rfl (lv_at hl 1 rfl) ?_
  refine lv_dup hx hb dX3_append_81 rfl ?_
  refine va_get (D := (dC, dI)) (ci := 3) (v := .int p_count) (C := RX3) (T := TX3) (N := 3) hx hb hts inv_X3_append_X3 hown hK hP 0 rfl rfl 2 (by decide) (hts (.fieldLink RX3 19 "ArraySegments$Program" "count" "I") (List.mem_of_getElem? (i := 1) rfl)) (fun _ h9 => h9) rfl dX3_append_82 ?_
  refine lv_iconst (v := 1) hx hb dX3_append_85 (by decide) ?_
  refine sf_iadd hx hb dX3_append_86 ⟨by omega, by omega⟩ (fun v_14 q_v_14 => ?_)
  refine va_put (D := (dC, dI)) (ci := 3) (v := .int v_14) (ty := .int) (C := RX3) (T := TX3) (N := 3) hx hb hts inv_X3_append_X3 tyX3 tyX3_ok nmX3 hown hK hP hD hS 0 rfl rfl 2 (by decide) (hts (.fieldLink RX3 19 "ArraySegments$Program" "count" "I") (List.mem_of_getElem? (i := 1) rfl)) (fun _ h9 => h9) rfl (by decide +kernel) rfl rfl (Nat.le_of_ble_eq_true rfl) dX3_append_87 (fun H_15 locs_15 hP1 hD1 hS1 => ?_)
  replace hP : va_P (dC, dI) vwCl [(ph, .inr (3, [.ref pa_rows, .ref pa_dropped, .int v_14])), (pa_rows, .inl (cI, 240, .inl (upd (upd (upd (upd (upd (upd pc_rows (6 * p_count.toInt.toNat) ka) (6 * p_count.toInt.toNat + 1) aa) (6 * p_count.toInt.toNat + 2) ba) (6 * p_count.toInt.toNat + 3) ca) (6 * p_count.toInt.toNat + 4) da) (6 * p_count.toInt.toNat + 5) ea))), (pa_dropped, .inl (cZ, 40, .inl (upd pc_dropped (p_count.toInt.toNat) 0)))] H_15 := hP1
  replace hD : va_D A [(ph, .inr (3, [.ref pa_rows, .ref pa_dropped, .int v_14])), (pa_rows, .inl (cI, 240, .inl (upd (upd (upd (upd (upd (upd pc_rows (6 * p_count.toInt.toNat) ka) (6 * p_count.toInt.toNat + 1) aa) (6 * p_count.toInt.toNat + 2) ba) (6 * p_count.toInt.toNat + 3) ca) (6 * p_count.toInt.toNat + 4) da) (6 * p_count.toInt.toNat + 5) ea))), (pa_dropped, .inl (cZ, 40, .inl (upd pc_dropped (p_count.toInt.toNat) 0)))] := hD1
  replace hS := hS1
  clear hP1 hD1 hS1
  refine lv_aload_n hx hb dX3_append_90 rfl (lv_at hl 1 rfl) ?_
  refine va_get (D := (dC, dI)) (ci := 3) (v := .int v_14) (C := RX3) (T := TX3) (N := 3) hx hb hts inv_X3_append_X3 hown hK hP 0 rfl rfl 2 (by decide) (hts (.fieldLink RX3 19 "ArraySegments$Program" "count" "I") (List.mem_of_getElem? (i := 1) rfl)) (fun _ h9 => h9) rfl dX3_append_91 ?_
  refine lv_iconst (v := 1) hx hb dX3_append_94 (by decide) ?_
  refine sf_isub hx hb dX3_append_95 ⟨by omega, by omega⟩ (fun v_16 q_v_16 => ?_)
  have hP9 := hP.sub (ws' := [(ph, .inr (3, [.ref pa_rows, .ref pa_dropped, .int v_14])), (pa_rows, .inl (cI, 240, .inl (upd (upd (upd (upd (upd (upd pc_rows (6 * p_count.toInt.toNat) ka) (6 * p_count.toInt.toNat + 1) aa) (6 * p_count.toInt.toNat + 2) ba) (6 * p_count.toInt.toNat + 3) ca) (6 * p_count.toInt.toNat + 4) da) (6 * p_count.toInt.toNat + 5) ea))), (pa_dropped, .inl (cZ, 40, .inl (upd pc_dropped (p_count.toInt.toNat) 0)))]) [0, 1, 2] rfl
  have hD9 := hD.sub (ws' := [(ph, .inr (3, [.ref pa_rows, .ref pa_dropped, .int v_14])), (pa_rows, .inl (cI, 240, .inl (upd (upd (upd (upd (upd (upd pc_rows (6 * p_count.toInt.toNat) ka) (6 * p_count.toInt.toNat + 1) aa) (6 * p_count.toInt.toNat + 2) ba) (6 * p_count.toInt.toNat + 3) ca) (6 * p_count.toInt.toNat + 4) da) (6 * p_count.toInt.toNat + 5) ea))), (pa_dropped, .inl (cZ, 40, .inl (upd pc_dropped (p_count.toInt.toNat) 0)))]) [0, 1, 2] (by decide) rfl
  exact W.iret (v := v_16) hx hb hr (fun t ht hW => ⟨⟨v_16, (v_14, (upd (upd (upd (upd (upd (upd pc_rows (6 * p_count.toInt.toNat) ka) (6 * p_count.toInt.toNat + 1) aa) (6 * p_count.toInt.toNat + 2) ba) (6 * p_count.toInt.toNat + 3) ca) (6 * p_count.toInt.toNat + 4) da) (6 * p_count.toInt.toNat + 5) ea), (upd pc_dropped (p_count.toInt.toNat) 0)), rfl, ⟨(show v_16.toInt = p_count.toInt from (by first | assumption | omega)), (show v_14.toInt = p_count.toInt + 1 from (by omega)), (show (upd (upd (upd (upd (upd (upd pc_rows (6 * p_count.toInt.toNat) ka) (6 * p_count.toInt.toNat + 1) aa) (6 * p_count.toInt.toNat + 2) ba) (6 * p_count.toInt.toNat + 3) ca) (6 * p_count.toInt.toNat + 4) da) (6 * p_count.toInt.toNat + 5) ea) = (upd (upd (upd (upd (upd (upd pc_rows (6 * p_count.toInt.toNat) ka) (6 * p_count.toInt.toNat + 1) aa) (6 * p_count.toInt.toNat + 2) ba) (6 * p_count.toInt.toNat + 3) ca) (6 * p_count.toInt.toNat + 4) da) (6 * p_count.toInt.toNat + 5) ea) from rfl), (show (upd pc_dropped (p_count.toInt.toNat) 0) = (upd pc_dropped (p_count.toInt.toNat) 0) from rfl)⟩, by rw [ht]; exact hP9, va_K.moved hW.alike hK, hD9⟩, hS.F ht⟩) hS.2.2 dX3_append_96
