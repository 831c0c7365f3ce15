def v_X2_forget : List Cond := .code yX2_forget cX2_forget 2 none :: ([.fieldLink RX2 9 "ArraySegments$Machine" "hasRun" "Z", .fieldLink RX2 15 "ArraySegments$Machine" "thrown" "I", .fieldLink RX2 19 "ArraySegments$Machine" "thrownAt" "I", .fieldLink RX2 22 "ArraySegments$Machine" "values" "[I", .fieldLink RX2 26 "ArraySegments$Machine" "meant" "[I"] ++ (wsX20))
theorem inv_X2_forget_X2 : ∀ w ∈ wsX20, w ∈ v_X2_forget := fun _ h => List.mem_cons_of_mem _ (List.mem_append_right _ (h))
set_option maxRecDepth 20000 in
theorem gd_X2_forget : gdL v_X2_forget := gdC (gdW (by decide +kernel)) (gdA (gdW (by decide +kernel)) gd_wsX20)
abbrev sw_X2_forget (cI cJ cZ : ClassId) (mh : Nat) (m_hasRun : Int32) (m_thrown : Int32) (m_thrownAt : Int32) (ma_values : Nat) (ma_meant : Nat) (m_lanes : Value) (m_lengths : Value) (m_cells : Value) (m_state : Int64) (mc_values : Nat → Int32) (mc_meant : Nat → Int32) : va_W := [(mh, .inr (2, [.int m_hasRun, .int m_thrown, .int m_thrownAt, .ref ma_values, .ref ma_meant, m_lanes, m_lengths, m_cells, .long m_state])), (ma_values, .inl (cI, 6, .inl mc_values)), (ma_meant, .inl (cI, 6, .inl mc_meant))]
set_option maxHeartbeats 8000000 in
set_option maxRecDepth 100000 in
theorem s_X2_forget (l : Launch) (dC : Nat → ClassId) (dI : Nat → Nat → Nat) (cI cJ cZ : ClassId) (mh : Nat) (m_hasRun : Int32) (m_thrown : Int32) (m_thrownAt : Int32) (ma_values : Nat) (ma_meant : Nat) (m_lanes : Value) (m_lengths : Value) (m_cells : Value) (m_state : Int64) (mc_values : Nat → Int32) (mc_meant : Nat → Int32) (sz : Nat) (q_m_hasRun : kZ m_hasRun) (h_mc_meant : ∀ j : Nat, kSITE (mc_meant j)) : Met l yX2_forget v_X2_forget ({ frames := 0, cells := 0, slots := 0, locals := 0 }) (va_Pc [.ref mh] (cPre dC dI cI cJ cZ sz (sw_X2_forget cI cJ cZ mh m_hasRun m_thrown m_thrownAt ma_values ma_meant m_lanes m_lengths m_cells m_state mc_values mc_meant))) (va_Qv (fun (u : Int32 × Int32 × Int32 × (Nat → Int32) × (Nat → Int32)) => (kZ (u.1)) ∧ (∀ j : Nat, kSITE ((u.2.2.2.2) j)) ∧ (∀ j : Nat, j < 6 → ((u.2.2.2.1) j).toInt = 0) ∧ (∀ j : Nat, j < 6 → ((u.2.2.2.2) j).toInt = -1) ∧ ((u.2.1) = 0) ∧ ((u.2.2.1) = -1)) (fun (u : Int32 × Int32 × Int32 × (Nat → Int32) × (Nat → Int32)) => cPost dC dI cI cJ cZ (va_A (sw_X2_forget cI cJ cZ mh m_hasRun m_thrown m_thrownAt ma_values ma_meant m_lanes m_lengths m_cells m_state mc_values mc_meant) sz) [(mh, .inr (2, [.int (u.1), .int (u.2.1), .int (u.2.2.1), .ref ma_values, .ref ma_meant, m_lanes, m_lengths, m_cells, .long m_state])), (ma_values, .inl (cI, 6, .inl (u.2.2.2.1))), (ma_meant, .inl (cI, 6, .inl (u.2.2.2.2)))]) (va_A (sw_X2_forget cI cJ cZ mh m_hasRun m_thrown m_thrownAt ma_values ma_meant m_lanes m_lengths m_cells m_state mc_values mc_meant) sz)) 0 0 (va_A (sw_X2_forget cI cJ cZ mh m_hasRun m_thrown m_thrownAt ma_values ma_meant m_lanes m_lengths m_cells m_state mc_values mc_meant) sz) := by
  refine Met.ofW (cc := cX2_forget) (maxL := 2) (ret := none) (by decide) rfl ?_
  intro p e s m args below meth c s₁ B hml hv
  obtain ⟨rfl, hsz, hP, hK, hD0, hN⟩ := hv
  have hx := B.exec
  have hb := B.bytes
  have hr := B.returns
  have hts := atoms_spec (ws := v_X2_forget) B.pre
  have hown : s.vm.findClass RX2 = some m.cls := findClass_of_methodNamed B.named
  have hlocks := B.notSynchronized
  subst hsz
  have hD := hD0.self (sz := s.heap.size)
  generalize hAe : va_A (sw_X2_forget cI cJ cZ mh m_hasRun m_thrown m_thrownAt ma_values ma_meant m_lanes m_lengths m_cells m_state mc_values mc_meant) s.heap.size = A at hD ⊢
  have hA : ∀ q : Nat, s.heap.size ≤ q → A q := fun q h => by rw [← hAe]; exact Or.inr h
  clear hAe hD0
  have hS : va_S A s.heap s.heap [] := va_S.rf
  replace hP : va_P (dC, dI) vwCl [(mh, .inr (2, [.int m_hasRun, .int m_thrown, .int m_thrownAt, .ref ma_values, .ref ma_meant, m_lanes, m_lengths, m_cells, .long m_state])), (ma_values, .inl (cI, 6, .inl mc_values)), (ma_meant, .inl (cI, 6, .inl mc_meant))] s.heap := hP
  replace hD : va_D A [(mh, .inr (2, [.int m_hasRun, .int m_thrown, .int m_thrownAt, .ref ma_values, .ref ma_meant, m_lanes, m_lengths, m_cells, .long m_state])), (ma_values, .inl (cI, 6, .inl mc_values)), (ma_meant, .inl (cI, 6, .inl mc_meant))] := hD
  have hl := lv_entry ([.ref mh]) (n := 2) (Nat.le_of_ble_eq_true rfl)
  rw [lg_entry_eq]
  generalize (lg_sl ([.ref mh]) ++ List.replicate (2 - (lg_sl ([.ref mh])).length) Slot.unset).toArray = ls at hl ⊢
  replace hl : lv_has ls 2 [(0, .ref mh)] := hl
  have z_m1 : (-1 : Int32).toInt = -1 := by decide
  have z_0 : (0 : Int32).toInt = 0 := by decide
  have z_1 : (1 : Int32).toInt = 1 := by decide
  have z_6 : (6 : Int32).toInt = 6 := by decide
  refine lv_aload_n hx hb dX2_forget_0 rfl (lv_at hl 0 rfl) ?_
  refine lv_iconst (v := 0) hx hb dX2_forget_1 (by decide) ?_
  refine va_put (D := (dC, dI)) (ci := 2) (v := .int 0) (ty := .boolean) (C := RX2) (T := TX2) (N := 9) hx hb hts inv_X2_forget_X2 tyX2 tyX2_ok nmX2 hown hK hP hD hS 0 rfl rfl 0 (by decide) (hts (.fieldLink RX2 9 "ArraySegments$Machine" "hasRun" "Z") (List.mem_of_getElem? (i := 1) rfl)) (fun _ h9 => h9) rfl (by decide +kernel) rfl rfl (Nat.le_of_ble_eq_true rfl) dX2_forget_2 (fun H_1 locs_1 hP1 hD1 hS1 => ?_)
  replace hP : va_P (dC, dI) vwCl [(mh, .inr (2, [.int 0, .int m_thrown, .int m_thrownAt, .ref ma_values, .ref ma_meant, m_lanes, m_lengths, m_cells, .long m_state])), (ma_values, .inl (cI, 6, .inl mc_values)), (ma_meant, .inl (cI, 6, .inl mc_meant))] H_1 := hP1
  replace hD : va_D A [(mh, .inr (2, [.int 0, .int m_thrown, .int m_thrownAt, .ref ma_values, .ref ma_meant, m_lanes, m_lengths, m_cells, .long m_state])), (ma_values, .inl (cI, 6, .inl mc_values)), (ma_meant, .inl (cI, 6, .inl mc_meant))] := hD1
  replace hS := hS1
  clear hP1 hD1 hS1
  refine lv_aload_n hx hb dX2_forget_5 rfl (lv_at hl 0 rfl) ?_
  refine lv_iconst (v := 0) hx hb dX2_forget_6 (by decide) ?_
  refine va_put (D := (dC, dI)) (ci := 2) (v := .int 0) (ty := .int) (C := RX2) (T := TX2) (N := 9) hx hb hts inv_X2_forget_X2 tyX2 tyX2_ok nmX2 hown hK hP hD hS 0 rfl rfl 1 (by decide) (hts (.fieldLink RX2 15 "ArraySegments$Machine" "thrown" "I") (List.mem_of_getElem? (i := 2) rfl)) (fun _ h9 => h9) rfl (by decide +kernel) rfl rfl (Nat.le_of_ble_eq_true rfl) dX2_forget_7 (fun H_2 locs_2 hP1 hD1 hS1 => ?_)
  replace hP : va_P (dC, dI) vwCl [(mh, .inr (2, [.int 0, .int 0, .int m_thrownAt, .ref ma_values, .ref ma_meant, m_lanes, m_lengths, m_cells, .long m_state])), (ma_values, .inl (cI, 6, .inl mc_values)), (ma_meant, .inl (cI, 6, .inl mc_meant))] H_2 := hP1
  replace hD : va_D A [(mh, .inr (2, [.int 0, .int 0, .int m_thrownAt, .ref ma_values, .ref ma_meant, m_lanes, m_lengths, m_cells, .long m_state])), (ma_values, .inl (cI, 6, .inl mc_values)), (ma_meant, .inl (cI, 6, .inl mc_meant))] := hD1
  replace hS := hS1
  clear hP1 hD1 hS1
  refine lv_aload_n hx hb dX2_forget_10 rfl (lv_at hl 0 rfl) ?_
  refine lv_iconst (v := (-1)) hx hb dX2_forget_11 (by decide) ?_
  refine va_put (D := (dC, dI)) (ci := 2) (v := .int (-1)) (ty := .int) (C := RX2) (T := TX2) (N := 9) hx hb hts inv_X2_forget_X2 tyX2 tyX2_ok nmX2 hown hK hP hD hS 0 rfl rfl 2 (by decide) (hts (.fieldLink RX2 19 "ArraySegments$Machine" "thrownAt" "I") (List.mem_of_getElem? (i := 3) rfl)) (fun _ h9 => h9) rfl (by decide +kernel) rfl rfl (Nat.le_of_ble_eq_true rfl) dX2_forget_12 (fun H_3 locs_3 hP1 hD1 hS1 => ?_)
  replace hP : va_P (dC, dI) vwCl [(mh, .inr (2, [.int 0, .int 0, .int (-1), .ref ma_values, .ref ma_meant, m_lanes, m_lengths, m_cells, .long m_state])), (ma_values, .inl (cI, 6, .inl mc_values)), (ma_meant, .inl (cI, 6, .inl mc_meant))] H_3 := hP1
  replace hD : va_D A [(mh, .inr (2, [.int 0, .int 0, .int (-1), .ref ma_values, .ref ma_meant, m_lanes, m_lengths, m_cells, .long m_state])), (ma_values, .inl (cI, 6, .inl mc_values)), (ma_meant, .inl (cI, 6, .inl mc_meant))] := hD1
  replace hS := hS1
  clear hP1 hD1 hS1
  refine lv_iconst (v := 0) hx hb dX2_forget_15 (by decide) ?_
  refine lv_istore_n (lv' := [(1, .int 0), (0, .ref mh)]) hx hb dX2_forget_16 rfl hl (by decide) rfl (fun ls1 hl1 => ?_)
  replace hl := hl1; clear hl1
  refine my_wloop (S := Int32 × (Nat → Int32)) (fun u => (0 ≤ (u.1).toInt ∧ (u.1).toInt ≤ 6) ∧ (∀ j : Nat, (j : Int) < (u.1).toInt → ((u.2) j).toInt = 0)) (fun u => (6 - (u.1).toInt).toNat) (fun u => [(mh, .inr (2, [.int 0, .int 0, .int (-1), .ref ma_values, .ref ma_meant, m_lanes, m_lengths, m_cells, .long m_state])), (ma_values, .inl (cI, 6, .inl (u.2))), (ma_meant, .inl (cI, 6, .inl mc_meant))]) (fun u => [(1, .int (u.1)), (0, .ref mh)]) (H0 := s.heap) (A := A) (D := (dC, dI)) (cl := vwCl) ((0 : Int32), mc_values) (show (0 ≤ (0 : Int32).toInt ∧ (0 : Int32).toInt ≤ 6) ∧ (∀ j : Nat, (j : Int) < (0 : Int32).toInt → (mc_values j).toInt = 0) from ⟨⟨by omega, by omega⟩, (fun j hj => by omega)⟩) (by exact hP) (by exact hD) hS (by exact hl) (fun u_4 hu_4 ih_4 H_4 locs_4 ls1 hP1 hD1 hS1 hl1 => ?_)
  obtain ⟨v_5, f_6⟩ := u_4
  replace hu_4 : (0 ≤ v_5.toInt ∧ v_5.toInt ≤ 6) ∧ (∀ j : Nat, (j : Int) < v_5.toInt → (f_6 j).toInt = 0) := hu_4
  obtain ⟨q_v_5, x_4_0⟩ := hu_4
  replace hP : va_P (dC, dI) vwCl [(mh, .inr (2, [.int 0, .int 0, .int (-1), .ref ma_values, .ref ma_meant, m_lanes, m_lengths, m_cells, .long m_state])), (ma_values, .inl (cI, 6, .inl f_6)), (ma_meant, .inl (cI, 6, .inl mc_meant))] H_4 := hP1
  replace hD : va_D A [(mh, .inr (2, [.int 0, .int 0, .int (-1), .ref ma_values, .ref ma_meant, m_lanes, m_lengths, m_cells, .long m_state])), (ma_values, .inl (cI, 6, .inl f_6)), (ma_meant, .inl (cI, 6, .inl mc_meant))] := hD1
  replace hS := hS1
  clear hP1 hD1 hS1
  replace hl : lv_has ls1 2 [(1, .int v_5), (0, .ref mh)] := hl1
  clear hl1
  refine lv_iload_n hx hb dX2_forget_17 rfl (lv_at hl 0 rfl) ?_
  refine lv_bipush (v := 6) hx hb dX2_forget_18 (by decide) ?_
  refine lv_icmp_ge (tgt := 36) hx hb dX2_forget_20 (by decide) (fun c_7 => ?_) (fun c_7 => ?_)
  · -- yes
    have k_7 : (6 : Int32).toInt ≤ v_5.toInt := ci_ge c_7
    refine lv_iconst (v := 0) hx hb dX2_forget_36 (by decide) ?_
    refine lv_istore_n (lv' := [(1, .int 0), (0, .ref mh)]) hx hb dX2_forget_37 rfl hl (by decide) rfl (fun ls1 hl1 => ?_)
    replace hl := hl1; clear hl1
    refine my_wloop (S := Int32 × (Nat → Int32)) (fun u => (0 ≤ (u.1).toInt ∧ (u.1).toInt ≤ 6) ∧ (∀ j : Nat, kSITE ((u.2) j)) ∧ (∀ j : Nat, (j : Int) < (u.1).toInt → ((u.2) j).toInt = -1)) (fun u => (6 - (u.1).toInt).toNat) (fun u => [(mh, .inr (2, [.int 0, .int 0, .int (-1), .ref ma_values, .ref ma_meant, m_lanes, m_lengths, m_cells, .long m_state])), (ma_values, .inl (cI, 6, .inl f_6)), (ma_meant, .inl (cI, 6, .inl (u.2)))]) (fun u => [(1, .int (u.1)), (0, .ref mh)]) (H0 := s.heap) (A := A) (D := (dC, dI)) (cl := vwCl) ((0 : Int32), mc_meant) (show (0 ≤ (0 : Int32).toInt ∧ (0 : Int32).toInt ≤ 6) ∧ (∀ j : Nat, kSITE (mc_meant j)) ∧ (∀ j : Nat, (j : Int) < (0 : Int32).toInt → (mc_meant j).toInt = -1) from ⟨⟨by omega, by omega⟩, h_mc_meant, (fun j hj => by omega)⟩) (by exact hP) (by exact hD) hS (by exact hl) (fun u_8 hu_8 ih_8 H_8 locs_8 ls1 hP1 hD1 hS1 hl1 => ?_)
    obtain ⟨v_9, f_10⟩ := u_8
    replace hu_8 : (0 ≤ v_9.toInt ∧ v_9.toInt ≤ 6) ∧ (∀ j : Nat, kSITE (f_10 j)) ∧ (∀ j : Nat, (j : Int) < v_9.toInt → (f_10 j).toInt = -1) := hu_8
    obtain ⟨q_v_9, h_f_10, x_8_0⟩ := hu_8
    replace hP : va_P (dC, dI) vwCl [(mh, .inr (2, [.int 0, .int 0, .int (-1), .ref ma_values, .ref ma_meant, m_lanes, m_lengths, m_cells, .long m_state])), (ma_values, .inl (cI, 6, .inl f_6)), (ma_meant, .inl (cI, 6, .inl f_10))] H_8 := hP1
    replace hD : va_D A [(mh, .inr (2, [.int 0, .int 0, .int (-1), .ref ma_values, .ref ma_meant, m_lanes, m_lengths, m_cells, .long m_state])), (ma_values, .inl (cI, 6, .inl f_6)), (ma_meant, .inl (cI, 6, .inl f_10))] := hD1
    replace hS := hS1
    clear hP1 hD1 hS1
    replace hl : lv_has ls1 2 [(1, .int v_9), (0, .ref mh)] := hl1
    clear hl1
    refine lv_iload_n hx hb dX2_forget_38 rfl (lv_at hl 0 rfl) ?_
    refine lv_bipush (v := 6) hx hb dX2_forget_39 (by decide) ?_
    refine lv_icmp_ge (tgt := 57) hx hb dX2_forget_41 (by decide) (fun c_11 => ?_) (fun c_11 => ?_)
    · -- yes
      have k_11 : (6 : Int32).toInt ≤ v_9.toInt := ci_ge c_11
      have hP9 := hP.sub (ws' := [(mh, .inr (2, [.int 0, .int 0, .int (-1), .ref ma_values, .ref ma_meant, m_lanes, m_lengths, m_cells, .long m_state])), (ma_values, .inl (cI, 6, .inl f_6)), (ma_meant, .inl (cI, 6, .inl f_10))]) [0, 1, 2] rfl
      have hD9 := hD.sub (ws' := [(mh, .inr (2, [.int 0, .int 0, .int (-1), .ref ma_values, .ref ma_meant, m_lanes, m_lengths, m_cells, .long m_state])), (ma_values, .inl (cI, 6, .inl f_6)), (ma_meant, .inl (cI, 6, .inl f_10))]) [0, 1, 2] (by decide) rfl
      exact W.vret hx hb hr (fun t ht hW => ⟨⟨((0 : Int32), (0 : Int32), ((-1) : Int32), f_6, f_10), rfl, ⟨(show kZ (0 : Int32) from (by decide)), (show ∀ j : Nat, kSITE (f_10 j) from h_f_10), (show ∀ j : Nat, j < 6 → (f_6 j).toInt = 0 from (fun j hj => by have b0 := x_4_0 j; omega)), (show ∀ j : Nat, j < 6 → (f_10 j).toInt = -1 from (fun j hj => by have b0 := x_8_0 j; omega)), (show (0 : Int32) = 0 from rfl), (show ((-1) : Int32) = -1 from rfl)⟩, by rw [ht]; exact hP9, va_K.moved hW.alike hK, hD9⟩, hS.F ht⟩) hS.2.2 dX2_forget_57
    · -- no
      have k_11 : v_9.toInt < (6 : Int32).toInt := ci_nge c_11
      refine lv_aload_n hx hb dX2_forget_44 rfl (lv_at hl 1 rfl) ?_
      refine va_get (D := (dC, dI)) (ci := 2) (v := .ref ma_meant) (C := RX2) (T := TX2) (N := 9) hx hb hts inv_X2_forget_X2 hown hK hP 0 rfl rfl 4 (by decide) (hts (.fieldLink RX2 26 "ArraySegments$Machine" "meant" "[I") (List.mem_of_getElem? (i := 5) rfl)) (fun _ h9 => h9) rfl dX2_forget_45 ?_
      refine lv_iload_n hx hb dX2_forget_48 rfl (lv_at hl 0 rfl) ?_
      refine lv_iconst (v := (-1)) hx hb dX2_forget_49 (by decide) ?_
      have ni_14 := nn_cl (z := v_9) (by omega)
      refine sf_iastU kSITE hx hb hK hP hD hS 2 0 rfl rfl h_f_10 (show kSITE ((-1) : Int32) from by omega) (vp_in_iff.mpr ⟨by omega, by omega⟩) dX2_forget_50 (fun f_12 h_f_12 u_f_12 H_13 locs_13 hP1 hD1 hS1 => ?_)
      replace hP : va_P (dC, dI) vwCl [(mh, .inr (2, [.int 0, .int 0, .int (-1), .ref ma_values, .ref ma_meant, m_lanes, m_lengths, m_cells, .long m_state])), (ma_values, .inl (cI, 6, .inl f_6)), (ma_meant, .inl (cI, 6, .inl f_12))] H_13 := hP1
      replace hD : va_D A [(mh, .inr (2, [.int 0, .int 0, .int (-1), .ref ma_values, .ref ma_meant, m_lanes, m_lengths, m_cells, .long m_state])), (ma_values, .inl (cI, 6, .inl f_6)), (ma_meant, .inl (cI, 6, .inl f_12))] := hD1
      replace hS := hS1
      clear hP1 hD1 hS1
      refine sf_iinc hx hb dX2_forget_51 hl (k := 0) (x := v_9) (w := 1) rfl (by decide) (by decide) ⟨by omega, by omega⟩ (fun v_15 q_v_15 ls1 hl1 => ?_)
      replace hl : lv_has ls1 2 [(1, .int v_15), (0, .ref mh)] := hl1
      clear hl1
      refine lv_goto (tgt := 38) hx hb dX2_forget_54 (by decide) ?_
      exact ih_8 (v_15, f_12) (show (0 ≤ v_15.toInt ∧ v_15.toInt ≤ 6) ∧ (∀ j : Nat, kSITE (f_12 j)) ∧ (∀ j : Nat, (j : Int) < v_15.toInt → (f_12 j).toInt = -1) from ⟨⟨by omega, by omega⟩, h_f_12, (fun j hj => by have b0 := u_f_12 j; have b1 := x_8_0 j; by_cases hq : j = (v_9).toNatClampNeg; (· subst hq; omega); (· omega))⟩) (by show (6 - v_15.toInt).toNat < (6 - v_9.toInt).toNat; omega) _ _ _ (hP.sub [0, 1, 2] rfl) (hD.sub [0, 1, 2] (by decide) rfl) hS (lv_sub hl [0, 1] rfl)
  · -- no
    have k_7 : v_5.toInt < (6 : Int32).toInt := ci_nge c_7
    refine lv_aload_n hx hb dX2_forget_23 rfl (lv_at hl 1 rfl) ?_
    refine va_get (D := (dC, dI)) (ci := 2) (v := .ref ma_values) (C := RX2) (T := TX2) (N := 9) hx hb hts inv_X2_forget_X2 hown hK hP 0 rfl rfl 3 (by decide) (hts (.fieldLink RX2 22 "ArraySegments$Machine" "values" "[I") (List.mem_of_getElem? (i := 4) rfl)) (fun _ h9 => h9) rfl dX2_forget_24 ?_
    refine lv_iload_n hx hb dX2_forget_27 rfl (lv_at hl 0 rfl) ?_
    refine lv_iconst (v := 0) hx hb dX2_forget_28 (by decide) ?_
    have ni_18 := nn_cl (z := v_5) (by omega)
    refine sf_iastU kT hx hb hK hP hD hS 1 0 rfl rfl (fun _ => trivial) trivial (vp_in_iff.mpr ⟨by omega, by omega⟩) dX2_forget_29 (fun f_16 h_f_16 u_f_16 H_17 locs_17 hP1 hD1 hS1 => ?_)
    replace hP : va_P (dC, dI) vwCl [(mh, .inr (2, [.int 0, .int 0, .int (-1), .ref ma_values, .ref ma_meant, m_lanes, m_lengths, m_cells, .long m_state])), (ma_values, .inl (cI, 6, .inl f_16)), (ma_meant, .inl (cI, 6, .inl mc_meant))] H_17 := hP1
    replace hD : va_D A [(mh, .inr (2, [.int 0, .int 0, .int (-1), .ref ma_values, .ref ma_meant, m_lanes, m_lengths, m_cells, .long m_state])), (ma_values, .inl (cI, 6, .inl f_16)), (ma_meant, .inl (cI, 6, .inl mc_meant))] := hD1
    replace hS := hS1
    clear hP1 hD1 hS1
    refine sf_iinc hx hb dX2_forget_30 hl (k := 0) (x := v_5) (w := 1) rfl (by decide) (by decide) ⟨by omega, by omega⟩ (fun v_19 q_v_19 ls1 hl1 => ?_)
    replace hl : lv_has ls1 2 [(1, .int v_19), (0, .ref mh)] := hl1
    clear hl1
    refine lv_goto (tgt := 17) hx hb dX2_forget_33 (by decide) ?_
    exact ih_4 (v_19, f_16) (show (0 ≤ v_19.toInt ∧ v_19.toInt ≤ 6) ∧ (∀ j : Nat, (j : Int) < v_19.toInt → (f_16 j).toInt = 0) from ⟨⟨by omega, by omega⟩, (fun j hj => by have b0 := u_f_16 j; have b1 := x_4_0 j; by_cases hq : j = (v_5).toNatClampNeg; (· subst hq; omega); (· omega))⟩) (by show (6 - v_19.toInt).toNat < (6 - v_5.toInt).toNat; omega) _ _ _ (hP.sub [0, 1, 2] rfl) (hD.sub [0, 1, 2] (by decide) rfl) hS (lv_sub hl [0, 1] rfl)
