def v_X2_forget : List Cond := .code yX2_forget cX2_forget 2 none :: ([.fieldLink RX2 9 "ArraySegments$Machine" "hasRun" "Z", .fieldLink RX2 15 "ArraySegments$Machine" "thrown" "I", .fieldLink RX2 19 "ArraySegments$Machine" "thrownAt" "I", .fieldLink RX2 22 "ArraySegments$Machine" "values" "[I", .fieldLink RX2 26 "ArraySegments$Machine" "meant" "[I"] ++ (wsX20))
theorem inv_X2_forget_X2 : ∀ w ∈ wsX20, w ∈ v_X2_forget := fun _ h => List.mem_cons_of_mem _ (List.mem_append_right _ (h))
set_option maxRecDepth 20000 in
theorem gd_X2_forget : gdL v_X2_forget := gdC (gdW (by decide +kernel)) (gdA (gdW (by decide +kernel)) gd_wsX20)
abbrev sw_X2_forget (cI cJ cZ : ClassId) (mh : Nat) (m_hasRun : Int32) (m_thrown : Int32) (m_thrownAt : Int32) (ma_values : Nat) (ma_meant : Nat) (m_lanes : Value) (m_lengths : Value) (m_cells : Value) (m_state : Int64) (mc_values : Nat → Int32) (mc_meant : Nat → Int32) : va_W := [(mh, .inr (2, [.int m_hasRun, .int m_thrown, .int m_thrownAt, .ref ma_values, .ref ma_meant, m_lanes, m_lengths, m_cells, .long m_state])), (ma_values, .inl (cI, 6, .inl mc_values)), (ma_meant, .inl (cI, 6, .inl mc_meant))]
set_option maxHeartbeats 8000000 in
set_option maxRecDepth 100000 in
theorem s_X2_forget (l : Launch) (dC : Nat → ClassId) (dI : Nat → Nat → Nat) (cI cJ cZ : ClassId) (mh : Nat) (m_hasRun : Int32) (m_thrown : Int32) (m_thrownAt : Int32) (ma_values : Nat) (ma_meant : Nat) (m_lanes : Value) (m_lengths : Value) (m_cells : Value) (m_state : Int64) (mc_values : Nat → Int32) (mc_meant : Nat → Int32) (sz : Nat) (q_m_hasRun : kZ m_hasRun) (h_mc_meant : ∀ j : Nat, kSITE (mc_meant j)) : Met l yX2_forget v_X2_forget ({ frames := 0, cells := 0, slots := 0, locals := 0 }) (va_Pc [.ref mh] (cPre dC dI cI cJ cZ sz (sw_X2_forget cI cJ cZ mh m_hasRun m_thrown m_thrownAt ma_values ma_meant m_lanes m_lengths m_cells m_state mc_values mc_meant))) (va_Qv (fun (u : Int32 × Int32 × Int32 × (Nat → Int32) × (Nat → Int32)) => (kZ (u.1)) ∧ (∀ j : Nat, kSITE ((u.2.2.2.2) j))) (fun (u : Int32 × Int32 × Int32 × (Nat → Int32) × (Nat → Int32)) => cPost dC dI cI cJ cZ (va_A (sw_X2_forget cI cJ cZ mh m_hasRun m_thrown m_thrownAt ma_values ma_meant m_lanes m_lengths m_cells m_state mc_values mc_meant) sz) [(mh, .inr (2, [.int (u.1), .int (u.2.1), .int (u.2.2.1), .ref ma_values, .ref ma_meant, m_lanes, m_lengths, m_cells, .long m_state])), (ma_values, .inl (cI, 6, .inl (u.2.2.2.1))), (ma_meant, .inl (cI, 6, .inl (u.2.2.2.2)))]) (va_A (sw_X2_forget cI cJ cZ mh m_hasRun m_thrown m_thrownAt ma_values ma_meant m_lanes m_lengths m_cells m_state mc_values mc_meant) sz)) 0 0 (va_A (sw_X2_forget cI cJ cZ mh m_hasRun m_thrown m_thrownAt ma_values ma_meant m_lanes m_lengths m_cells m_state mc_values mc_meant) sz) := by
  refine Met.ofW (cc := cX2_forget) (maxL := 2) (ret := none) (by decide) rfl ?_
  intro p e s m args below meth c s₁ B hml hv
  obtain ⟨rfl, hsz, hP, hK, hD0, hN⟩ := hv
  have hx := B.exec
  have hb := B.bytes
  have hr := B.returns
  have hts := atoms_spec (ws := v_X2_forget) B.pre
  have hown : s.vm.findClass RX2 = some m.cls := findClass_of_methodNamed B.named
  have hlocks := B.notSynchronized
  subst hsz
  have hD := hD0.self (sz := s.heap.size)
  generalize hAe : va_A (sw_X2_forget cI cJ cZ mh m_hasRun m_thrown m_thrownAt ma_values ma_meant m_lanes m_lengths m_cells m_state mc_values mc_meant) s.heap.size = A at hD ⊢
  have hA : ∀ q : Nat, s.heap.size ≤ q → A q := fun q h => by rw [← hAe]; exact Or.inr h
  clear hAe hD0
  have hS : va_S A s.heap s.heap [] := va_S.rf
  replace hP : va_P (dC, dI) vwCl [(mh, .inr (2, [.int m_hasRun, .int m_thrown, .int m_thrownAt, .ref ma_values, .ref ma_meant, m_lanes, m_lengths, m_cells, .long m_state])), (ma_values, .inl (cI, 6, .inl mc_values)), (ma_meant, .inl (cI, 6, .inl mc_meant))] s.heap := hP
  replace hD : va_D A [(mh, .inr (2, [.int m_hasRun, .int m_thrown, .int m_thrownAt, .ref ma_values, .ref ma_meant, m_lanes, m_lengths, m_cells, .long m_state])), (ma_values, .inl (cI, 6, .inl mc_values)), (ma_meant, .inl (cI, 6, .inl mc_meant))] := hD
  have hl := lv_entry ([.ref mh]) (n := 2) (Nat.le_of_ble_eq_true rfl)
  rw [lg_entry_eq]
  generalize (lg_sl ([.ref mh]) ++ List.replicate (2 - (lg_sl ([.ref mh])).length) Slot.unset).toArray = ls at hl ⊢
  replace hl : lv_has ls 2 [(0, .ref mh)] := hl
  have z_m1 : (-1 : Int32).toInt = -1 := by decide
  have z_0 : (0 : Int32).toInt = 0 := by decide
  have z_1 : (1 : Int32).toInt = 1 := by decide
  have z_6 : (6 : Int32).toInt = 6 := by decide
  refine lv_aload_n hx hb dX2_forget_0 rfl (lv_at hl 0 rfl) ?_
  refine lv_iconst (v := 0) hx hb dX2_forget_1 (by decide) ?_
  refine va_put (D := (dC, dI)) (ci := 2) (v := .int 0) (ty := .boolean) (C := RX2) (T := TX2) (N := 9) hx hb hts inv_X2_forget_X2 tyX2 tyX2_ok nmX2 hown hK hP hD hS 0 rfl rfl 0 (by decide) (hts (.fieldLink RX2 9 "ArraySegments$Machine" "hasRun" "Z") (List.mem_of_getElem? (i := 1) rfl)) (fun _ h9 => h9) rfl (by decide +kernel) rfl rfl (Nat.le_of_ble_eq_true rfl) dX2_forget_2 (fun H_1 locs_1 hP1 hD1 hS1 => ?_)
  replace hP : va_P (dC, dI) vwCl [(mh, .inr (2, [.int 0, .int m_thrown, .int m_thrownAt, .ref ma_values, .ref ma_meant, m_lanes, m_lengths, m_cells, .long m_state])), (ma_values, .inl (cI, 6, .inl mc_values)), (ma_meant, .inl (cI, 6, .inl mc_meant))] H_1 := hP1
  replace hD : va_D A [(mh, .inr (2, [.int 0, .int m_thrown, .int m_thrownAt, .ref ma_values, .ref ma_meant, m_lanes, m_lengths, m_cells, .long m_state])), (ma_values, .inl (cI, 6, .inl mc_values)), (ma_meant, .inl (cI, 6, .inl mc_meant))] := hD1
  replace hS := hS1
  clear hP1 hD1 hS1
  refine lv_aload_n hx hb dX2_forget_5 rfl (lv_at hl 0 rfl) ?_
  refine lv_iconst (v := 0) hx hb dX2_forget_6 (by decide) ?_
  refine va_put (D := (dC, dI)) (ci := 2) (v := .int 0) (ty := .int) (C := RX2) (T := TX2) (N := 9) hx hb hts inv_X2_forget_X2 tyX2 tyX2_ok nmX2 hown hK hP hD hS 0 rfl rfl 1 (by decide) (hts (.fieldLink RX2 15 "ArraySegments$Machine" "thrown" "I") (List.mem_of_getElem? (i := 2) rfl)) (fun _ h9 => h9) rfl (by decide +kernel) rfl rfl (Nat.le_of_ble_eq_true rfl) dX2_forget_7 (fun H_2 locs_2 hP1 hD1 hS1 => ?_)
  replace hP : va_P (dC, dI) vwCl [(mh, .inr (2, [.int 0, .int 0, .int m_thrownAt, .ref ma_values, .ref ma_meant, m_lanes, m_lengths, m_cells, .long m_state])), (ma_values, .inl (cI, 6, .inl mc_values)), (ma_meant, .inl (cI, 6, .inl mc_meant))] H_2 := hP1
  replace hD : va_D A [(mh, .inr (2, [.int 0, .int 0, .int m_thrownAt, .ref ma_values, .ref ma_meant, m_lanes, m_lengths, m_cells, .long m_state])), (ma_values, .inl (cI, 6, .inl mc_values)), (ma_meant, .inl (cI, 6, .inl mc_meant))] := hD1
  replace hS := hS1
  clear hP1 hD1 hS1
  refine lv_aload_n hx hb dX2_forget_10 rfl (lv_at hl 0 rfl) ?_
  refine lv_iconst (v := (-1)) hx hb dX2_forget_11 (by decide) ?_
  refine va_put (D := (dC, dI)) (ci := 2) (v := .int (-1)) (ty := .int) (C := RX2) (T := TX2) (N := 9) hx hb hts inv_X2_forget_X2 tyX2 tyX2_ok nmX2 hown hK hP hD hS 0 rfl rfl 2 (by decide) (hts (.fieldLink RX2 19 "ArraySegments$Machine" "thrownAt" "I") (List.mem_of_getElem? (i := 3) rfl)) (fun _ h9 => h9) rfl (by decide +kernel) rfl rfl (Nat.le_of_ble_eq_true rfl) dX2_forget_12 (fun H_3 locs_3 hP1 hD1 hS1 => ?_)
  replace hP : va_P (dC, dI) vwCl [(mh, .inr (2, [.int 0, .int 0, .int (-1), .ref ma_values, .ref ma_meant, m_lanes, m_lengths, m_cells, .long m_state])), (ma_values, .inl (cI, 6, .inl mc_values)), (ma_meant, .inl (cI, 6, .inl mc_meant))] H_3 := hP1
  replace hD : va_D A [(mh, .inr (2, [.int 0, .int 0, .int (-1), .ref ma_values, .ref ma_meant, m_lanes, m_lengths, m_cells, .long m_state])), (ma_values, .inl (cI, 6, .inl mc_values)), (ma_meant, .inl (cI, 6, .inl mc_meant))] := hD1
  replace hS := hS1
  clear hP1 hD1 hS1
  refine lv_iconst (v := 0) hx hb dX2_forget_15 (by decide) ?_
  refine lv_istore_n (lv' := [(1, .int 0), (0, .ref mh)]) hx hb dX2_forget_16 rfl hl (by decide) rfl (fun ls1 hl1 => ?_)
  replace hl := hl1; clear hl1
  refine my_wloop (S := Int32 × (Nat → Int32)) (fun u => (0 ≤ (u.1).toInt ∧ (u.1).toInt ≤ 6)) (fun u => (6 - (u.1).toInt).toNat) (fun u => [(mh, .inr (2, [.int 0, .int 0, .int (-1), .ref ma_values, .ref ma_meant, m_lanes, m_lengths, m_cells, .long m_state])), (ma_values, .inl (cI, 6, .inl (u.2))), (ma_meant, .inl (cI, 6, .inl mc_meant))]) (fun u => [(1, .int (u.1)), (0, .ref mh)]) (H0 := s.heap) (A := A) (D := (dC, dI)) (cl := vwCl) ((0 : Int32), mc_values) (show (0 ≤ (0 : Int32).toInt ∧ (0 : Int32).toInt ≤ 6) from ⟨by omega, by omega⟩) (by exact hP) (by exact hD) hS (by exact hl) (fun u_4 hu_4 ih_4 H_4 locs_4 ls1 hP1 hD1 hS1 hl1 => ?_)
  obtain ⟨v_5, f_6⟩ := u_4
  replace hu_4 : (0 ≤ v_5.toInt ∧ v_5.toInt ≤ 6) := hu_4
  have q_v_5 := hu_4
  replace hP : va_P (dC, dI) vwCl [(mh, .inr (2, [.int 0, .int 0, .int (-1), .ref ma_values, .ref ma_meant, m_lanes, m_lengths, m_cells, .long m_state])), (ma_values, .inl (cI, 6, .inl f_6)), (ma_meant, .inl (cI, 6, .inl mc_meant))] H_4 := hP1
  replace hD : va_D A [(mh, .inr (2, [.int 0, .int 0, .int (-1), .ref ma_values, .ref ma_meant, m_lanes, m_lengths, m_cells, .long m_state])), (ma_values, .inl (cI, 6, .inl f_6)), (ma_meant, .inl (cI, 6, .inl mc_meant))] := hD1
  replace hS := hS1
  clear hP1 hD1 hS1
  replace hl : lv_has ls1 2 [(1, .int v_5), (0, .ref mh)] := hl1
  clear hl1
  refine lv_iload_n hx hb dX2_forget_17 rfl (lv_at hl 0 rfl) ?_
  refine lv_bipush (v := 6) hx hb dX2_forget_18 (by decide) ?_
  refine lv_icmp_ge (tgt := 36) hx hb dX2_forget_20 (by decide) (fun c_7 => ?_) (fun c_7 => ?_)
  · -- yes
    have k_7 : (6 : Int32).toInt ≤ v_5.toInt := ci_ge c_7
    refine lv_iconst (v := 0) hx hb dX2_forget_36 (by decide) ?_
    refine lv_istore_n (lv' := [(1, .int 0), (0, .ref mh)]) hx hb dX2_forget_37 rfl hl (by decide) rfl (fun ls1 hl1 => ?_)
    replace hl := hl1; clear hl1
    refine my_wloop (S := Int32 × (Nat → Int32)) (fun u => (0 ≤ (u.1).toInt ∧ (u.1).toInt ≤ 6) ∧ (∀ j : Nat, kSITE ((u.2) j))) (fun u => (6 - (u.1).toInt).toNat) (fun u => [(mh, .inr (2, [.int 0, .int 0, .int (-1), .ref ma_values, .ref ma_meant, m_lanes, m_lengths, m_cells, .long m_state])), (ma_values, .inl (cI, 6, .inl f_6)), (ma_meant, .inl (cI, 6, .inl (u.2)))]) (fun u => [(1, .int (u.1)), (0, .ref mh)]) (H0 := s.heap) (A := A) (D := (dC, dI)) (cl := vwCl) ((0 : Int32), mc_meant) (show (0 ≤ (0 : Int32).toInt ∧ (0 : Int32).toInt ≤ 6) ∧ (∀ j : Nat, kSITE (mc_meant j)) from ⟨⟨by omega, by omega⟩, h_mc_meant⟩) (by exact hP) (by exact hD) hS (by exact hl) (fun u_8 hu_8 ih_8 H_8 locs_8 ls1 hP1 hD1 hS1 hl1 => ?_)
    obtain ⟨v_9, f_10⟩ := u_8
    replace hu_8 : (0 ≤ v_9.toInt ∧ v_9.toInt ≤ 6) ∧ (∀ j : Nat, kSITE (f_10 j)) := hu_8
    obtain ⟨q_v_9, h_f_10⟩ := hu_8
    replace hP : va_P (dC, dI) vwCl [(mh, .inr (2, [.int 0, .int 0, .int (-1), .ref ma_values, .ref ma_meant, m_lanes, m_lengths, m_cells, .long m_state])), (ma_values, .inl (cI, 6, .inl f_6)), (ma_meant, .inl (cI, 6, .inl f_10))] H_8 := hP1
    replace hD : va_D A [(mh, .inr (2, [.int 0, .int 0, .int (-1), .ref ma_values, .ref ma_meant, m_lanes, m_lengths, m_cells, .long m_state])), (ma_values, .inl (cI, 6, .inl f_6)), (ma_meant, .inl (cI, 6, .inl f_10))] := hD1
    replace hS := hS1
    clear hP1 hD1 hS1
    replace hl : lv_has ls1 2 [(1, .int v_9), (0, .ref mh)] := hl1
    clear hl1
    refine lv_iload_n hx hb dX2_forget_38 rfl (lv_at hl 0 rfl) ?_
    refine lv_bipush (v := 6) hx hb dX2_forget_39 (by decide) ?_
    refine lv_icmp_ge (tgt := 57) hx hb dX2_forget_41 (by decide) (fun c_11 => ?_) (fun c_11 => ?_)
    · -- yes
      have k_11 : (6 : Int32).toInt ≤ v_9.toInt := ci_ge c_11
      have hP9 := hP.sub (ws' := [(mh, .inr (2, [.int 0, .int 0, .int (-1), .ref ma_values, .ref ma_meant, m_lanes, m_lengths, m_cells, .long m_state])), (ma_values, .inl (cI, 6, .inl f_6)), (ma_meant, .inl (cI, 6, .inl f_10))]) [0, 1, 2] rfl
      have hD9 := hD.sub (ws' := [(mh, .inr (2, [.int 0, .int 0, .int (-1), .ref ma_values, .ref ma_meant, m_lanes, m_lengths, m_cells, .long m_state])), (ma_values, .inl (cI, 6, .inl f_6)), (ma_meant, .inl (cI, 6, .inl f_10))]) [0, 1, 2] (by decide) rfl
      exact W.vret hx hb hr (fun t ht hW => ⟨⟨((0 : Int32), (0 : Int32), ((-1) : Int32), f_6, f_10), rfl, ⟨(show kZ (0 : Int32) from (by decide)), (show ∀ j : Nat, kSITE (f_10 j) from h_f_10)⟩, by rw [ht]; exact hP9, va_K.moved hW.alike hK, hD9⟩, hS.F ht⟩) hS.2.2 dX2_forget_57
    · -- no
      have k_11 : v_9.toInt < (6 : Int32).toInt := ci_nge c_11
      refine lv_aload_n hx hb dX2_forget_44 rfl (lv_at hl 1 rfl) ?_
      refine va_get (D := (dC, dI)) (ci := 2) (v := .ref ma_meant) (C := RX2) (T := TX2) (N := 9) hx hb hts inv_X2_forget_X2 hown hK hP 0 rfl rfl 4 (by decide) (hts (.fieldLink RX2 26 "ArraySegments$Machine" "meant" "[I") (List.mem_of_getElem? (i := 5) rfl)) (fun _ h9 => h9) rfl dX2_forget_45 ?_
      refine lv_iload_n hx hb dX2_forget_48 rfl (lv_at hl 0 rfl) ?_
      refine lv_iconst (v := (-1)) hx hb dX2_forget_49 (by decide) ?_
      refine sf_iast kSITE hx hb hK hP hD hS 2 0 rfl rfl h_f_10 (show kSITE ((-1) : Int32) from by omega) (vp_in_iff.mpr ⟨by omega, by omega⟩) dX2_forget_50 (fun f_12 h_f_12 e_f_12 H_13 locs_13 hP1 hD1 hS1 => ?_)
      replace hP : va_P (dC, dI) vwCl [(mh, .inr (2, [.int 0, .int 0, .int (-1), .ref ma_values, .ref ma_meant, m_lanes, m_lengths, m_cells, .long m_state])), (ma_values, .inl (cI, 6, .inl f_6)), (ma_meant, .inl (cI, 6, .inl f_12))] H_13 := hP1
      replace hD : va_D A [(mh, .inr (2, [.int 0, .int 0, .int (-1), .ref ma_values, .ref ma_meant, m_lanes, m_lengths, m_cells, .long m_state])), (ma_values, .inl (cI, 6, .inl f_6)), (ma_meant, .inl (cI, 6, .inl f_12))] := hD1
      replace hS := hS1
      clear hP1 hD1 hS1
      refine sf_iinc hx hb dX2_forget_51 hl (k := 0) (x := v_9) (w := 1) rfl (by decide) (by decide) ⟨by omega, by omega⟩ (fun v_14 q_v_14 ls1 hl1 => ?_)
      replace hl : lv_has ls1 2 [(1, .int v_14), (0, .ref mh)] := hl1
      clear hl1
      refine lv_goto (tgt := 38) hx hb dX2_forget_54 (by decide) ?_
      exact ih_8 (v_14, f_12) (show (0 ≤ v_14.toInt ∧ v_14.toInt ≤ 6) ∧ (∀ j : Nat, kSITE (f_12 j)) from ⟨⟨by omega, by omega⟩, h_f_12⟩) (by show (6 - v_14.toInt).toNat < (6 - v_9.toInt).toNat; omega) _ _ _ (hP.sub [0, 1, 2] rfl) (hD.sub [0, 1, 2] (by decide) rfl) hS (lv_sub hl [0, 1] rfl)
  · -- no
    have k_7 : v_5.toInt < (6 : Int32).toInt := ci_nge c_7
    refine lv_aload_n hx hb dX2_forget_23 rfl (lv_at hl 1 rfl) ?_
    refine va_get (D := (dC, dI)) (ci := 2) (v := .ref ma_values) (C := RX2) (T := TX2) (N := 9) hx hb hts inv_X2_forget_X2 hown hK hP 0 rfl rfl 3 (by decide) (hts (.fieldLink RX2 22 "ArraySegments$Machine" "values" "[I") (List.mem_of_getElem? (i := 4) rfl)) (fun _ h9 => h9) rfl dX2_forget_24 ?_
    refine lv_iload_n hx hb dX2_forget_27 rfl (lv_at hl 0 rfl) ?_
    refine lv_iconst (v := 0) hx hb dX2_forget_28 (by decide) ?_
    refine sf_iast kT hx hb hK hP hD hS 1 0 rfl rfl (fun _ => trivial) trivial (vp_in_iff.mpr ⟨by omega, by omega⟩) dX2_forget_29 (fun f_15 h_f_15 e_f_15 H_16 locs_16 hP1 hD1 hS1 => ?_)
    replace hP : va_P (dC, dI) vwCl [(mh, .inr (2, [.int 0, .int 0, .int (-1), .ref ma_values, .ref ma_meant, m_lanes, m_lengths, m_cells, .long m_state])), (ma_values, .inl (cI, 6, .inl f_15)), (ma_meant, .inl (cI, 6, .inl mc_meant))] H_16 := hP1
    replace hD : va_D A [(mh, .inr (2, [.int 0, .int 0, .int (-1), .ref ma_values, .ref ma_meant, m_lanes, m_lengths, m_cells, .long m_state])), (ma_values, .inl (cI, 6, .inl f_15)), (ma_meant, .inl (cI, 6, .inl mc_meant))] := hD1
    replace hS := hS1
    clear hP1 hD1 hS1
    refine sf_iinc hx hb dX2_forget_30 hl (k := 0) (x := v_5) (w := 1) rfl (by decide) (by decide) ⟨by omega, by omega⟩ (fun v_17 q_v_17 ls1 hl1 => ?_)
    replace hl : lv_has ls1 2 [(1, .int v_17), (0, .ref mh)] := hl1
    clear hl1
    refine lv_goto (tgt := 17) hx hb dX2_forget_33 (by decide) ?_
    exact ih_4 (v_17, f_15) (show (0 ≤ v_17.toInt ∧ v_17.toInt ≤ 6) from ⟨by omega, by omega⟩) (by show (6 - v_17.toInt).toNat < (6 - v_5.toInt).toNat; omega) _ _ _ (hP.sub [0, 1, 2] rfl) (hD.sub [0, 1, 2] (by decide) rfl) hS (lv_sub hl [0, 1] rfl)

def v_X2_draw : List Cond := .code yX2_draw cX2_draw 3 (some .long) :: ([.fieldLink RX2 38 "ArraySegments$Machine" "state" "J", .constantLong RX2 75 (-7046029254386353131), .constantLong RX2 77 (-4658895280553007687), .constantLong RX2 79 (-7723592293110705685)] ++ (wsX20))
theorem inv_X2_draw_X2 : ∀ w ∈ wsX20, w ∈ v_X2_draw := fun _ h => List.mem_cons_of_mem _ (List.mem_append_right _ (h))
set_option maxRecDepth 20000 in
theorem gd_X2_draw : gdL v_X2_draw := gdC (gdW (by decide +kernel)) (gdA (gdW (by decide +kernel)) gd_wsX20)
abbrev sw_X2_draw (cI cJ cZ : ClassId) (mh : Nat) (m_hasRun : Int32) (m_thrown : Int32) (m_thrownAt : Int32) (m_values : Value) (m_meant : Value) (m_lanes : Value) (m_lengths : Value) (m_cells : Value) (m_state : Int64) : va_W := [(mh, .inr (2, [.int m_hasRun, .int m_thrown, .int m_thrownAt, m_values, m_meant, m_lanes, m_lengths, m_cells, .long m_state]))]
set_option maxHeartbeats 8000000 in
set_option maxRecDepth 100000 in
theorem s_X2_draw (l : Launch) (dC : Nat → ClassId) (dI : Nat → Nat → Nat) (cI cJ cZ : ClassId) (mh : Nat) (m_hasRun : Int32) (m_thrown : Int32) (m_thrownAt : Int32) (m_values : Value) (m_meant : Value) (m_lanes : Value) (m_lengths : Value) (m_cells : Value) (m_state : Int64) (sz : Nat) (q_m_hasRun : kZ m_hasRun) : Met l yX2_draw v_X2_draw ({ frames := 0, cells := 0, slots := 0, locals := 0 }) (va_Pc [.ref mh] (cPre dC dI cI cJ cZ sz (sw_X2_draw cI cJ cZ mh m_hasRun m_thrown m_thrownAt m_values m_meant m_lanes m_lengths m_cells m_state))) (va_Ql (fun (r : Int64) (u : Int64) => True) (fun (u : Int64) => cPost dC dI cI cJ cZ (va_A (sw_X2_draw cI cJ cZ mh m_hasRun m_thrown m_thrownAt m_values m_meant m_lanes m_lengths m_cells m_state) sz) [(mh, .inr (2, [.int m_hasRun, .int m_thrown, .int m_thrownAt, m_values, m_meant, m_lanes, m_lengths, m_cells, .long (u)]))]) (va_A (sw_X2_draw cI cJ cZ mh m_hasRun m_thrown m_thrownAt m_values m_meant m_lanes m_lengths m_cells m_state) sz)) 0 0 (va_A (sw_X2_draw cI cJ cZ mh m_hasRun m_thrown m_thrownAt m_values m_meant m_lanes m_lengths m_cells m_state) sz) := by
  refine Met.ofW (cc := cX2_draw) (maxL := 3) (ret := (some .long)) (by decide) rfl ?_
  intro p e s m args below meth c s₁ B hml hv
  obtain ⟨rfl, hsz, hP, hK, hD0, hN⟩ := hv
  have hx := B.exec
  have hb := B.bytes
  have hr := B.returns
  have hts := atoms_spec (ws := v_X2_draw) B.pre
  have hown : s.vm.findClass RX2 = some m.cls := findClass_of_methodNamed B.named
  have hlocks := B.notSynchronized
  subst hsz
  have hD := hD0.self (sz := s.heap.size)
  generalize hAe : va_A (sw_X2_draw cI cJ cZ mh m_hasRun m_thrown m_thrownAt m_values m_meant m_lanes m_lengths m_cells m_state) s.heap.size = A at hD ⊢
  have hA : ∀ q : Nat, s.heap.size ≤ q → A q := fun q h => by rw [← hAe]; exact Or.inr h
  clear hAe hD0
  have hS : va_S A s.heap s.heap [] := va_S.rf
  replace hP : va_P (dC, dI) vwCl [(mh, .inr (2, [.int m_hasRun, .int m_thrown, .int m_thrownAt, m_values, m_meant, m_lanes, m_lengths, m_cells, .long m_state]))] s.heap := hP
  replace hD : va_D A [(mh, .inr (2, [.int m_hasRun, .int m_thrown, .int m_thrownAt, m_values, m_meant, m_lanes, m_lengths, m_cells, .long m_state]))] := hD
  have hl := lv_entry ([.ref mh]) (n := 3) (Nat.le_of_ble_eq_true rfl)
  rw [lg_entry_eq]
  generalize (lg_sl ([.ref mh]) ++ List.replicate (3 - (lg_sl ([.ref mh])).length) Slot.unset).toArray = ls at hl ⊢
  replace hl : lv_has ls 3 [(0, .ref mh)] := hl
  have z_0 : (0 : Int32).toInt = 0 := by decide
  have z_1 : (1 : Int32).toInt = 1 := by decide
  refine lv_aload_n hx hb dX2_draw_0 rfl (lv_at hl 0 rfl) ?_
  refine lv_dup hx hb dX2_draw_1 rfl ?_
  refine va_get (D := (dC, dI)) (ci := 2) (v := .long m_state) (C := RX2) (T := TX2) (N := 9) hx hb hts inv_X2_draw_X2 hown hK hP 0 rfl rfl 8 (by decide) (hts (.fieldLink RX2 38 "ArraySegments$Machine" "state" "J") (List.mem_of_getElem? (i := 1) rfl)) (fun _ h9 => h9) rfl dX2_draw_2 ?_
  refine lv_ldc2 hx hb hown (hts (.constantLong RX2 75 (-7046029254386353131)) (List.mem_of_getElem? (i := 2) rfl)) dX2_draw_5 ?_
  refine lv_ladd hx hb dX2_draw_8 ?_
  refine lv_topl (fun v_1 e_v_1 => ?_)
  refine va_put (D := (dC, dI)) (ci := 2) (v := .long v_1) (ty := .long) (C := RX2) (T := TX2) (N := 9) hx hb hts inv_X2_draw_X2 tyX2 tyX2_ok nmX2 hown hK hP hD hS 0 rfl rfl 8 (by decide) (hts (.fieldLink RX2 38 "ArraySegments$Machine" "state" "J") (List.mem_of_getElem? (i := 1) rfl)) (fun _ h9 => h9) rfl (by decide +kernel) rfl rfl (Nat.le_of_ble_eq_true rfl) dX2_draw_9 (fun H_2 locs_2 hP1 hD1 hS1 => ?_)
  replace hP : va_P (dC, dI) vwCl [(mh, .inr (2, [.int m_hasRun, .int m_thrown, .int m_thrownAt, m_values, m_meant, m_lanes, m_lengths, m_cells, .long v_1]))] H_2 := hP1
  replace hD : va_D A [(mh, .inr (2, [.int m_hasRun, .int m_thrown, .int m_thrownAt, m_values, m_meant, m_lanes, m_lengths, m_cells, .long v_1]))] := hD1
  replace hS := hS1
  clear hP1 hD1 hS1
  refine lv_aload_n hx hb dX2_draw_12 rfl (lv_at hl 0 rfl) ?_
  refine va_get (D := (dC, dI)) (ci := 2) (v := .long v_1) (C := RX2) (T := TX2) (N := 9) hx hb hts inv_X2_draw_X2 hown hK hP 0 rfl rfl 8 (by decide) (hts (.fieldLink RX2 38 "ArraySegments$Machine" "state" "J") (List.mem_of_getElem? (i := 1) rfl)) (fun _ h9 => h9) rfl dX2_draw_13 ?_
  refine lv_lstore_n (lv' := [(1, .long v_1), (0, .ref mh)]) hx hb dX2_draw_16 rfl hl (by decide) rfl (fun ls1 hl1 => ?_)
  replace hl := hl1; clear hl1
  refine lv_lload_n hx hb dX2_draw_17 rfl (lv_at hl 0 rfl) ?_
  refine lv_lload_n hx hb dX2_draw_18 rfl (lv_at hl 0 rfl) ?_
  refine lv_bipush (v := 30) hx hb dX2_draw_19 (by decide) ?_
  refine lv_lushr (v := _) hx hb dX2_draw_21 rfl ?_
  refine lv_topl (fun v_3 _ => ?_)
  refine lv_lxor hx hb dX2_draw_22 ?_
  refine lv_topl (fun v_4 e_v_4 => ?_)
  refine lv_ldc2 hx hb hown (hts (.constantLong RX2 77 (-4658895280553007687)) (List.mem_of_getElem? (i := 3) rfl)) dX2_draw_23 ?_
  refine lv_lmul hx hb dX2_draw_26 ?_
  refine lv_topl (fun v_5 e_v_5 => ?_)
  refine lv_lstore_n (lv' := [(1, .long v_5), (0, .ref mh)]) hx hb dX2_draw_27 rfl hl (by decide) rfl (fun ls1 hl1 => ?_)
  replace hl := hl1; clear hl1
  refine lv_lload_n hx hb dX2_draw_28 rfl (lv_at hl 0 rfl) ?_
  refine lv_lload_n hx hb dX2_draw_29 rfl (lv_at hl 0 rfl) ?_
  refine lv_bipush (v := 27) hx hb dX2_draw_30 (by decide) ?_
  refine lv_lushr (v := _) hx hb dX2_draw_32 rfl ?_
  refine lv_topl (fun v_6 _ => ?_)
  refine lv_lxor hx hb dX2_draw_33 ?_
  refine lv_topl (fun v_7 e_v_7 => ?_)
  refine lv_ldc2 hx hb hown (hts (.constantLong RX2 79 (-7723592293110705685)) (List.mem_of_getElem? (i := 4) rfl)) dX2_draw_34 ?_
  refine lv_lmul hx hb dX2_draw_37 ?_
  refine lv_topl (fun v_8 e_v_8 => ?_)
  refine lv_lstore_n (lv' := [(1, .long v_8), (0, .ref mh)]) hx hb dX2_draw_38 rfl hl (by decide) rfl (fun ls1 hl1 => ?_)
  replace hl := hl1; clear hl1
  refine lv_lload_n hx hb dX2_draw_39 rfl (lv_at hl 0 rfl) ?_
  refine lv_lload_n hx hb dX2_draw_40 rfl (lv_at hl 0 rfl) ?_
  refine lv_bipush (v := 31) hx hb dX2_draw_41 (by decide) ?_
  refine lv_lushr (v := _) hx hb dX2_draw_43 rfl ?_
  refine lv_topl (fun v_9 _ => ?_)
  refine lv_lxor hx hb dX2_draw_44 ?_
  refine lv_topl (fun v_10 e_v_10 => ?_)
  have hP9 := hP.sub (ws' := [(mh, .inr (2, [.int m_hasRun, .int m_thrown, .int m_thrownAt, m_values, m_meant, m_lanes, m_lengths, m_cells, .long v_1]))]) [0] rfl
  have hD9 := hD.sub (ws' := [(mh, .inr (2, [.int m_hasRun, .int m_thrown, .int m_thrownAt, m_values, m_meant, m_lanes, m_lengths, m_cells, .long v_1]))]) [0] (by decide) rfl
  exact W.lret (v := v_10) hx hb hr (fun t ht hW => ⟨⟨v_10, v_1, rfl, trivial, by rw [ht]; exact hP9, va_K.moved hW.alike hK, hD9⟩, hS.F ht⟩) hS.2.2 dX2_draw_45

def v_X2_drawIsEven : List Cond := .code yX2_drawIsEven cX2_drawIsEven 1 (some .boolean) :: ([.methodLink RX2 81 yX2_draw, .instanceMethod yX2_draw, .selects RX2 yX2_draw yX2_draw, .initialized RX2] ++ (v_X2_draw))
theorem im_X2_drawIsEven_X2_draw : ∀ w ∈ v_X2_draw, w ∈ v_X2_drawIsEven := fun _ h => List.mem_cons_of_mem _ (List.mem_append_right _ (h))
set_option maxRecDepth 20000 in
theorem gd_X2_drawIsEven : gdL v_X2_drawIsEven := gdC (gdW (by decide +kernel)) (gdA (gdW (by decide +kernel)) gd_X2_draw)
set_option maxRecDepth 20000 in
theorem h_X2_drawIsEven_X2_draw_81 : GoodIn v_X2_drawIsEven (wsV RX2 81 RX2 yX2_draw v_X2_draw) := gdI [1, 2, 3, 4] rfl (by decide +kernel) (im_X2_drawIsEven_X2_draw) gd_X2_draw
abbrev sw_X2_drawIsEven (cI cJ cZ : ClassId) (mh : Nat) (m_hasRun : Int32) (m_thrown : Int32) (m_thrownAt : Int32) (m_values : Value) (m_meant : Value) (m_lanes : Value) (m_lengths : Value) (m_cells : Value) (m_state : Int64) : va_W := [(mh, .inr (2, [.int m_hasRun, .int m_thrown, .int m_thrownAt, m_values, m_meant, m_lanes, m_lengths, m_cells, .long m_state]))]
set_option maxHeartbeats 8000000 in
set_option maxRecDepth 100000 in
theorem s_X2_drawIsEven (l : Launch) (dC : Nat → ClassId) (dI : Nat → Nat → Nat) (cI cJ cZ : ClassId) (mh : Nat) (m_hasRun : Int32) (m_thrown : Int32) (m_thrownAt : Int32) (m_values : Value) (m_meant : Value) (m_lanes : Value) (m_lengths : Value) (m_cells : Value) (m_state : Int64) (sz : Nat) (q_m_hasRun : kZ m_hasRun) : Met l yX2_drawIsEven v_X2_drawIsEven ({ frames := 1, cells := 0, slots := 0, locals := 22 }) (va_Pc [.ref mh] (cPre dC dI cI cJ cZ sz (sw_X2_drawIsEven cI cJ cZ mh m_hasRun m_thrown m_thrownAt m_values m_meant m_lanes m_lengths m_cells m_state))) (va_Qi (fun (r : Int32) (u : Int64) => (kZ r)) (fun (u : Int64) => cPost dC dI cI cJ cZ (va_A (sw_X2_drawIsEven cI cJ cZ mh m_hasRun m_thrown m_thrownAt m_values m_meant m_lanes m_lengths m_cells m_state) sz) [(mh, .inr (2, [.int m_hasRun, .int m_thrown, .int m_thrownAt, m_values, m_meant, m_lanes, m_lengths, m_cells, .long (u)]))]) (va_A (sw_X2_drawIsEven cI cJ cZ mh m_hasRun m_thrown m_thrownAt m_values m_meant m_lanes m_lengths m_cells m_state) sz)) 0 0 (va_A (sw_X2_drawIsEven cI cJ cZ mh m_hasRun m_thrown m_thrownAt m_values m_meant m_lanes m_lengths m_cells m_state) sz) := by
  refine Met.ofW (cc := cX2_drawIsEven) (maxL := 1) (ret := (some .boolean)) (by decide) rfl ?_
  intro p e s m args below meth c s₁ B hml hv
  obtain ⟨rfl, hsz, hP, hK, hD0, hN⟩ := hv
  have hx := B.exec
  have hb := B.bytes
  have hr := B.returns
  have hts := atoms_spec (ws := v_X2_drawIsEven) B.pre
  have hown : s.vm.findClass RX2 = some m.cls := findClass_of_methodNamed B.named
  have hlocks := B.notSynchronized
  subst hsz
  have hD := hD0.self (sz := s.heap.size)
  generalize hAe : va_A (sw_X2_drawIsEven cI cJ cZ mh m_hasRun m_thrown m_thrownAt m_values m_meant m_lanes m_lengths m_cells m_state) s.heap.size = A at hD ⊢
  have hA : ∀ q : Nat, s.heap.size ≤ q → A q := fun q h => by rw [← hAe]; exact Or.inr h
  clear hAe hD0
  have hS : va_S A s.heap s.heap [] := va_S.rf
  replace hP : va_P (dC, dI) vwCl [(mh, .inr (2, [.int m_hasRun, .int m_thrown, .int m_thrownAt, m_values, m_meant, m_lanes, m_lengths, m_cells, .long m_state]))] s.heap := hP
  replace hD : va_D A [(mh, .inr (2, [.int m_hasRun, .int m_thrown, .int m_thrownAt, m_values, m_meant, m_lanes, m_lengths, m_cells, .long m_state]))] := hD
  have hl := lv_entry ([.ref mh]) (n := 1) (Nat.le_of_ble_eq_true rfl)
  rw [lg_entry_eq]
  generalize (lg_sl ([.ref mh]) ++ List.replicate (1 - (lg_sl ([.ref mh])).length) Slot.unset).toArray = ls at hl ⊢
  replace hl : lv_has ls 1 [(0, .ref mh)] := hl
  have z_0 : (0 : Int32).toInt = 0 := by decide
  have z_1 : (1 : Int32).toInt = 1 := by decide
  have zl_0 : (0 : Int64).toInt = 0 := by decide
  refine lv_aload_n hx hb dX2_drawIsEven_0 rfl (lv_at hl 0 rfl) ?_
  have hPc := hP.sub (ws' := [(mh, .inr (2, [.int m_hasRun, .int m_thrown, .int m_thrownAt, m_values, m_meant, m_lanes, m_lengths, m_cells, .long m_state]))]) [0] rfl
  have hDc := hD.sub (ws' := [(mh, .inr (2, [.int m_hasRun, .int m_thrown, .int m_thrownAt, m_values, m_meant, m_lanes, m_lengths, m_cells, .long m_state]))]) [0] (by decide) rfl
  have hFc := va_free (wc := [(mh, .inr (2, [.int m_hasRun, .int m_thrown, .int m_thrownAt, m_values, m_meant, m_lanes, m_lengths, m_cells, .long m_state]))]) hD hS hA [0] rfl
  refine va_calll (va_runV (As := []) (rest := []) ⟨hx, hb, hml, hown, hts⟩ (s_X2_draw l dC dI cI cJ cZ mh m_hasRun m_thrown m_thrownAt m_values m_meant m_lanes m_lengths m_cells m_state s.heap.size q_m_hasRun) (cwV 0 hts h_X2_drawIsEven_X2_draw_81 rfl rfl rfl (by decide +kernel) ⟨Nat.le_of_ble_eq_true rfl, Nat.le_of_ble_eq_true rfl⟩) ⟨cPre_blind, va_recv hK hPc (ci := 2) (q0 := 0) rfl rfl, cPre_of hK hN hPc hDc⟩ rfl rfl hl.1 rfl (lv_room (Nat.le_of_ble_eq_true rfl)) dX2_drawIsEven_1 ⟨Nat.le_of_ble_eq_true rfl, Nat.le_of_ble_eq_true rfl⟩) hS (fun q _ h => hFc q h) hFc (fun r_1 u_1 t_1 H_1 locs_1 ht hvm hw_1 hB hz1 hk1 hS1 => ?_)
  obtain ⟨v_2, rfl⟩ : ∃ z, z = u_1 := ⟨_, rfl⟩
  obtain ⟨hP1, hK1, hD1⟩ := hB
  rw [ht] at hP1
  obtain ⟨hP2, hD2⟩ := va_join (wr := []) (w1 := [(mh, .inr (2, [.int m_hasRun, .int m_thrown, .int m_thrownAt, m_values, m_meant, m_lanes, m_lengths, m_cells, .long v_2]))]) hP hD [0] [] rfl rfl (by decide) (by decide) hk1 hFc hP1 hD1
  clear hPc hDc hFc hP1 hD1 hK1 hk1 hz1 hvm ht
  replace hP : va_P (dC, dI) vwCl [(mh, .inr (2, [.int m_hasRun, .int m_thrown, .int m_thrownAt, m_values, m_meant, m_lanes, m_lengths, m_cells, .long v_2]))] H_1 := hP2
  replace hD : va_D A [(mh, .inr (2, [.int m_hasRun, .int m_thrown, .int m_thrownAt, m_values, m_meant, m_lanes, m_lengths, m_cells, .long v_2]))] := hD2
  replace hS := hS1
  clear hP2 hD2 hS1
  refine lv_lconst (v := 1) hx hb dX2_drawIsEven_4 (by decide) ?_
  refine lv_land hx hb dX2_drawIsEven_5 ?_
  refine lv_topl (fun v_3 e_v_3 => ?_)
  refine lv_lconst (v := 0) hx hb dX2_drawIsEven_6 (by decide) ?_
  refine W.lcmp hx hb dX2_drawIsEven_7 ?_
  refine my_join (S := Int32) (fun u => (kZ (u))) (fun u => [(mh, .inr (2, [.int m_hasRun, .int m_thrown, .int m_thrownAt, m_values, m_meant, m_lanes, m_lengths, m_cells, .long v_2]))]) (fun u => [(0, .ref mh)]) (fun u => [.int (u)]) (nL := 1) (H0 := s.heap) (A := A) (D := (dC, dI)) (cl := vwCl) 16 (fun u_5 hu_5 H_5 locs_5 ls1 hP1 hD1 hS1 hl1 => ?_) (fun jn_5 => ?_)
  · -- behind 16
    obtain ⟨v_6, rfl⟩ : ∃ z, z = u_5 := ⟨_, rfl⟩
    replace hu_5 : (kZ v_6) := hu_5
    have q_v_6 := hu_5
    replace hP : va_P (dC, dI) vwCl [(mh, .inr (2, [.int m_hasRun, .int m_thrown, .int m_thrownAt, m_values, m_meant, m_lanes, m_lengths, m_cells, .long v_2]))] H_5 := hP1
    replace hD : va_D A [(mh, .inr (2, [.int m_hasRun, .int m_thrown, .int m_thrownAt, m_values, m_meant, m_lanes, m_lengths, m_cells, .long v_2]))] := hD1
    replace hS := hS1
    clear hP1 hD1 hS1
    replace hl : lv_has ls1 1 [(0, .ref mh)] := hl1
    clear hl1
    have hP9 := hP.sub (ws' := [(mh, .inr (2, [.int m_hasRun, .int m_thrown, .int m_thrownAt, m_values, m_meant, m_lanes, m_lengths, m_cells, .long v_2]))]) [0] rfl
    have hD9 := hD.sub (ws' := [(mh, .inr (2, [.int m_hasRun, .int m_thrown, .int m_thrownAt, m_values, m_meant, m_lanes, m_lengths, m_cells, .long v_2]))]) [0] (by decide) rfl
    exact W.zret (v := v_6) (ty := .boolean) hx hb hr (nar01 q_v_6) (fun t ht hW => ⟨⟨v_6, v_2, rfl, (show kZ v_6 from q_v_6), by rw [ht]; exact hP9, va_K.moved hW.alike hK, hD9⟩, hS.F ht⟩) hS.2.2 dX2_drawIsEven_16
  · -- ahead of 16
    refine lv_if_ne (tgt := 15) hx hb dX2_drawIsEven_8 (by decide) (fun c_7 => ?_) (fun c_7 => ?_)
    · -- yes
      have k_7 : ¬ v_3.toInt = (0 : Int64).toInt := lc_ne c_7
      refine lv_iconst (v := 0) hx hb dX2_drawIsEven_15 (by decide) ?_
      exact jn_5 (0 : Int32) (show (kZ (0 : Int32)) from (by decide)) _ _ _ (hP.sub [0] rfl) (hD.sub [0] (by decide) rfl) hS (lv_sub hl [0] rfl)
    · -- no
      have k_7 : v_3.toInt = (0 : Int64).toInt := lc_eq c_7
      refine lv_iconst (v := 1) hx hb dX2_drawIsEven_11 (by decide) ?_
      refine lv_goto (tgt := 16) hx hb dX2_drawIsEven_12 (by decide) ?_
      exact jn_5 (1 : Int32) (show (kZ (1 : Int32)) from (by decide)) _ _ _ (hP.sub [0] rfl) (hD.sub [0] (by decide) rfl) hS (lv_sub hl [0] rfl)

def v_X2_drawFrom : List Cond := .code yX2_drawFrom cX2_drawFrom 7 (some .int) :: ([.methodLink RX2 81 yX2_draw, .instanceMethod yX2_draw, .selects RX2 yX2_draw yX2_draw, .initialized RX2] ++ (v_X2_draw))
theorem im_X2_drawFrom_X2_draw : ∀ w ∈ v_X2_draw, w ∈ v_X2_drawFrom := fun _ h => List.mem_cons_of_mem _ (List.mem_append_right _ (h))
set_option maxRecDepth 20000 in
theorem gd_X2_drawFrom : gdL v_X2_drawFrom := gdC (gdW (by decide +kernel)) (gdA (gdW (by decide +kernel)) gd_X2_draw)
set_option maxRecDepth 20000 in
theorem h_X2_drawFrom_X2_draw_81 : GoodIn v_X2_drawFrom (wsV RX2 81 RX2 yX2_draw v_X2_draw) := gdI [1, 2, 3, 4] rfl (by decide +kernel) (im_X2_drawFrom_X2_draw) gd_X2_draw
abbrev sw_X2_drawFrom (cI cJ cZ : ClassId) (mh : Nat) (m_hasRun : Int32) (m_thrown : Int32) (m_thrownAt : Int32) (m_values : Value) (m_meant : Value) (m_lanes : Value) (m_lengths : Value) (m_cells : Value) (m_state : Int64) (loa : Int32) (hia : Int32) : va_W := [(mh, .inr (2, [.int m_hasRun, .int m_thrown, .int m_thrownAt, m_values, m_meant, m_lanes, m_lengths, m_cells, .long m_state]))]
set_option maxHeartbeats 8000000 in
set_option maxRecDepth 100000 in
theorem s_X2_drawFrom (l : Launch) (dC : Nat → ClassId) (dI : Nat → Nat → Nat) (cI cJ cZ : ClassId) (mh : Nat) (m_hasRun : Int32) (m_thrown : Int32) (m_thrownAt : Int32) (m_values : Value) (m_meant : Value) (m_lanes : Value) (m_lengths : Value) (m_cells : Value) (m_state : Int64) (loa : Int32) (hia : Int32) (sz : Nat) (q_m_hasRun : kZ m_hasRun) : Met l yX2_drawFrom v_X2_drawFrom ({ frames := 1, cells := 0, slots := 0, locals := 22 }) (va_Pc [.ref mh, .int loa, .int hia] (cPre dC dI cI cJ cZ sz (sw_X2_drawFrom cI cJ cZ mh m_hasRun m_thrown m_thrownAt m_values m_meant m_lanes m_lengths m_cells m_state loa hia))) (va_Qi (fun (r : Int32) (u : Int64) => True) (fun (u : Int64) => cPost dC dI cI cJ cZ (va_A (sw_X2_drawFrom cI cJ cZ mh m_hasRun m_thrown m_thrownAt m_values m_meant m_lanes m_lengths m_cells m_state loa hia) sz) [(mh, .inr (2, [.int m_hasRun, .int m_thrown, .int m_thrownAt, m_values, m_meant, m_lanes, m_lengths, m_cells, .long (u)]))]) (va_A (sw_X2_drawFrom cI cJ cZ mh m_hasRun m_thrown m_thrownAt m_values m_meant m_lanes m_lengths m_cells m_state loa hia) sz)) 0 0 (va_A (sw_X2_drawFrom cI cJ cZ mh m_hasRun m_thrown m_thrownAt m_values m_meant m_lanes m_lengths m_cells m_state loa hia) sz) := by
  refine Met.ofW (cc := cX2_drawFrom) (maxL := 7) (ret := (some .int)) (by decide) rfl ?_
  intro p e s m args below meth c s₁ B hml hv
  obtain ⟨rfl, hsz, hP, hK, hD0, hN⟩ := hv
  have hx := B.exec
  have hb := B.bytes
  have hr := B.returns
  have hts := atoms_spec (ws := v_X2_drawFrom) B.pre
  have hown : s.vm.findClass RX2 = some m.cls := findClass_of_methodNamed B.named
  have hlocks := B.notSynchronized
  subst hsz
  have hD := hD0.self (sz := s.heap.size)
  generalize hAe : va_A (sw_X2_drawFrom cI cJ cZ mh m_hasRun m_thrown m_thrownAt m_values m_meant m_lanes m_lengths m_cells m_state loa hia) s.heap.size = A at hD ⊢
  have hA : ∀ q : Nat, s.heap.size ≤ q → A q := fun q h => by rw [← hAe]; exact Or.inr h
  clear hAe hD0
  have hS : va_S A s.heap s.heap [] := va_S.rf
  replace hP : va_P (dC, dI) vwCl [(mh, .inr (2, [.int m_hasRun, .int m_thrown, .int m_thrownAt, m_values, m_meant, m_lanes, m_lengths, m_cells, .long m_state]))] s.heap := hP
  replace hD : va_D A [(mh, .inr (2, [.int m_hasRun, .int m_thrown, .int m_thrownAt, m_values, m_meant, m_lanes, m_lengths, m_cells, .long m_state]))] := hD
  have hl := lv_entry ([.ref mh, .int loa, .int hia]) (n := 7) (Nat.le_of_ble_eq_true rfl)
  rw [lg_entry_eq]
  generalize (lg_sl ([.ref mh, .int loa, .int hia]) ++ List.replicate (7 - (lg_sl ([.ref mh, .int loa, .int hia])).length) Slot.unset).toArray = ls at hl ⊢
  replace hl : lv_has ls 7 [(0, .ref mh), (1, .int loa), (2, .int hia)] := hl
  have z_0 : (0 : Int32).toInt = 0 := by decide
  have z_1 : (1 : Int32).toInt = 1 := by decide
  have zl_0 : (0 : Int64).toInt = 0 := by decide
  have zl_1 : (1 : Int64).toInt = 1 := by decide
  refine lv_iload_n hx hb dX2_drawFrom_0 rfl (lv_at hl 2 rfl) ?_
  refine sf_i2l hx hb dX2_drawFrom_1 (fun v_1 q_v_1 => ?_)
  refine lv_iload_n hx hb dX2_drawFrom_2 rfl (lv_at hl 1 rfl) ?_
  refine sf_i2l hx hb dX2_drawFrom_3 (fun v_2 q_v_2 => ?_)
  refine sf_lsub hx hb dX2_drawFrom_4 ⟨by omega, by omega⟩ (fun v_3 q_v_3 => ?_)
  refine lv_lconst (v := 1) hx hb dX2_drawFrom_5 (by decide) ?_
  refine sf_ladd hx hb dX2_drawFrom_6 ⟨by omega, by omega⟩ (fun v_4 q_v_4 => ?_)
  refine lv_lstore_n (lv' := [(3, .long v_4), (0, .ref mh), (1, .int loa), (2, .int hia)]) hx hb dX2_drawFrom_7 rfl hl (by decide) rfl (fun ls1 hl1 => ?_)
  replace hl := hl1; clear hl1
  refine lv_aload_n hx hb dX2_drawFrom_8 rfl (lv_at hl 1 rfl) ?_
  have hPc := hP.sub (ws' := [(mh, .inr (2, [.int m_hasRun, .int m_thrown, .int m_thrownAt, m_values, m_meant, m_lanes, m_lengths, m_cells, .long m_state]))]) [0] rfl
  have hDc := hD.sub (ws' := [(mh, .inr (2, [.int m_hasRun, .int m_thrown, .int m_thrownAt, m_values, m_meant, m_lanes, m_lengths, m_cells, .long m_state]))]) [0] (by decide) rfl
  have hFc := va_free (wc := [(mh, .inr (2, [.int m_hasRun, .int m_thrown, .int m_thrownAt, m_values, m_meant, m_lanes, m_lengths, m_cells, .long m_state]))]) hD hS hA [0] rfl
  refine va_calll (va_runV (As := []) (rest := []) ⟨hx, hb, hml, hown, hts⟩ (s_X2_draw l dC dI cI cJ cZ mh m_hasRun m_thrown m_thrownAt m_values m_meant m_lanes m_lengths m_cells m_state s.heap.size q_m_hasRun) (cwV 0 hts h_X2_drawFrom_X2_draw_81 rfl rfl rfl (by decide +kernel) ⟨Nat.le_of_ble_eq_true rfl, Nat.le_of_ble_eq_true rfl⟩) ⟨cPre_blind, va_recv hK hPc (ci := 2) (q0 := 0) rfl rfl, cPre_of hK hN hPc hDc⟩ rfl rfl hl.1 rfl (lv_room (Nat.le_of_ble_eq_true rfl)) dX2_drawFrom_9 ⟨Nat.le_of_ble_eq_true rfl, Nat.le_of_ble_eq_true rfl⟩) hS (fun q _ h => hFc q h) hFc (fun r_5 u_5 t_5 H_5 locs_5 ht hvm hw_5 hB hz1 hk1 hS1 => ?_)
  obtain ⟨v_6, rfl⟩ : ∃ z, z = u_5 := ⟨_, rfl⟩
  obtain ⟨hP1, hK1, hD1⟩ := hB
  rw [ht] at hP1
  obtain ⟨hP2, hD2⟩ := va_join (wr := []) (w1 := [(mh, .inr (2, [.int m_hasRun, .int m_thrown, .int m_thrownAt, m_values, m_meant, m_lanes, m_lengths, m_cells, .long v_6]))]) hP hD [0] [] rfl rfl (by decide) (by decide) hk1 hFc hP1 hD1
  clear hPc hDc hFc hP1 hD1 hK1 hk1 hz1 hvm ht
  replace hP : va_P (dC, dI) vwCl [(mh, .inr (2, [.int m_hasRun, .int m_thrown, .int m_thrownAt, m_values, m_meant, m_lanes, m_lengths, m_cells, .long v_6]))] H_5 := hP2
  replace hD : va_D A [(mh, .inr (2, [.int m_hasRun, .int m_thrown, .int m_thrownAt, m_values, m_meant, m_lanes, m_lengths, m_cells, .long v_6]))] := hD2
  replace hS := hS1
  clear hP2 hD2 hS1
  refine lv_bipush (v := 33) hx hb dX2_drawFrom_12 (by decide) ?_
  refine lv_lushr (v := _) hx hb dX2_drawFrom_14 rfl ?_
  refine lv_topl (fun v_7 _ => ?_)
  refine lv_lstore (lv' := [(5, .long v_7), (3, .long v_4), (0, .ref mh), (1, .int loa), (2, .int hia)]) hx hb dX2_drawFrom_15 hl (by decide) rfl (fun ls1 hl1 => ?_)
  replace hl := hl1; clear hl1
  refine lv_lload_n hx hb dX2_drawFrom_17 rfl (lv_at hl 1 rfl) ?_
  refine lv_lconst (v := 0) hx hb dX2_drawFrom_18 (by decide) ?_
  refine W.lcmp hx hb dX2_drawFrom_19 ?_
  refine my_join (S := Int32) (fun u => True) (fun u => [(mh, .inr (2, [.int m_hasRun, .int m_thrown, .int m_thrownAt, m_values, m_meant, m_lanes, m_lengths, m_cells, .long v_6]))]) (fun u => [(5, .long v_7), (3, .long v_4), (0, .ref mh), (1, .int loa), (2, .int hia)]) (fun u => [.int (u)]) (nL := 7) (H0 := s.heap) (A := A) (D := (dC, dI)) (cl := vwCl) 35 (fun u_9 hu_9 H_9 locs_9 ls1 hP1 hD1 hS1 hl1 => ?_) (fun jn_9 => ?_)
  · -- behind 35
    obtain ⟨v_10, rfl⟩ : ∃ z, z = u_9 := ⟨_, rfl⟩
    replace hP : va_P (dC, dI) vwCl [(mh, .inr (2, [.int m_hasRun, .int m_thrown, .int m_thrownAt, m_values, m_meant, m_lanes, m_lengths, m_cells, .long v_6]))] H_9 := hP1
    replace hD : va_D A [(mh, .inr (2, [.int m_hasRun, .int m_thrown, .int m_thrownAt, m_values, m_meant, m_lanes, m_lengths, m_cells, .long v_6]))] := hD1
    replace hS := hS1
    clear hP1 hD1 hS1
    replace hl : lv_has ls1 7 [(5, .long v_7), (3, .long v_4), (0, .ref mh), (1, .int loa), (2, .int hia)] := hl1
    clear hl1
    have hP9 := hP.sub (ws' := [(mh, .inr (2, [.int m_hasRun, .int m_thrown, .int m_thrownAt, m_values, m_meant, m_lanes, m_lengths, m_cells, .long v_6]))]) [0] rfl
    have hD9 := hD.sub (ws' := [(mh, .inr (2, [.int m_hasRun, .int m_thrown, .int m_thrownAt, m_values, m_meant, m_lanes, m_lengths, m_cells, .long v_6]))]) [0] (by decide) rfl
    exact W.iret (v := v_10) hx hb hr (fun t ht hW => ⟨⟨v_10, v_6, rfl, trivial, by rw [ht]; exact hP9, va_K.moved hW.alike hK, hD9⟩, hS.F ht⟩) hS.2.2 dX2_drawFrom_35
  · -- ahead of 35
    refine lv_if_le (tgt := 34) hx hb dX2_drawFrom_20 (by decide) (fun c_11 => ?_) (fun c_11 => ?_)
    · -- yes
      have k_11 : v_4.toInt ≤ (0 : Int64).toInt := lc_le c_11
      refine lv_iload_n hx hb dX2_drawFrom_34 rfl (lv_at hl 3 rfl) ?_
      exact jn_9 loa (show True from trivial) _ _ _ (hP.sub [0] rfl) (hD.sub [0] (by decide) rfl) hS (lv_sub hl [0, 1, 2, 3, 4] rfl)
    · -- no
      have k_11 : (0 : Int64).toInt < v_4.toInt := lc_nle c_11
      refine lv_iload_n hx hb dX2_drawFrom_23 rfl (lv_at hl 3 rfl) ?_
      refine sf_i2l hx hb dX2_drawFrom_24 (fun v_12 q_v_12 => ?_)
      refine lv_lload hx hb dX2_drawFrom_25 (lv_at hl 0 rfl) ?_
      refine lv_lload_n hx hb dX2_drawFrom_27 rfl (lv_at hl 1 rfl) ?_
      refine lv_lrem hx hb dX2_drawFrom_28 (l_ne0 (by omega)) ?_
      refine lv_topl (fun v_13 _ => ?_)
      refine lv_ladd hx hb dX2_drawFrom_29 ?_
      refine lv_topl (fun v_14 e_v_14 => ?_)
      refine lv_l2i (v := _) hx hb dX2_drawFrom_30 rfl ?_
      refine lv_topi (fun v_15 _ => ?_)
      refine lv_goto (tgt := 35) hx hb dX2_drawFrom_31 (by decide) ?_
      exact jn_9 v_15 (show True from trivial) _ _ _ (hP.sub [0] rfl) (hD.sub [0] (by decide) rfl) hS (lv_sub hl [0, 1, 2, 3, 4] rfl)

def v_X2_placeProblem : List Cond := .code yX2_placeProblem cX2_placeProblem 4 (some .int) :: ([.fieldLink RX2 29 "ArraySegments$Machine" "lanes" "[I", .fieldLink RX2 32 "ArraySegments$Machine" "lengths" "[I"] ++ (wsX20))
theorem inv_X2_placeProblem_X2 : ∀ w ∈ wsX20, w ∈ v_X2_placeProblem := fun _ h => List.mem_cons_of_mem _ (List.mem_append_right _ (h))
set_option maxRecDepth 20000 in
theorem gd_X2_placeProblem : gdL v_X2_placeProblem := gdC (gdW (by decide +kernel)) (gdA (gdW (by decide +kernel)) gd_wsX20)
abbrev sw_X2_placeProblem (cI cJ cZ : ClassId) (mh : Nat) (m_hasRun : Int32) (m_thrown : Int32) (m_thrownAt : Int32) (m_values : Value) (m_meant : Value) (ma_lanes : Nat) (ma_lengths : Nat) (m_cells : Value) (m_state : Int64) (mc_lanes : Nat → Int32) (mc_lengths : Nat → Int32) (arra : Int32) (la : Int32) (ata : Int32) : va_W := [(mh, .inr (2, [.int m_hasRun, .int m_thrown, .int m_thrownAt, m_values, m_meant, .ref ma_lanes, .ref ma_lengths, m_cells, .long m_state])), (ma_lanes, .inl (cI, 40, .inl mc_lanes)), (ma_lengths, .inl (cI, 40, .inl mc_lengths))]
set_option maxHeartbeats 8000000 in
set_option maxRecDepth 100000 in
theorem s_X2_placeProblem (l : Launch) (dC : Nat → ClassId) (dI : Nat → Nat → Nat) (cI cJ cZ : ClassId) (mh : Nat) (m_hasRun : Int32) (m_thrown : Int32) (m_thrownAt : Int32) (m_values : Value) (m_meant : Value) (ma_lanes : Nat) (ma_lengths : Nat) (m_cells : Value) (m_state : Int64) (mc_lanes : Nat → Int32) (mc_lengths : Nat → Int32) (arra : Int32) (la : Int32) (ata : Int32) (sz : Nat) (q_m_hasRun : kZ m_hasRun) (h_mc_lengths : ∀ j : Nat, kR012 (mc_lengths j)) (hy_arra : -1 ≤ arra.toInt ∧ arra.toInt ≤ 39) : Met l yX2_placeProblem v_X2_placeProblem ({ frames := 0, cells := 0, slots := 0, locals := 0 }) (va_Pc [.ref mh, .int arra, .int la, .int ata] (cPre dC dI cI cJ cZ sz (sw_X2_placeProblem cI cJ cZ mh m_hasRun m_thrown m_thrownAt m_values m_meant ma_lanes ma_lengths m_cells m_state mc_lanes mc_lengths arra la ata))) (va_Qi (fun (r : Int32) (u : Unit) => (r.toInt ≠ 0 ∨ (0 ≤ arra.toInt ∧ 0 ≤ ata.toInt ∧ ata.toInt ≤ 11))) (fun (u : Unit) => cPost dC dI cI cJ cZ (va_A (sw_X2_placeProblem cI cJ cZ mh m_hasRun m_thrown m_thrownAt m_values m_meant ma_lanes ma_lengths m_cells m_state mc_lanes mc_lengths arra la ata) sz) [(mh, .inr (2, [.int m_hasRun, .int m_thrown, .int m_thrownAt, m_values, m_meant, .ref ma_lanes, .ref ma_lengths, m_cells, .long m_state])), (ma_lanes, .inl (cI, 40, .inl mc_lanes)), (ma_lengths, .inl (cI, 40, .inl mc_lengths))]) (va_A (sw_X2_placeProblem cI cJ cZ mh m_hasRun m_thrown m_thrownAt m_values m_meant ma_lanes ma_lengths m_cells m_state mc_lanes mc_lengths arra la ata) sz)) 0 0 (va_A (sw_X2_placeProblem cI cJ cZ mh m_hasRun m_thrown m_thrownAt m_values m_meant ma_lanes ma_lengths m_cells m_state mc_lanes mc_lengths arra la ata) sz) := by
  refine Met.ofW (cc := cX2_placeProblem) (maxL := 4) (ret := (some .int)) (by decide) rfl ?_
  intro p e s m args below meth c s₁ B hml hv
  obtain ⟨rfl, hsz, hP, hK, hD0, hN⟩ := hv
  have hx := B.exec
  have hb := B.bytes
  have hr := B.returns
  have hts := atoms_spec (ws := v_X2_placeProblem) B.pre
  have hown : s.vm.findClass RX2 = some m.cls := findClass_of_methodNamed B.named
  have hlocks := B.notSynchronized
  subst hsz
  have hD := hD0.self (sz := s.heap.size)
  generalize hAe : va_A (sw_X2_placeProblem cI cJ cZ mh m_hasRun m_thrown m_thrownAt m_values m_meant ma_lanes ma_lengths m_cells m_state mc_lanes mc_lengths arra la ata) s.heap.size = A at hD ⊢
  have hA : ∀ q : Nat, s.heap.size ≤ q → A q := fun q h => by rw [← hAe]; exact Or.inr h
  clear hAe hD0
  have hS : va_S A s.heap s.heap [] := va_S.rf
  replace hP : va_P (dC, dI) vwCl [(mh, .inr (2, [.int m_hasRun, .int m_thrown, .int m_thrownAt, m_values, m_meant, .ref ma_lanes, .ref ma_lengths, m_cells, .long m_state])), (ma_lanes, .inl (cI, 40, .inl mc_lanes)), (ma_lengths, .inl (cI, 40, .inl mc_lengths))] s.heap := hP
  replace hD : va_D A [(mh, .inr (2, [.int m_hasRun, .int m_thrown, .int m_thrownAt, m_values, m_meant, .ref ma_lanes, .ref ma_lengths, m_cells, .long m_state])), (ma_lanes, .inl (cI, 40, .inl mc_lanes)), (ma_lengths, .inl (cI, 40, .inl mc_lengths))] := hD
  have hl := lv_entry ([.ref mh, .int arra, .int la, .int ata]) (n := 4) (Nat.le_of_ble_eq_true rfl)
  rw [lg_entry_eq]
  generalize (lg_sl ([.ref mh, .int arra, .int la, .int ata]) ++ List.replicate (4 - (lg_sl ([.ref mh, .int arra, .int la, .int ata])).length) Slot.unset).toArray = ls at hl ⊢
  replace hl : lv_has ls 4 [(0, .ref mh), (1, .int arra), (2, .int la), (3, .int ata)] := hl
  have z_0 : (0 : Int32).toInt = 0 := by decide
  have z_1 : (1 : Int32).toInt = 1 := by decide
  have z_2 : (2 : Int32).toInt = 2 := by decide
  have z_5 : (5 : Int32).toInt = 5 := by decide
  refine lv_iload_n hx hb dX2_placeProblem_0 rfl (lv_at hl 1 rfl) ?_
  refine lv_if_ge (tgt := 6) hx hb dX2_placeProblem_1 (by decide) (fun c_1 => ?_) (fun c_1 => ?_)
  · -- yes
    have k_1 : (0 : Int32).toInt ≤ arra.toInt := ci_ge c_1
    refine lv_aload_n hx hb dX2_placeProblem_6 rfl (lv_at hl 0 rfl) ?_
    refine va_get (D := (dC, dI)) (ci := 2) (v := .ref ma_lanes) (C := RX2) (T := TX2) (N := 9) hx hb hts inv_X2_placeProblem_X2 hown hK hP 0 rfl rfl 5 (by decide) (hts (.fieldLink RX2 29 "ArraySegments$Machine" "lanes" "[I") (List.mem_of_getElem? (i := 1) rfl)) (fun _ h9 => h9) rfl dX2_placeProblem_7 ?_
    refine lv_iload_n hx hb dX2_placeProblem_10 rfl (lv_at hl 1 rfl) ?_
    refine sf_iald kT hx hb hK hP 1 0 rfl rfl (fun _ => trivial) (vp_in_iff.mpr ⟨by omega, by omega⟩) dX2_placeProblem_11 (fun v_2 q_v_2 e_v_2 => ?_)
    refine lv_iload_n hx hb dX2_placeProblem_12 rfl (lv_at hl 2 rfl) ?_
    refine lv_icmp_eq (tgt := 18) hx hb dX2_placeProblem_13 (by decide) (fun c_3 => ?_) (fun c_3 => ?_)
    · -- yes
      have k_3 : v_2.toInt = la.toInt := ci_eq c_3
      refine lv_iload_n hx hb dX2_placeProblem_18 rfl (lv_at hl 3 rfl) ?_
      refine lv_if_lt (tgt := 32) hx hb dX2_placeProblem_19 (by decide) (fun c_4 => ?_) (fun c_4 => ?_)
      · -- yes
        have k_4 : ata.toInt < (0 : Int32).toInt := ci_lt c_4
        refine lv_iconst (v := 5) hx hb dX2_placeProblem_32 (by decide) ?_
        refine lv_goto (tgt := 37) hx hb dX2_placeProblem_33 (by decide) ?_
        have hP9 := hP.sub (ws' := [(mh, .inr (2, [.int m_hasRun, .int m_thrown, .int m_thrownAt, m_values, m_meant, .ref ma_lanes, .ref ma_lengths, m_cells, .long m_state])), (ma_lanes, .inl (cI, 40, .inl mc_lanes)), (ma_lengths, .inl (cI, 40, .inl mc_lengths))]) [0, 1, 2] rfl
        have hD9 := hD.sub (ws' := [(mh, .inr (2, [.int m_hasRun, .int m_thrown, .int m_thrownAt, m_values, m_meant, .ref ma_lanes, .ref ma_lengths, m_cells, .long m_state])), (ma_lanes, .inl (cI, 40, .inl mc_lanes)), (ma_lengths, .inl (cI, 40, .inl mc_lengths))]) [0, 1, 2] (by decide) rfl
        exact W.iret (v := 5) hx hb hr (fun t ht hW => ⟨⟨5, (), rfl, (show (5 : Int32).toInt ≠ 0 ∨ (0 ≤ arra.toInt ∧ 0 ≤ ata.toInt ∧ ata.toInt ≤ 11) from (by first | assumption | omega)), by rw [ht]; exact hP9, va_K.moved hW.alike hK, hD9⟩, hS.F ht⟩) hS.2.2 dX2_placeProblem_37
      · -- no
        have k_4 : (0 : Int32).toInt ≤ ata.toInt := ci_nlt c_4
        refine lv_iload_n hx hb dX2_placeProblem_22 rfl (lv_at hl 3 rfl) ?_
        refine lv_aload_n hx hb dX2_placeProblem_23 rfl (lv_at hl 0 rfl) ?_
        refine va_get (D := (dC, dI)) (ci := 2) (v := .ref ma_lengths) (C := RX2) (T := TX2) (N := 9) hx hb hts inv_X2_placeProblem_X2 hown hK hP 0 rfl rfl 6 (by decide) (hts (.fieldLink RX2 32 "ArraySegments$Machine" "lengths" "[I") (List.mem_of_getElem? (i := 2) rfl)) (fun _ h9 => h9) rfl dX2_placeProblem_24 ?_
        refine lv_iload_n hx hb dX2_placeProblem_27 rfl (lv_at hl 1 rfl) ?_
        refine sf_iald kR012 hx hb hK hP 2 0 rfl rfl h_mc_lengths (vp_in_iff.mpr ⟨by omega, by omega⟩) dX2_placeProblem_28 (fun v_5 q_v_5 e_v_5 => ?_)
        refine lv_icmp_lt (tgt := 36) hx hb dX2_placeProblem_29 (by decide) (fun c_6 => ?_) (fun c_6 => ?_)
        · -- yes
          have k_6 : ata.toInt < v_5.toInt := ci_lt c_6
          refine lv_iconst (v := 0) hx hb dX2_placeProblem_36 (by decide) ?_
          have hP9 := hP.sub (ws' := [(mh, .inr (2, [.int m_hasRun, .int m_thrown, .int m_thrownAt, m_values, m_meant, .ref ma_lanes, .ref ma_lengths, m_cells, .long m_state])), (ma_lanes, .inl (cI, 40, .inl mc_lanes)), (ma_lengths, .inl (cI, 40, .inl mc_lengths))]) [0, 1, 2] rfl
          have hD9 := hD.sub (ws' := [(mh, .inr (2, [.int m_hasRun, .int m_thrown, .int m_thrownAt, m_values, m_meant, .ref ma_lanes, .ref ma_lengths, m_cells, .long m_state])), (ma_lanes, .inl (cI, 40, .inl mc_lanes)), (ma_lengths, .inl (cI, 40, .inl mc_lengths))]) [0, 1, 2] (by decide) rfl
          exact W.iret (v := 0) hx hb hr (fun t ht hW => ⟨⟨0, (), rfl, (show (0 : Int32).toInt ≠ 0 ∨ (0 ≤ arra.toInt ∧ 0 ≤ ata.toInt ∧ ata.toInt ≤ 11) from (by first | assumption | omega)), by rw [ht]; exact hP9, va_K.moved hW.alike hK, hD9⟩, hS.F ht⟩) hS.2.2 dX2_placeProblem_37
        · -- no
          have k_6 : v_5.toInt ≤ ata.toInt := ci_nlt c_6
          refine lv_iconst (v := 5) hx hb dX2_placeProblem_32 (by decide) ?_
          refine lv_goto (tgt := 37) hx hb dX2_placeProblem_33 (by decide) ?_
          have hP9 := hP.sub (ws' := [(mh, .inr (2, [.int m_hasRun, .int m_thrown, .int m_thrownAt, m_values, m_meant, .ref ma_lanes, .ref ma_lengths, m_cells, .long m_state])), (ma_lanes, .inl (cI, 40, .inl mc_lanes)), (ma_lengths, .inl (cI, 40, .inl mc_lengths))]) [0, 1, 2] rfl
          have hD9 := hD.sub (ws' := [(mh, .inr (2, [.int m_hasRun, .int m_thrown, .int m_thrownAt, m_values, m_meant, .ref ma_lanes, .ref ma_lengths, m_cells, .long m_state])), (ma_lanes, .inl (cI, 40, .inl mc_lanes)), (ma_lengths, .inl (cI, 40, .inl mc_lengths))]) [0, 1, 2] (by decide) rfl
          exact W.iret (v := 5) hx hb hr (fun t ht hW => ⟨⟨5, (), rfl, (show (5 : Int32).toInt ≠ 0 ∨ (0 ≤ arra.toInt ∧ 0 ≤ ata.toInt ∧ ata.toInt ≤ 11) from (by first | assumption | omega)), by rw [ht]; exact hP9, va_K.moved hW.alike hK, hD9⟩, hS.F ht⟩) hS.2.2 dX2_placeProblem_37
    · -- no
      have k_3 : ¬ v_2.toInt = la.toInt := ci_ne c_3
      refine lv_iconst (v := 2) hx hb dX2_placeProblem_16 (by decide) ?_
      have hP9 := hP.sub (ws' := [(mh, .inr (2, [.int m_hasRun, .int m_thrown, .int m_thrownAt, m_values, m_meant, .ref ma_lanes, .ref ma_lengths, m_cells, .long m_state])), (ma_lanes, .inl (cI, 40, .inl mc_lanes)), (ma_lengths, .inl (cI, 40, .inl mc_lengths))]) [0, 1, 2] rfl
      have hD9 := hD.sub (ws' := [(mh, .inr (2, [.int m_hasRun, .int m_thrown, .int m_thrownAt, m_values, m_meant, .ref ma_lanes, .ref ma_lengths, m_cells, .long m_state])), (ma_lanes, .inl (cI, 40, .inl mc_lanes)), (ma_lengths, .inl (cI, 40, .inl mc_lengths))]) [0, 1, 2] (by decide) rfl
      exact W.iret (v := 2) hx hb hr (fun t ht hW => ⟨⟨2, (), rfl, (show (2 : Int32).toInt ≠ 0 ∨ (0 ≤ arra.toInt ∧ 0 ≤ ata.toInt ∧ ata.toInt ≤ 11) from (by first | assumption | omega)), by rw [ht]; exact hP9, va_K.moved hW.alike hK, hD9⟩, hS.F ht⟩) hS.2.2 dX2_placeProblem_17
  · -- no
    have k_1 : arra.toInt < (0 : Int32).toInt := ci_nge c_1
    refine lv_iconst (v := 1) hx hb dX2_placeProblem_4 (by decide) ?_
    have hP9 := hP.sub (ws' := [(mh, .inr (2, [.int m_hasRun, .int m_thrown, .int m_thrownAt, m_values, m_meant, .ref ma_lanes, .ref ma_lengths, m_cells, .long m_state])), (ma_lanes, .inl (cI, 40, .inl mc_lanes)), (ma_lengths, .inl (cI, 40, .inl mc_lengths))]) [0, 1, 2] rfl
    have hD9 := hD.sub (ws' := [(mh, .inr (2, [.int m_hasRun, .int m_thrown, .int m_thrownAt, m_values, m_meant, .ref ma_lanes, .ref ma_lengths, m_cells, .long m_state])), (ma_lanes, .inl (cI, 40, .inl mc_lanes)), (ma_lengths, .inl (cI, 40, .inl mc_lengths))]) [0, 1, 2] (by decide) rfl
    exact W.iret (v := 1) hx hb hr (fun t ht hW => ⟨⟨1, (), rfl, (show (1 : Int32).toInt ≠ 0 ∨ (0 ≤ arra.toInt ∧ 0 ≤ ata.toInt ∧ ata.toInt ≤ 11) from (by first | assumption | omega)), by rw [ht]; exact hP9, va_K.moved hW.alike hK, hD9⟩, hS.F ht⟩) hS.2.2 dX2_placeProblem_5

def v_X2_doWrite : List Cond := .code yX2_doWrite cX2_doWrite 6 (some .int) :: ([.methodLink RX2 130 yX2_placeProblem, .instanceMethod yX2_placeProblem, .selects RX2 yX2_placeProblem yX2_placeProblem, .initialized RX2, .fieldLink RX2 35 "ArraySegments$Machine" "cells" "[I", .methodLink RX2 133 yX2_castTo, .static yX2_castTo] ++ (wsX20 ++ (v_X2_placeProblem ++ (v_X2_castTo))))
theorem inv_X2_doWrite_X2 : ∀ w ∈ wsX20, w ∈ v_X2_doWrite := fun _ h => List.mem_cons_of_mem _ (List.mem_append_right _ (List.mem_append_left _ h))
theorem im_X2_doWrite_X2_placeProblem : ∀ w ∈ v_X2_placeProblem, w ∈ v_X2_doWrite := fun _ h => List.mem_cons_of_mem _ (List.mem_append_right _ (List.mem_append_right _ (List.mem_append_left _ h)))
theorem im_X2_doWrite_X2_castTo : ∀ w ∈ v_X2_castTo, w ∈ v_X2_doWrite := fun _ h => List.mem_cons_of_mem _ (List.mem_append_right _ (List.mem_append_right _ (List.mem_append_right _ (h))))
set_option maxRecDepth 20000 in
theorem gd_X2_doWrite : gdL v_X2_doWrite := gdC (gdW (by decide +kernel)) (gdA (gdW (by decide +kernel)) (gdA gd_wsX20 (gdA gd_X2_placeProblem gd_X2_castTo)))
set_option maxRecDepth 20000 in
theorem h_X2_doWrite_X2_placeProblem_130 : GoodIn v_X2_doWrite (wsV RX2 130 RX2 yX2_placeProblem v_X2_placeProblem) := gdI [1, 2, 3, 4] rfl (by decide +kernel) (im_X2_doWrite_X2_placeProblem) gd_X2_placeProblem
set_option maxRecDepth 20000 in
theorem h_X2_doWrite_X2_castTo_133 : GoodIn v_X2_doWrite (va_wsS RX2 133 yX2_castTo v_X2_castTo) := gdI [6, 7, 4] rfl (by decide +kernel) (im_X2_doWrite_X2_castTo) gd_X2_castTo
abbrev sw_X2_doWrite (cI cJ cZ : ClassId) (mh : Nat) (m_hasRun : Int32) (m_thrown : Int32) (m_thrownAt : Int32) (m_values : Value) (m_meant : Value) (ma_lanes : Nat) (ma_lengths : Nat) (ma_cells : Nat) (m_state : Int64) (mc_lanes : Nat → Int32) (mc_lengths : Nat → Int32) (mc_cells : Nat → Int32) (arra : Int32) (la : Int32) (ata : Int32) (na : Int32) : va_W := [(mh, .inr (2, [.int m_hasRun, .int m_thrown, .int m_thrownAt, m_values, m_meant, .ref ma_lanes, .ref ma_lengths, .ref ma_cells, .long m_state])), (ma_lanes, .inl (cI, 40, .inl mc_lanes)), (ma_lengths, .inl (cI, 40, .inl mc_lengths)), (ma_cells, .inl (cI, 480, .inl mc_cells))]
set_option maxHeartbeats 8000000 in
set_option maxRecDepth 100000 in
theorem s_X2_doWrite (l : Launch) (dC : Nat → ClassId) (dI : Nat → Nat → Nat) (cI cJ cZ : ClassId) (mh : Nat) (m_hasRun : Int32) (m_thrown : Int32) (m_thrownAt : Int32) (m_values : Value) (m_meant : Value) (ma_lanes : Nat) (ma_lengths : Nat) (ma_cells : Nat) (m_state : Int64) (mc_lanes : Nat → Int32) (mc_lengths : Nat → Int32) (mc_cells : Nat → Int32) (arra : Int32) (la : Int32) (ata : Int32) (na : Int32) (sz : Nat) (q_m_hasRun : kZ m_hasRun) (h_mc_lengths : ∀ j : Nat, kR012 (mc_lengths j)) (hy_arra : -1 ≤ arra.toInt ∧ arra.toInt ≤ 39) : Met l yX2_doWrite v_X2_doWrite ({ frames := 1, cells := 0, slots := 0, locals := 23 }) (va_Pc [.ref mh, .int arra, .int la, .int ata, .int na] (cPre dC dI cI cJ cZ sz (sw_X2_doWrite cI cJ cZ mh m_hasRun m_thrown m_thrownAt m_values m_meant ma_lanes ma_lengths ma_cells m_state mc_lanes mc_lengths mc_cells arra la ata na))) (va_Qi (fun (r : Int32) (u : (Nat → Int32)) => (r.toInt ≠ 0 ∨ (0 ≤ arra.toInt ∧ 0 ≤ ata.toInt ∧ ata.toInt ≤ 11))) (fun (u : (Nat → Int32)) => cPost dC dI cI cJ cZ (va_A (sw_X2_doWrite cI cJ cZ mh m_hasRun m_thrown m_thrownAt m_values m_meant ma_lanes ma_lengths ma_cells m_state mc_lanes mc_lengths mc_cells arra la ata na) sz) [(mh, .inr (2, [.int m_hasRun, .int m_thrown, .int m_thrownAt, m_values, m_meant, .ref ma_lanes, .ref ma_lengths, .ref ma_cells, .long m_state])), (ma_lanes, .inl (cI, 40, .inl mc_lanes)), (ma_lengths, .inl (cI, 40, .inl mc_lengths)), (ma_cells, .inl (cI, 480, .inl (u)))]) (va_A (sw_X2_doWrite cI cJ cZ mh m_hasRun m_thrown m_thrownAt m_values m_meant ma_lanes ma_lengths ma_cells m_state mc_lanes mc_lengths mc_cells arra la ata na) sz)) 0 0 (va_A (sw_X2_doWrite cI cJ cZ mh m_hasRun m_thrown m_thrownAt m_values m_meant ma_lanes ma_lengths ma_cells m_state mc_lanes mc_lengths mc_cells arra la ata na) sz) := by
  refine Met.ofW (cc := cX2_doWrite) (maxL := 6) (ret := (some .int)) (by decide) rfl ?_
  intro p e s m args below meth c s₁ B hml hv
  obtain ⟨rfl, hsz, hP, hK, hD0, hN⟩ := hv
  have hx := B.exec
  have hb := B.bytes
  have hr := B.returns
  have hts := atoms_spec (ws := v_X2_doWrite) B.pre
  have hown : s.vm.findClass RX2 = some m.cls := findClass_of_methodNamed B.named
  have hlocks := B.notSynchronized
  subst hsz
  have hD := hD0.self (sz := s.heap.size)
  generalize hAe : va_A (sw_X2_doWrite cI cJ cZ mh m_hasRun m_thrown m_thrownAt m_values m_meant ma_lanes ma_lengths ma_cells m_state mc_lanes mc_lengths mc_cells arra la ata na) s.heap.size = A at hD ⊢
  have hA : ∀ q : Nat, s.heap.size ≤ q → A q := fun q h => by rw [← hAe]; exact Or.inr h
  clear hAe hD0
  have hS : va_S A s.heap s.heap [] := va_S.rf
  replace hP : va_P (dC, dI) vwCl [(mh, .inr (2, [.int m_hasRun, .int m_thrown, .int m_thrownAt, m_values, m_meant, .ref ma_lanes, .ref ma_lengths, .ref ma_cells, .long m_state])), (ma_lanes, .inl (cI, 40, .inl mc_lanes)), (ma_lengths, .inl (cI, 40, .inl mc_lengths)), (ma_cells, .inl (cI, 480, .inl mc_cells))] s.heap := hP
  replace hD : va_D A [(mh, .inr (2, [.int m_hasRun, .int m_thrown, .int m_thrownAt, m_values, m_meant, .ref ma_lanes, .ref ma_lengths, .ref ma_cells, .long m_state])), (ma_lanes, .inl (cI, 40, .inl mc_lanes)), (ma_lengths, .inl (cI, 40, .inl mc_lengths)), (ma_cells, .inl (cI, 480, .inl mc_cells))] := hD
  have hl := lv_entry ([.ref mh, .int arra, .int la, .int ata, .int na]) (n := 6) (Nat.le_of_ble_eq_true rfl)
  rw [lg_entry_eq]
  generalize (lg_sl ([.ref mh, .int arra, .int la, .int ata, .int na]) ++ List.replicate (6 - (lg_sl ([.ref mh, .int arra, .int la, .int ata, .int na])).length) Slot.unset).toArray = ls at hl ⊢
  replace hl : lv_has ls 6 [(0, .ref mh), (1, .int arra), (2, .int la), (3, .int ata), (4, .int na)] := hl
  have z_0 : (0 : Int32).toInt = 0 := by decide
  have z_1 : (1 : Int32).toInt = 1 := by decide
  refine lv_aload_n hx hb dX2_doWrite_0 rfl (lv_at hl 0 rfl) ?_
  refine lv_iload_n hx hb dX2_doWrite_1 rfl (lv_at hl 1 rfl) ?_
  refine lv_iload_n hx hb dX2_doWrite_2 rfl (lv_at hl 2 rfl) ?_
  refine lv_iload_n hx hb dX2_doWrite_3 rfl (lv_at hl 3 rfl) ?_
  have hPc := hP.sub (ws' := [(mh, .inr (2, [.int m_hasRun, .int m_thrown, .int m_thrownAt, m_values, m_meant, .ref ma_lanes, .ref ma_lengths, .ref ma_cells, .long m_state])), (ma_lanes, .inl (cI, 40, .inl mc_lanes)), (ma_lengths, .inl (cI, 40, .inl mc_lengths))]) [0, 1, 2] rfl
  have hDc := hD.sub (ws' := [(mh, .inr (2, [.int m_hasRun, .int m_thrown, .int m_thrownAt, m_values, m_meant, .ref ma_lanes, .ref ma_lengths, .ref ma_cells, .long m_state])), (ma_lanes, .inl (cI, 40, .inl mc_lanes)), (ma_lengths, .inl (cI, 40, .inl mc_lengths))]) [0, 1, 2] (by decide) rfl
  have hFc := va_free (wc := [(mh, .inr (2, [.int m_hasRun, .int m_thrown, .int m_thrownAt, m_values, m_meant, .ref ma_lanes, .ref ma_lengths, .ref ma_cells, .long m_state])), (ma_lanes, .inl (cI, 40, .inl mc_lanes)), (ma_lengths, .inl (cI, 40, .inl mc_lengths))]) hD hS hA [0, 1, 2] rfl
  refine va_calli (va_runV (As := [.int arra, .int la, .int ata]) (rest := []) ⟨hx, hb, hml, hown, hts⟩ (s_X2_placeProblem l dC dI cI cJ cZ mh m_hasRun m_thrown m_thrownAt m_values m_meant ma_lanes ma_lengths (.ref ma_cells) m_state mc_lanes mc_lengths arra la ata s.heap.size q_m_hasRun h_mc_lengths (by first | assumption | omega)) (cwV 3 hts h_X2_doWrite_X2_placeProblem_130 rfl rfl rfl (by decide +kernel) ⟨Nat.le_of_ble_eq_true rfl, Nat.le_of_ble_eq_true rfl⟩) ⟨cPre_blind, va_recv hK hPc (ci := 2) (q0 := 0) rfl rfl, cPre_of hK hN hPc hDc⟩ rfl rfl hl.1 rfl (lv_room (Nat.le_of_ble_eq_true rfl)) dX2_doWrite_4 ⟨Nat.le_of_ble_eq_true rfl, Nat.le_of_ble_eq_true rfl⟩) hS (fun q _ h => hFc q h) hFc (fun r_1 u_1 t_1 H_1 locs_1 ht hvm hw_1 hB hz1 hk1 hS1 => ?_)
  obtain ⟨hP1, hK1, hD1⟩ := hB
  rw [ht] at hP1
  obtain ⟨hP2, hD2⟩ := va_join (wr := [(ma_cells, .inl (cI, 480, .inl mc_cells))]) (w1 := [(mh, .inr (2, [.int m_hasRun, .int m_thrown, .int m_thrownAt, m_values, m_meant, .ref ma_lanes, .ref ma_lengths, .ref ma_cells, .long m_state])), (ma_lanes, .inl (cI, 40, .inl mc_lanes)), (ma_lengths, .inl (cI, 40, .inl mc_lengths))]) hP hD [0, 1, 2] [3] rfl rfl (by decide) (by decide) hk1 hFc hP1 hD1
  clear hPc hDc hFc hP1 hD1 hK1 hk1 hz1 hvm ht
  replace hP : va_P (dC, dI) vwCl [(ma_cells, .inl (cI, 480, .inl mc_cells)), (mh, .inr (2, [.int m_hasRun, .int m_thrown, .int m_thrownAt, m_values, m_meant, .ref ma_lanes, .ref ma_lengths, .ref ma_cells, .long m_state])), (ma_lanes, .inl (cI, 40, .inl mc_lanes)), (ma_lengths, .inl (cI, 40, .inl mc_lengths))] H_1 := hP2
  replace hD : va_D A [(ma_cells, .inl (cI, 480, .inl mc_cells)), (mh, .inr (2, [.int m_hasRun, .int m_thrown, .int m_thrownAt, m_values, m_meant, .ref ma_lanes, .ref ma_lengths, .ref ma_cells, .long m_state])), (ma_lanes, .inl (cI, 40, .inl mc_lanes)), (ma_lengths, .inl (cI, 40, .inl mc_lengths))] := hD2
  replace hS := hS1
  clear hP2 hD2 hS1
  replace hw_1 : (r_1.toInt ≠ 0 ∨ (0 ≤ arra.toInt ∧ 0 ≤ ata.toInt ∧ ata.toInt ≤ 11)) := hw_1
  have q_r_1 := hw_1
  refine lv_istore (lv' := [(5, .int r_1), (0, .ref mh), (1, .int arra), (2, .int la), (3, .int ata), (4, .int na)]) hx hb dX2_doWrite_7 hl (by decide) rfl (fun ls1 hl1 => ?_)
  replace hl := hl1; clear hl1
  refine lv_iload hx hb dX2_doWrite_9 (lv_at hl 0 rfl) ?_
  refine lv_if_ne (tgt := 31) hx hb dX2_doWrite_11 (by decide) (fun c_2 => ?_) (fun c_2 => ?_)
  · -- yes
    have k_2 : ¬ r_1.toInt = (0 : Int32).toInt := ci_ne c_2
    refine lv_iload hx hb dX2_doWrite_31 (lv_at hl 0 rfl) ?_
    have hP9 := hP.sub (ws' := [(mh, .inr (2, [.int m_hasRun, .int m_thrown, .int m_thrownAt, m_values, m_meant, .ref ma_lanes, .ref ma_lengths, .ref ma_cells, .long m_state])), (ma_lanes, .inl (cI, 40, .inl mc_lanes)), (ma_lengths, .inl (cI, 40, .inl mc_lengths)), (ma_cells, .inl (cI, 480, .inl mc_cells))]) [1, 2, 3, 0] rfl
    have hD9 := hD.sub (ws' := [(mh, .inr (2, [.int m_hasRun, .int m_thrown, .int m_thrownAt, m_values, m_meant, .ref ma_lanes, .ref ma_lengths, .ref ma_cells, .long m_state])), (ma_lanes, .inl (cI, 40, .inl mc_lanes)), (ma_lengths, .inl (cI, 40, .inl mc_lengths)), (ma_cells, .inl (cI, 480, .inl mc_cells))]) [1, 2, 3, 0] (by decide) rfl
    exact W.iret (v := r_1) hx hb hr (fun t ht hW => ⟨⟨r_1, mc_cells, rfl, (show r_1.toInt ≠ 0 ∨ (0 ≤ arra.toInt ∧ 0 ≤ ata.toInt ∧ ata.toInt ≤ 11) from (by first | assumption | omega)), by rw [ht]; exact hP9, va_K.moved hW.alike hK, hD9⟩, hS.F ht⟩) hS.2.2 dX2_doWrite_33
  · -- no
    have k_2 : r_1.toInt = (0 : Int32).toInt := ci_eq c_2
    have m9 : 0 ≤ arra.toInt ∧ 0 ≤ ata.toInt ∧ ata.toInt ≤ 11 := by omega
    refine lv_aload_n hx hb dX2_doWrite_14 rfl (lv_at hl 1 rfl) ?_
    refine va_get (D := (dC, dI)) (ci := 2) (v := .ref ma_cells) (C := RX2) (T := TX2) (N := 9) hx hb hts inv_X2_doWrite_X2 hown hK hP 1 rfl rfl 7 (by decide) (hts (.fieldLink RX2 35 "ArraySegments$Machine" "cells" "[I") (List.mem_of_getElem? (i := 5) rfl)) (fun _ h9 => h9) rfl dX2_doWrite_15 ?_
    refine lv_iload_n hx hb dX2_doWrite_18 rfl (lv_at hl 2 rfl) ?_
    refine lv_bipush (v := 12) hx hb dX2_doWrite_19 (by decide) ?_
    refine sf_imul (w := arra.toInt) (z := 12) hx hb dX2_doWrite_21 rfl (by decide) ⟨by omega, by omega⟩ (fun v_3 q_v_3 => ?_)
    refine lv_iload_n hx hb dX2_doWrite_22 rfl (lv_at hl 4 rfl) ?_
    refine sf_iadd hx hb dX2_doWrite_23 ⟨by omega, by omega⟩ (fun v_4 q_v_4 => ?_)
    refine lv_iload_n hx hb dX2_doWrite_24 rfl (lv_at hl 3 rfl) ?_
    refine lv_iload hx hb dX2_doWrite_25 (lv_at hl 5 rfl) ?_
    refine vp_callSi (va_runS (As := [.int la, .int na]) (rest := [.int v_4, .ref ma_cells]) ⟨hx, hb, hml, hown, hts⟩ (s_X2_castTo l la na) (va_cwS 2 hts h_X2_doWrite_X2_castTo_133 rfl rfl rfl (by decide +kernel) ⟨Nat.le_of_ble_eq_true rfl, Nat.le_of_ble_eq_true rfl⟩) ⟨fun _ _ _ _ q => q, fun _ _ _ => ⟨rfl, trivial⟩⟩ rfl rfl hl.1 rfl (lv_room (Nat.le_of_ble_eq_true rfl)) dX2_doWrite_27 ⟨Nat.le_of_ble_eq_true rfl, Nat.le_of_ble_eq_true rfl⟩).run (fun r_5 hw_5 => ?_)
    refine sf_iast kT hx hb hK hP hD hS 0 0 rfl rfl (fun _ => trivial) trivial (vp_in_iff.mpr ⟨by omega, by omega⟩) dX2_doWrite_30 (fun f_6 h_f_6 e_f_6 H_7 locs_7 hP1 hD1 hS1 => ?_)
    replace hP : va_P (dC, dI) vwCl [(ma_cells, .inl (cI, 480, .inl f_6)), (mh, .inr (2, [.int m_hasRun, .int m_thrown, .int m_thrownAt, m_values, m_meant, .ref ma_lanes, .ref ma_lengths, .ref ma_cells, .long m_state])), (ma_lanes, .inl (cI, 40, .inl mc_lanes)), (ma_lengths, .inl (cI, 40, .inl mc_lengths))] H_7 := hP1
    replace hD : va_D A [(ma_cells, .inl (cI, 480, .inl f_6)), (mh, .inr (2, [.int m_hasRun, .int m_thrown, .int m_thrownAt, m_values, m_meant, .ref ma_lanes, .ref ma_lengths, .ref ma_cells, .long m_state])), (ma_lanes, .inl (cI, 40, .inl mc_lanes)), (ma_lengths, .inl (cI, 40, .inl mc_lengths))] := hD1
    replace hS := hS1
    clear hP1 hD1 hS1
    refine lv_iload hx hb dX2_doWrite_31 (lv_at hl 0 rfl) ?_
    have hP9 := hP.sub (ws' := [(mh, .inr (2, [.int m_hasRun, .int m_thrown, .int m_thrownAt, m_values, m_meant, .ref ma_lanes, .ref ma_lengths, .ref ma_cells, .long m_state])), (ma_lanes, .inl (cI, 40, .inl mc_lanes)), (ma_lengths, .inl (cI, 40, .inl mc_lengths)), (ma_cells, .inl (cI, 480, .inl f_6))]) [1, 2, 3, 0] rfl
    have hD9 := hD.sub (ws' := [(mh, .inr (2, [.int m_hasRun, .int m_thrown, .int m_thrownAt, m_values, m_meant, .ref ma_lanes, .ref ma_lengths, .ref ma_cells, .long m_state])), (ma_lanes, .inl (cI, 40, .inl mc_lanes)), (ma_lengths, .inl (cI, 40, .inl mc_lengths)), (ma_cells, .inl (cI, 480, .inl f_6))]) [1, 2, 3, 0] (by decide) rfl
    exact W.iret (v := r_1) hx hb hr (fun t ht hW => ⟨⟨r_1, f_6, rfl, (show r_1.toInt ≠ 0 ∨ (0 ≤ arra.toInt ∧ 0 ≤ ata.toInt ∧ ata.toInt ≤ 11) from (by first | assumption | omega)), by rw [ht]; exact hP9, va_K.moved hW.alike hK, hD9⟩, hS.F ht⟩) hS.2.2 dX2_doWrite_33

def v_X2_doRead : List Cond := .code yX2_doRead cX2_doRead 6 (some .int) :: ([.methodLink RX2 130 yX2_placeProblem, .instanceMethod yX2_placeProblem, .selects RX2 yX2_placeProblem yX2_placeProblem, .initialized RX2, .fieldLink RX2 22 "ArraySegments$Machine" "values" "[I", .fieldLink RX2 35 "ArraySegments$Machine" "cells" "[I"] ++ (wsX20 ++ (v_X2_placeProblem)))
theorem inv_X2_doRead_X2 : ∀ w ∈ wsX20, w ∈ v_X2_doRead := fun _ h => List.mem_cons_of_mem _ (List.mem_append_right _ (List.mem_append_left _ h))
theorem im_X2_doRead_X2_placeProblem : ∀ w ∈ v_X2_placeProblem, w ∈ v_X2_doRead := fun _ h => List.mem_cons_of_mem _ (List.mem_append_right _ (List.mem_append_right _ (h)))
set_option maxRecDepth 20000 in
theorem gd_X2_doRead : gdL v_X2_doRead := gdC (gdW (by decide +kernel)) (gdA (gdW (by decide +kernel)) (gdA gd_wsX20 gd_X2_placeProblem))
set_option maxRecDepth 20000 in
theorem h_X2_doRead_X2_placeProblem_130 : GoodIn v_X2_doRead (wsV RX2 130 RX2 yX2_placeProblem v_X2_placeProblem) := gdI [1, 2, 3, 4] rfl (by decide +kernel) (im_X2_doRead_X2_placeProblem) gd_X2_placeProblem
abbrev sw_X2_doRead (cI cJ cZ : ClassId) (mh : Nat) (m_hasRun : Int32) (m_thrown : Int32) (m_thrownAt : Int32) (ma_values : Nat) (m_meant : Value) (ma_lanes : Nat) (ma_lengths : Nat) (ma_cells : Nat) (m_state : Int64) (mc_values : Nat → Int32) (mc_lanes : Nat → Int32) (mc_lengths : Nat → Int32) (mc_cells : Nat → Int32) (xa : Int32) (arra : Int32) (la : Int32) (ata : Int32) : va_W := [(mh, .inr (2, [.int m_hasRun, .int m_thrown, .int m_thrownAt, .ref ma_values, m_meant, .ref ma_lanes, .ref ma_lengths, .ref ma_cells, .long m_state])), (ma_values, .inl (cI, 6, .inl mc_values)), (ma_lanes, .inl (cI, 40, .inl mc_lanes)), (ma_lengths, .inl (cI, 40, .inl mc_lengths)), (ma_cells, .inl (cI, 480, .inl mc_cells))]
set_option maxHeartbeats 8000000 in
set_option maxRecDepth 100000 in
theorem s_X2_doRead (l : Launch) (dC : Nat → ClassId) (dI : Nat → Nat → Nat) (cI cJ cZ : ClassId) (mh : Nat) (m_hasRun : Int32) (m_thrown : Int32) (m_thrownAt : Int32) (ma_values : Nat) (m_meant : Value) (ma_lanes : Nat) (ma_lengths : Nat) (ma_cells : Nat) (m_state : Int64) (mc_values : Nat → Int32) (mc_lanes : Nat → Int32) (mc_lengths : Nat → Int32) (mc_cells : Nat → Int32) (xa : Int32) (arra : Int32) (la : Int32) (ata : Int32) (sz : Nat) (q_m_hasRun : kZ m_hasRun) (h_mc_lengths : ∀ j : Nat, kR012 (mc_lengths j)) (hy_xa : V6 xa) (hy_arra : -1 ≤ arra.toInt ∧ arra.toInt ≤ 39) : Met l yX2_doRead v_X2_doRead ({ frames := 1, cells := 0, slots := 0, locals := 23 }) (va_Pc [.ref mh, .int xa, .int arra, .int la, .int ata] (cPre dC dI cI cJ cZ sz (sw_X2_doRead cI cJ cZ mh m_hasRun m_thrown m_thrownAt ma_values m_meant ma_lanes ma_lengths ma_cells m_state mc_values mc_lanes mc_lengths mc_cells xa arra la ata))) (va_Qi (fun (r : Int32) (u : (Nat → Int32)) => True) (fun (u : (Nat → Int32)) => cPost dC dI cI cJ cZ (va_A (sw_X2_doRead cI cJ cZ mh m_hasRun m_thrown m_thrownAt ma_values m_meant ma_lanes ma_lengths ma_cells m_state mc_values mc_lanes mc_lengths mc_cells xa arra la ata) sz) [(mh, .inr (2, [.int m_hasRun, .int m_thrown, .int m_thrownAt, .ref ma_values, m_meant, .ref ma_lanes, .ref ma_lengths, .ref ma_cells, .long m_state])), (ma_values, .inl (cI, 6, .inl (u))), (ma_lanes, .inl (cI, 40, .inl mc_lanes)), (ma_lengths, .inl (cI, 40, .inl mc_lengths)), (ma_cells, .inl (cI, 480, .inl mc_cells))]) (va_A (sw_X2_doRead cI cJ cZ mh m_hasRun m_thrown m_thrownAt ma_values m_meant ma_lanes ma_lengths ma_cells m_state mc_values mc_lanes mc_lengths mc_cells xa arra la ata) sz)) 0 0 (va_A (sw_X2_doRead cI cJ cZ mh m_hasRun m_thrown m_thrownAt ma_values m_meant ma_lanes ma_lengths ma_cells m_state mc_values mc_lanes mc_lengths mc_cells xa arra la ata) sz) := by
  refine Met.ofW (cc := cX2_doRead) (maxL := 6) (ret := (some .int)) (by decide) rfl ?_
  intro p e s m args below meth c s₁ B hml hv
  obtain ⟨rfl, hsz, hP, hK, hD0, hN⟩ := hv
  have hx := B.exec
  have hb := B.bytes
  have hr := B.returns
  have hts := atoms_spec (ws := v_X2_doRead) B.pre
  have hown : s.vm.findClass RX2 = some m.cls := findClass_of_methodNamed B.named
  have hlocks := B.notSynchronized
  subst hsz
  have hD := hD0.self (sz := s.heap.size)
  generalize hAe : va_A (sw_X2_doRead cI cJ cZ mh m_hasRun m_thrown m_thrownAt ma_values m_meant ma_lanes ma_lengths ma_cells m_state mc_values mc_lanes mc_lengths mc_cells xa arra la ata) s.heap.size = A at hD ⊢
  have hA : ∀ q : Nat, s.heap.size ≤ q → A q := fun q h => by rw [← hAe]; exact Or.inr h
  clear hAe hD0
  have hS : va_S A s.heap s.heap [] := va_S.rf
  replace hP : va_P (dC, dI) vwCl [(mh, .inr (2, [.int m_hasRun, .int m_thrown, .int m_thrownAt, .ref ma_values, m_meant, .ref ma_lanes, .ref ma_lengths, .ref ma_cells, .long m_state])), (ma_values, .inl (cI, 6, .inl mc_values)), (ma_lanes, .inl (cI, 40, .inl mc_lanes)), (ma_lengths, .inl (cI, 40, .inl mc_lengths)), (ma_cells, .inl (cI, 480, .inl mc_cells))] s.heap := hP
  replace hD : va_D A [(mh, .inr (2, [.int m_hasRun, .int m_thrown, .int m_thrownAt, .ref ma_values, m_meant, .ref ma_lanes, .ref ma_lengths, .ref ma_cells, .long m_state])), (ma_values, .inl (cI, 6, .inl mc_values)), (ma_lanes, .inl (cI, 40, .inl mc_lanes)), (ma_lengths, .inl (cI, 40, .inl mc_lengths)), (ma_cells, .inl (cI, 480, .inl mc_cells))] := hD
  have hl := lv_entry ([.ref mh, .int xa, .int arra, .int la, .int ata]) (n := 6) (Nat.le_of_ble_eq_true rfl)
  rw [lg_entry_eq]
  generalize (lg_sl ([.ref mh, .int xa, .int arra, .int la, .int ata]) ++ List.replicate (6 - (lg_sl ([.ref mh, .int xa, .int arra, .int la, .int ata])).length) Slot.unset).toArray = ls at hl ⊢
  replace hl : lv_has ls 6 [(0, .ref mh), (1, .int xa), (2, .int arra), (3, .int la), (4, .int ata)] := hl
  have z_0 : (0 : Int32).toInt = 0 := by decide
  have z_1 : (1 : Int32).toInt = 1 := by decide
  refine lv_aload_n hx hb dX2_doRead_0 rfl (lv_at hl 0 rfl) ?_
  refine lv_iload_n hx hb dX2_doRead_1 rfl (lv_at hl 2 rfl) ?_
  refine lv_iload_n hx hb dX2_doRead_2 rfl (lv_at hl 3 rfl) ?_
  refine lv_iload hx hb dX2_doRead_3 (lv_at hl 4 rfl) ?_
  have hPc := hP.sub (ws' := [(mh, .inr (2, [.int m_hasRun, .int m_thrown, .int m_thrownAt, .ref ma_values, m_meant, .ref ma_lanes, .ref ma_lengths, .ref ma_cells, .long m_state])), (ma_lanes, .inl (cI, 40, .inl mc_lanes)), (ma_lengths, .inl (cI, 40, .inl mc_lengths))]) [0, 2, 3] rfl
  have hDc := hD.sub (ws' := [(mh, .inr (2, [.int m_hasRun, .int m_thrown, .int m_thrownAt, .ref ma_values, m_meant, .ref ma_lanes, .ref ma_lengths, .ref ma_cells, .long m_state])), (ma_lanes, .inl (cI, 40, .inl mc_lanes)), (ma_lengths, .inl (cI, 40, .inl mc_lengths))]) [0, 2, 3] (by decide) rfl
  have hFc := va_free (wc := [(mh, .inr (2, [.int m_hasRun, .int m_thrown, .int m_thrownAt, .ref ma_values, m_meant, .ref ma_lanes, .ref ma_lengths, .ref ma_cells, .long m_state])), (ma_lanes, .inl (cI, 40, .inl mc_lanes)), (ma_lengths, .inl (cI, 40, .inl mc_lengths))]) hD hS hA [0, 2, 3] rfl
  refine va_calli (va_runV (As := [.int arra, .int la, .int ata]) (rest := []) ⟨hx, hb, hml, hown, hts⟩ (s_X2_placeProblem l dC dI cI cJ cZ mh m_hasRun m_thrown m_thrownAt (.ref ma_values) m_meant ma_lanes ma_lengths (.ref ma_cells) m_state mc_lanes mc_lengths arra la ata s.heap.size q_m_hasRun h_mc_lengths (by first | assumption | omega)) (cwV 3 hts h_X2_doRead_X2_placeProblem_130 rfl rfl rfl (by decide +kernel) ⟨Nat.le_of_ble_eq_true rfl, Nat.le_of_ble_eq_true rfl⟩) ⟨cPre_blind, va_recv hK hPc (ci := 2) (q0 := 0) rfl rfl, cPre_of hK hN hPc hDc⟩ rfl rfl hl.1 rfl (lv_room (Nat.le_of_ble_eq_true rfl)) dX2_doRead_5 ⟨Nat.le_of_ble_eq_true rfl, Nat.le_of_ble_eq_true rfl⟩) hS (fun q _ h => hFc q h) hFc (fun r_1 u_1 t_1 H_1 locs_1 ht hvm hw_1 hB hz1 hk1 hS1 => ?_)
  obtain ⟨hP1, hK1, hD1⟩ := hB
  rw [ht] at hP1
  obtain ⟨hP2, hD2⟩ := va_join (wr := [(ma_values, .inl (cI, 6, .inl mc_values)), (ma_cells, .inl (cI, 480, .inl mc_cells))]) (w1 := [(mh, .inr (2, [.int m_hasRun, .int m_thrown, .int m_thrownAt, .ref ma_values, m_meant, .ref ma_lanes, .ref ma_lengths, .ref ma_cells, .long m_state])), (ma_lanes, .inl (cI, 40, .inl mc_lanes)), (ma_lengths, .inl (cI, 40, .inl mc_lengths))]) hP hD [0, 2, 3] [1, 4] rfl rfl (by decide) (by decide) hk1 hFc hP1 hD1
  clear hPc hDc hFc hP1 hD1 hK1 hk1 hz1 hvm ht
  replace hP : va_P (dC, dI) vwCl [(ma_values, .inl (cI, 6, .inl mc_values)), (ma_cells, .inl (cI, 480, .inl mc_cells)), (mh, .inr (2, [.int m_hasRun, .int m_thrown, .int m_thrownAt, .ref ma_values, m_meant, .ref ma_lanes, .ref ma_lengths, .ref ma_cells, .long m_state])), (ma_lanes, .inl (cI, 40, .inl mc_lanes)), (ma_lengths, .inl (cI, 40, .inl mc_lengths))] H_1 := hP2
  replace hD : va_D A [(ma_values, .inl (cI, 6, .inl mc_values)), (ma_cells, .inl (cI, 480, .inl mc_cells)), (mh, .inr (2, [.int m_hasRun, .int m_thrown, .int m_thrownAt, .ref ma_values, m_meant, .ref ma_lanes, .ref ma_lengths, .ref ma_cells, .long m_state])), (ma_lanes, .inl (cI, 40, .inl mc_lanes)), (ma_lengths, .inl (cI, 40, .inl mc_lengths))] := hD2
  replace hS := hS1
  clear hP2 hD2 hS1
  replace hw_1 : (r_1.toInt ≠ 0 ∨ (0 ≤ arra.toInt ∧ 0 ≤ ata.toInt ∧ ata.toInt ≤ 11)) := hw_1
  have q_r_1 := hw_1
  refine lv_istore (lv' := [(5, .int r_1), (0, .ref mh), (1, .int xa), (2, .int arra), (3, .int la), (4, .int ata)]) hx hb dX2_doRead_8 hl (by decide) rfl (fun ls1 hl1 => ?_)
  replace hl := hl1; clear hl1
  refine lv_iload hx hb dX2_doRead_10 (lv_at hl 0 rfl) ?_
  refine my_join (S := (Nat → Int32)) (fun u => True) (fun u => [(ma_values, .inl (cI, 6, .inl (u))), (ma_cells, .inl (cI, 480, .inl mc_cells)), (mh, .inr (2, [.int m_hasRun, .int m_thrown, .int m_thrownAt, .ref ma_values, m_meant, .ref ma_lanes, .ref ma_lengths, .ref ma_cells, .long m_state])), (ma_lanes, .inl (cI, 40, .inl mc_lanes)), (ma_lengths, .inl (cI, 40, .inl mc_lengths))]) (fun u => [(5, .int r_1), (0, .ref mh), (1, .int xa), (2, .int arra), (3, .int la), (4, .int ata)]) (fun u => []) (nL := 6) (H0 := s.heap) (A := A) (D := (dC, dI)) (cl := vwCl) 33 (fun u_3 hu_3 H_3 locs_3 ls1 hP1 hD1 hS1 hl1 => ?_) (fun jn_3 => ?_)
  · -- behind 33
    obtain ⟨f_4, rfl⟩ : ∃ z, z = u_3 := ⟨_, rfl⟩
    replace hP : va_P (dC, dI) vwCl [(ma_values, .inl (cI, 6, .inl f_4)), (ma_cells, .inl (cI, 480, .inl mc_cells)), (mh, .inr (2, [.int m_hasRun, .int m_thrown, .int m_thrownAt, .ref ma_values, m_meant, .ref ma_lanes, .ref ma_lengths, .ref ma_cells, .long m_state])), (ma_lanes, .inl (cI, 40, .inl mc_lanes)), (ma_lengths, .inl (cI, 40, .inl mc_lengths))] H_3 := hP1
    replace hD : va_D A [(ma_values, .inl (cI, 6, .inl f_4)), (ma_cells, .inl (cI, 480, .inl mc_cells)), (mh, .inr (2, [.int m_hasRun, .int m_thrown, .int m_thrownAt, .ref ma_values, m_meant, .ref ma_lanes, .ref ma_lengths, .ref ma_cells, .long m_state])), (ma_lanes, .inl (cI, 40, .inl mc_lanes)), (ma_lengths, .inl (cI, 40, .inl mc_lengths))] := hD1
    replace hS := hS1
    clear hP1 hD1 hS1
    replace hl : lv_has ls1 6 [(5, .int r_1), (0, .ref mh), (1, .int xa), (2, .int arra), (3, .int la), (4, .int ata)] := hl1
    clear hl1
    refine lv_iload hx hb dX2_doRead_33 (lv_at hl 0 rfl) ?_
    have hP9 := hP.sub (ws' := [(mh, .inr (2, [.int m_hasRun, .int m_thrown, .int m_thrownAt, .ref ma_values, m_meant, .ref ma_lanes, .ref ma_lengths, .ref ma_cells, .long m_state])), (ma_values, .inl (cI, 6, .inl f_4)), (ma_lanes, .inl (cI, 40, .inl mc_lanes)), (ma_lengths, .inl (cI, 40, .inl mc_lengths)), (ma_cells, .inl (cI, 480, .inl mc_cells))]) [2, 0, 3, 4, 1] rfl
    have hD9 := hD.sub (ws' := [(mh, .inr (2, [.int m_hasRun, .int m_thrown, .int m_thrownAt, .ref ma_values, m_meant, .ref ma_lanes, .ref ma_lengths, .ref ma_cells, .long m_state])), (ma_values, .inl (cI, 6, .inl f_4)), (ma_lanes, .inl (cI, 40, .inl mc_lanes)), (ma_lengths, .inl (cI, 40, .inl mc_lengths)), (ma_cells, .inl (cI, 480, .inl mc_cells))]) [2, 0, 3, 4, 1] (by decide) rfl
    exact W.iret (v := r_1) hx hb hr (fun t ht hW => ⟨⟨r_1, f_4, rfl, trivial, by rw [ht]; exact hP9, va_K.moved hW.alike hK, hD9⟩, hS.F ht⟩) hS.2.2 dX2_doRead_35
  · -- ahead of 33
    refine lv_if_ne (tgt := 33) hx hb dX2_doRead_12 (by decide) (fun c_5 => ?_) (fun c_5 => ?_)
    · -- yes
      have k_5 : ¬ r_1.toInt = (0 : Int32).toInt := ci_ne c_5
      exact jn_3 mc_values (show True from trivial) _ _ _ (hP.sub [0, 1, 2, 3, 4] rfl) (hD.sub [0, 1, 2, 3, 4] (by decide) rfl) hS (lv_sub hl [0, 1, 2, 3, 4, 5] rfl)
    · -- no
      have k_5 : r_1.toInt = (0 : Int32).toInt := ci_eq c_5
      have m9 : 0 ≤ arra.toInt ∧ 0 ≤ ata.toInt ∧ ata.toInt ≤ 11 := by omega
      refine lv_aload_n hx hb dX2_doRead_15 rfl (lv_at hl 1 rfl) ?_
      refine va_get (D := (dC, dI)) (ci := 2) (v := .ref ma_values) (C := RX2) (T := TX2) (N := 9) hx hb hts inv_X2_doRead_X2 hown hK hP 2 rfl rfl 3 (by decide) (hts (.fieldLink RX2 22 "ArraySegments$Machine" "values" "[I") (List.mem_of_getElem? (i := 5) rfl)) (fun _ h9 => h9) rfl dX2_doRead_16 ?_
      refine lv_iload_n hx hb dX2_doRead_19 rfl (lv_at hl 2 rfl) ?_
      refine lv_aload_n hx hb dX2_doRead_20 rfl (lv_at hl 1 rfl) ?_
      refine va_get (D := (dC, dI)) (ci := 2) (v := .ref ma_cells) (C := RX2) (T := TX2) (N := 9) hx hb hts inv_X2_doRead_X2 hown hK hP 2 rfl rfl 7 (by decide) (hts (.fieldLink RX2 35 "ArraySegments$Machine" "cells" "[I") (List.mem_of_getElem? (i := 6) rfl)) (fun _ h9 => h9) rfl dX2_doRead_21 ?_
      refine lv_iload_n hx hb dX2_doRead_24 rfl (lv_at hl 3 rfl) ?_
      refine lv_bipush (v := 12) hx hb dX2_doRead_25 (by decide) ?_
      refine sf_imul (w := arra.toInt) (z := 12) hx hb dX2_doRead_27 rfl (by decide) ⟨by omega, by omega⟩ (fun v_6 q_v_6 => ?_)
      refine lv_iload hx hb dX2_doRead_28 (lv_at hl 5 rfl) ?_
      refine sf_iadd hx hb dX2_doRead_30 ⟨by omega, by omega⟩ (fun v_7 q_v_7 => ?_)
      refine sf_iald kT hx hb hK hP 1 0 rfl rfl (fun _ => trivial) (vp_in_iff.mpr ⟨by omega, by omega⟩) dX2_doRead_31 (fun v_8 q_v_8 e_v_8 => ?_)
      refine sf_iast kT hx hb hK hP hD hS 0 0 rfl rfl (fun _ => trivial) trivial (vp_in_iff.mpr ⟨by omega, by omega⟩) dX2_doRead_32 (fun f_9 h_f_9 e_f_9 H_10 locs_10 hP1 hD1 hS1 => ?_)
      replace hP : va_P (dC, dI) vwCl [(ma_values, .inl (cI, 6, .inl f_9)), (ma_cells, .inl (cI, 480, .inl mc_cells)), (mh, .inr (2, [.int m_hasRun, .int m_thrown, .int m_thrownAt, .ref ma_values, m_meant, .ref ma_lanes, .ref ma_lengths, .ref ma_cells, .long m_state])), (ma_lanes, .inl (cI, 40, .inl mc_lanes)), (ma_lengths, .inl (cI, 40, .inl mc_lengths))] H_10 := hP1
      replace hD : va_D A [(ma_values, .inl (cI, 6, .inl f_9)), (ma_cells, .inl (cI, 480, .inl mc_cells)), (mh, .inr (2, [.int m_hasRun, .int m_thrown, .int m_thrownAt, .ref ma_values, m_meant, .ref ma_lanes, .ref ma_lengths, .ref ma_cells, .long m_state])), (ma_lanes, .inl (cI, 40, .inl mc_lanes)), (ma_lengths, .inl (cI, 40, .inl mc_lengths))] := hD1
      replace hS := hS1
      clear hP1 hD1 hS1
      exact jn_3 f_9 (show True from trivial) _ _ _ (hP.sub [0, 1, 2, 3, 4] rfl) (hD.sub [0, 1, 2, 3, 4] (by decide) rfl) hS (lv_sub hl [0, 1, 2, 3, 4, 5] rfl)

def v_X2_doNew : List Cond := .code yX2_doNew cX2_doNew 6 (some .int) :: ([.fieldLink RX2 29 "ArraySegments$Machine" "lanes" "[I", .fieldLink RX2 32 "ArraySegments$Machine" "lengths" "[I", .fieldLink RX2 35 "ArraySegments$Machine" "cells" "[I", .fieldLink RX2 26 "ArraySegments$Machine" "meant" "[I"] ++ (wsX20))
theorem inv_X2_doNew_X2 : ∀ w ∈ wsX20, w ∈ v_X2_doNew := fun _ h => List.mem_cons_of_mem _ (List.mem_append_right _ (h))
set_option maxRecDepth 20000 in
theorem gd_X2_doNew : gdL v_X2_doNew := gdC (gdW (by decide +kernel)) (gdA (gdW (by decide +kernel)) gd_wsX20)
abbrev sw_X2_doNew (cI cJ cZ : ClassId) (mh : Nat) (m_hasRun : Int32) (m_thrown : Int32) (m_thrownAt : Int32) (m_values : Value) (ma_meant : Nat) (ma_lanes : Nat) (ma_lengths : Nat) (ma_cells : Nat) (m_state : Int64) (mc_meant : Nat → Int32) (mc_lanes : Nat → Int32) (mc_lengths : Nat → Int32) (mc_cells : Nat → Int32) (ia : Int32) (ra : Int32) (la : Int32) (na : Int32) : va_W := [(mh, .inr (2, [.int m_hasRun, .int m_thrown, .int m_thrownAt, m_values, .ref ma_meant, .ref ma_lanes, .ref ma_lengths, .ref ma_cells, .long m_state])), (ma_meant, .inl (cI, 6, .inl mc_meant)), (ma_lanes, .inl (cI, 40, .inl mc_lanes)), (ma_lengths, .inl (cI, 40, .inl mc_lengths)), (ma_cells, .inl (cI, 480, .inl mc_cells))]
set_option maxHeartbeats 8000000 in
set_option maxRecDepth 100000 in
theorem s_X2_doNew (l : Launch) (dC : Nat → ClassId) (dI : Nat → Nat → Nat) (cI cJ cZ : ClassId) (mh : Nat) (m_hasRun : Int32) (m_thrown : Int32) (m_thrownAt : Int32) (m_values : Value) (ma_meant : Nat) (ma_lanes : Nat) (ma_lengths : Nat) (ma_cells : Nat) (m_state : Int64) (mc_meant : Nat → Int32) (mc_lanes : Nat → Int32) (mc_lengths : Nat → Int32) (mc_cells : Nat → Int32) (ia : Int32) (ra : Int32) (la : Int32) (na : Int32) (sz : Nat) (q_m_hasRun : kZ m_hasRun) (h_mc_meant : ∀ j : Nat, kSITE (mc_meant j)) (h_mc_lengths : ∀ j : Nat, kR012 (mc_lengths j)) (hy_ia : 0 ≤ ia.toInt ∧ ia.toInt ≤ 39) (hy_ra : V6 ra) : Met l yX2_doNew v_X2_doNew ({ frames := 0, cells := 0, slots := 0, locals := 0 }) (va_Pc [.ref mh, .int ia, .int ra, .int la, .int na] (cPre dC dI cI cJ cZ sz (sw_X2_doNew cI cJ cZ mh m_hasRun m_thrown m_thrownAt m_values ma_meant ma_lanes ma_lengths ma_cells m_state mc_meant mc_lanes mc_lengths mc_cells ia ra la na))) (va_Qi (fun (r : Int32) (u : (Nat → Int32) × (Nat → Int32) × (Nat → Int32) × (Nat → Int32)) => (∀ j : Nat, kSITE ((u.1) j)) ∧ (∀ j : Nat, kR012 ((u.2.2.1) j))) (fun (u : (Nat → Int32) × (Nat → Int32) × (Nat → Int32) × (Nat → Int32)) => cPost dC dI cI cJ cZ (va_A (sw_X2_doNew cI cJ cZ mh m_hasRun m_thrown m_thrownAt m_values ma_meant ma_lanes ma_lengths ma_cells m_state mc_meant mc_lanes mc_lengths mc_cells ia ra la na) sz) [(mh, .inr (2, [.int m_hasRun, .int m_thrown, .int m_thrownAt, m_values, .ref ma_meant, .ref ma_lanes, .ref ma_lengths, .ref ma_cells, .long m_state])), (ma_meant, .inl (cI, 6, .inl (u.1))), (ma_lanes, .inl (cI, 40, .inl (u.2.1))), (ma_lengths, .inl (cI, 40, .inl (u.2.2.1))), (ma_cells, .inl (cI, 480, .inl (u.2.2.2)))]) (va_A (sw_X2_doNew cI cJ cZ mh m_hasRun m_thrown m_thrownAt m_values ma_meant ma_lanes ma_lengths ma_cells m_state mc_meant mc_lanes mc_lengths mc_cells ia ra la na) sz)) 0 0 (va_A (sw_X2_doNew cI cJ cZ mh m_hasRun m_thrown m_thrownAt m_values ma_meant ma_lanes ma_lengths ma_cells m_state mc_meant mc_lanes mc_lengths mc_cells ia ra la na) sz) := by
  refine Met.ofW (cc := cX2_doNew) (maxL := 6) (ret := (some .int)) (by decide) rfl ?_
  intro p e s m args below meth c s₁ B hml hv
  obtain ⟨rfl, hsz, hP, hK, hD0, hN⟩ := hv
  have hx := B.exec
  have hb := B.bytes
  have hr := B.returns
  have hts := atoms_spec (ws := v_X2_doNew) B.pre
  have hown : s.vm.findClass RX2 = some m.cls := findClass_of_methodNamed B.named
  have hlocks := B.notSynchronized
  subst hsz
  have hD := hD0.self (sz := s.heap.size)
  generalize hAe : va_A (sw_X2_doNew cI cJ cZ mh m_hasRun m_thrown m_thrownAt m_values ma_meant ma_lanes ma_lengths ma_cells m_state mc_meant mc_lanes mc_lengths mc_cells ia ra la na) s.heap.size = A at hD ⊢
  have hA : ∀ q : Nat, s.heap.size ≤ q → A q := fun q h => by rw [← hAe]; exact Or.inr h
  clear hAe hD0
  have hS : va_S A s.heap s.heap [] := va_S.rf
  replace hP : va_P (dC, dI) vwCl [(mh, .inr (2, [.int m_hasRun, .int m_thrown, .int m_thrownAt, m_values, .ref ma_meant, .ref ma_lanes, .ref ma_lengths, .ref ma_cells, .long m_state])), (ma_meant, .inl (cI, 6, .inl mc_meant)), (ma_lanes, .inl (cI, 40, .inl mc_lanes)), (ma_lengths, .inl (cI, 40, .inl mc_lengths)), (ma_cells, .inl (cI, 480, .inl mc_cells))] s.heap := hP
  replace hD : va_D A [(mh, .inr (2, [.int m_hasRun, .int m_thrown, .int m_thrownAt, m_values, .ref ma_meant, .ref ma_lanes, .ref ma_lengths, .ref ma_cells, .long m_state])), (ma_meant, .inl (cI, 6, .inl mc_meant)), (ma_lanes, .inl (cI, 40, .inl mc_lanes)), (ma_lengths, .inl (cI, 40, .inl mc_lengths)), (ma_cells, .inl (cI, 480, .inl mc_cells))] := hD
  have hl := lv_entry ([.ref mh, .int ia, .int ra, .int la, .int na]) (n := 6) (Nat.le_of_ble_eq_true rfl)
  rw [lg_entry_eq]
  generalize (lg_sl ([.ref mh, .int ia, .int ra, .int la, .int na]) ++ List.replicate (6 - (lg_sl ([.ref mh, .int ia, .int ra, .int la, .int na])).length) Slot.unset).toArray = ls at hl ⊢
  replace hl : lv_has ls 6 [(0, .ref mh), (1, .int ia), (2, .int ra), (3, .int la), (4, .int na)] := hl
  have z_0 : (0 : Int32).toInt = 0 := by decide
  have z_1 : (1 : Int32).toInt = 1 := by decide
  have z_3 : (3 : Int32).toInt = 3 := by decide
  have z_7 : (7 : Int32).toInt = 7 := by decide
  have z_12 : (12 : Int32).toInt = 12 := by decide
  refine lv_iload hx hb dX2_doNew_0 (lv_at hl 4 rfl) ?_
  refine lv_if_ge (tgt := 7) hx hb dX2_doNew_2 (by decide) (fun c_1 => ?_) (fun c_1 => ?_)
  · -- yes
    have k_1 : (0 : Int32).toInt ≤ na.toInt := ci_ge c_1
    refine lv_iload hx hb dX2_doNew_7 (lv_at hl 4 rfl) ?_
    refine lv_bipush (v := 12) hx hb dX2_doNew_9 (by decide) ?_
    refine lv_icmp_le (tgt := 17) hx hb dX2_doNew_11 (by decide) (fun c_2 => ?_) (fun c_2 => ?_)
    · -- yes
      have k_2 : na.toInt ≤ (12 : Int32).toInt := ci_le c_2
      refine lv_aload_n hx hb dX2_doNew_17 rfl (lv_at hl 0 rfl) ?_
      refine va_get (D := (dC, dI)) (ci := 2) (v := .ref ma_lanes) (C := RX2) (T := TX2) (N := 9) hx hb hts inv_X2_doNew_X2 hown hK hP 0 rfl rfl 5 (by decide) (hts (.fieldLink RX2 29 "ArraySegments$Machine" "lanes" "[I") (List.mem_of_getElem? (i := 1) rfl)) (fun _ h9 => h9) rfl dX2_doNew_18 ?_
      refine lv_iload_n hx hb dX2_doNew_21 rfl (lv_at hl 1 rfl) ?_
      refine lv_iload_n hx hb dX2_doNew_22 rfl (lv_at hl 3 rfl) ?_
      refine sf_iast kT hx hb hK hP hD hS 2 0 rfl rfl (fun _ => trivial) trivial (vp_in_iff.mpr ⟨by omega, by omega⟩) dX2_doNew_23 (fun f_3 h_f_3 e_f_3 H_4 locs_4 hP1 hD1 hS1 => ?_)
      replace hP : va_P (dC, dI) vwCl [(mh, .inr (2, [.int m_hasRun, .int m_thrown, .int m_thrownAt, m_values, .ref ma_meant, .ref ma_lanes, .ref ma_lengths, .ref ma_cells, .long m_state])), (ma_meant, .inl (cI, 6, .inl mc_meant)), (ma_lanes, .inl (cI, 40, .inl f_3)), (ma_lengths, .inl (cI, 40, .inl mc_lengths)), (ma_cells, .inl (cI, 480, .inl mc_cells))] H_4 := hP1
      replace hD : va_D A [(mh, .inr (2, [.int m_hasRun, .int m_thrown, .int m_thrownAt, m_values, .ref ma_meant, .ref ma_lanes, .ref ma_lengths, .ref ma_cells, .long m_state])), (ma_meant, .inl (cI, 6, .inl mc_meant)), (ma_lanes, .inl (cI, 40, .inl f_3)), (ma_lengths, .inl (cI, 40, .inl mc_lengths)), (ma_cells, .inl (cI, 480, .inl mc_cells))] := hD1
      replace hS := hS1
      clear hP1 hD1 hS1
      refine lv_aload_n hx hb dX2_doNew_24 rfl (lv_at hl 0 rfl) ?_
      refine va_get (D := (dC, dI)) (ci := 2) (v := .ref ma_lengths) (C := RX2) (T := TX2) (N := 9) hx hb hts inv_X2_doNew_X2 hown hK hP 0 rfl rfl 6 (by decide) (hts (.fieldLink RX2 32 "ArraySegments$Machine" "lengths" "[I") (List.mem_of_getElem? (i := 2) rfl)) (fun _ h9 => h9) rfl dX2_doNew_25 ?_
      refine lv_iload_n hx hb dX2_doNew_28 rfl (lv_at hl 1 rfl) ?_
      refine lv_iload hx hb dX2_doNew_29 (lv_at hl 4 rfl) ?_
      refine sf_iast kR012 hx hb hK hP hD hS 3 0 rfl rfl h_mc_lengths (show kR012 na from by omega) (vp_in_iff.mpr ⟨by omega, by omega⟩) dX2_doNew_31 (fun f_5 h_f_5 e_f_5 H_6 locs_6 hP1 hD1 hS1 => ?_)
      replace hP : va_P (dC, dI) vwCl [(mh, .inr (2, [.int m_hasRun, .int m_thrown, .int m_thrownAt, m_values, .ref ma_meant, .ref ma_lanes, .ref ma_lengths, .ref ma_cells, .long m_state])), (ma_meant, .inl (cI, 6, .inl mc_meant)), (ma_lanes, .inl (cI, 40, .inl f_3)), (ma_lengths, .inl (cI, 40, .inl f_5)), (ma_cells, .inl (cI, 480, .inl mc_cells))] H_6 := hP1
      replace hD : va_D A [(mh, .inr (2, [.int m_hasRun, .int m_thrown, .int m_thrownAt, m_values, .ref ma_meant, .ref ma_lanes, .ref ma_lengths, .ref ma_cells, .long m_state])), (ma_meant, .inl (cI, 6, .inl mc_meant)), (ma_lanes, .inl (cI, 40, .inl f_3)), (ma_lengths, .inl (cI, 40, .inl f_5)), (ma_cells, .inl (cI, 480, .inl mc_cells))] := hD1
      replace hS := hS1
      clear hP1 hD1 hS1
      refine lv_iconst (v := 0) hx hb dX2_doNew_32 (by decide) ?_
      refine lv_istore (lv' := [(5, .int 0), (0, .ref mh), (1, .int ia), (2, .int ra), (3, .int la), (4, .int na)]) hx hb dX2_doNew_33 hl (by decide) rfl (fun ls1 hl1 => ?_)
      replace hl := hl1; clear hl1
      refine my_wloop (S := Int32 × (Nat → Int32)) (fun u => (0 ≤ (u.1).toInt ∧ (u.1).toInt ≤ 12)) (fun u => (12 - (u.1).toInt).toNat) (fun u => [(mh, .inr (2, [.int m_hasRun, .int m_thrown, .int m_thrownAt, m_values, .ref ma_meant, .ref ma_lanes, .ref ma_lengths, .ref ma_cells, .long m_state])), (ma_meant, .inl (cI, 6, .inl mc_meant)), (ma_lanes, .inl (cI, 40, .inl f_3)), (ma_lengths, .inl (cI, 40, .inl f_5)), (ma_cells, .inl (cI, 480, .inl (u.2)))]) (fun u => [(5, .int (u.1)), (0, .ref mh), (1, .int ia), (2, .int ra), (3, .int la), (4, .int na)]) (H0 := s.heap) (A := A) (D := (dC, dI)) (cl := vwCl) ((0 : Int32), mc_cells) (show (0 ≤ (0 : Int32).toInt ∧ (0 : Int32).toInt ≤ 12) from ⟨by omega, by omega⟩) (by exact hP) (by exact hD) hS (by exact hl) (fun u_7 hu_7 ih_7 H_7 locs_7 ls1 hP1 hD1 hS1 hl1 => ?_)
      obtain ⟨v_8, f_9⟩ := u_7
      replace hu_7 : (0 ≤ v_8.toInt ∧ v_8.toInt ≤ 12) := hu_7
      have q_v_8 := hu_7
      replace hP : va_P (dC, dI) vwCl [(mh, .inr (2, [.int m_hasRun, .int m_thrown, .int m_thrownAt, m_values, .ref ma_meant, .ref ma_lanes, .ref ma_lengths, .ref ma_cells, .long m_state])), (ma_meant, .inl (cI, 6, .inl mc_meant)), (ma_lanes, .inl (cI, 40, .inl f_3)), (ma_lengths, .inl (cI, 40, .inl f_5)), (ma_cells, .inl (cI, 480, .inl f_9))] H_7 := hP1
      replace hD : va_D A [(mh, .inr (2, [.int m_hasRun, .int m_thrown, .int m_thrownAt, m_values, .ref ma_meant, .ref ma_lanes, .ref ma_lengths, .ref ma_cells, .long m_state])), (ma_meant, .inl (cI, 6, .inl mc_meant)), (ma_lanes, .inl (cI, 40, .inl f_3)), (ma_lengths, .inl (cI, 40, .inl f_5)), (ma_cells, .inl (cI, 480, .inl f_9))] := hD1
      replace hS := hS1
      clear hP1 hD1 hS1
      replace hl : lv_has ls1 6 [(5, .int v_8), (0, .ref mh), (1, .int ia), (2, .int ra), (3, .int la), (4, .int na)] := hl1
      clear hl1
      refine lv_iload hx hb dX2_doNew_35 (lv_at hl 0 rfl) ?_
      refine lv_bipush (v := 12) hx hb dX2_doNew_37 (by decide) ?_
      refine lv_icmp_ge (tgt := 61) hx hb dX2_doNew_39 (by decide) (fun c_10 => ?_) (fun c_10 => ?_)
      · -- yes
        have k_10 : (12 : Int32).toInt ≤ v_8.toInt := ci_ge c_10
        refine lv_aload_n hx hb dX2_doNew_61 rfl (lv_at hl 1 rfl) ?_
        refine va_get (D := (dC, dI)) (ci := 2) (v := .ref ma_meant) (C := RX2) (T := TX2) (N := 9) hx hb hts inv_X2_doNew_X2 hown hK hP 0 rfl rfl 4 (by decide) (hts (.fieldLink RX2 26 "ArraySegments$Machine" "meant" "[I") (List.mem_of_getElem? (i := 4) rfl)) (fun _ h9 => h9) rfl dX2_doNew_62 ?_
        refine lv_iload_n hx hb dX2_doNew_65 rfl (lv_at hl 3 rfl) ?_
        refine lv_iload_n hx hb dX2_doNew_66 rfl (lv_at hl 2 rfl) ?_
        refine sf_iast kSITE hx hb hK hP hD hS 1 0 rfl rfl h_mc_meant (show kSITE ia from by omega) (vp_in_iff.mpr ⟨by omega, by omega⟩) dX2_doNew_67 (fun f_11 h_f_11 e_f_11 H_12 locs_12 hP1 hD1 hS1 => ?_)
        replace hP : va_P (dC, dI) vwCl [(mh, .inr (2, [.int m_hasRun, .int m_thrown, .int m_thrownAt, m_values, .ref ma_meant, .ref ma_lanes, .ref ma_lengths, .ref ma_cells, .long m_state])), (ma_meant, .inl (cI, 6, .inl f_11)), (ma_lanes, .inl (cI, 40, .inl f_3)), (ma_lengths, .inl (cI, 40, .inl f_5)), (ma_cells, .inl (cI, 480, .inl f_9))] H_12 := hP1
        replace hD : va_D A [(mh, .inr (2, [.int m_hasRun, .int m_thrown, .int m_thrownAt, m_values, .ref ma_meant, .ref ma_lanes, .ref ma_lengths, .ref ma_cells, .long m_state])), (ma_meant, .inl (cI, 6, .inl f_11)), (ma_lanes, .inl (cI, 40, .inl f_3)), (ma_lengths, .inl (cI, 40, .inl f_5)), (ma_cells, .inl (cI, 480, .inl f_9))] := hD1
        replace hS := hS1
        clear hP1 hD1 hS1
        refine lv_iconst (v := 0) hx hb dX2_doNew_68 (by decide) ?_
        have hP9 := hP.sub (ws' := [(mh, .inr (2, [.int m_hasRun, .int m_thrown, .int m_thrownAt, m_values, .ref ma_meant, .ref ma_lanes, .ref ma_lengths, .ref ma_cells, .long m_state])), (ma_meant, .inl (cI, 6, .inl f_11)), (ma_lanes, .inl (cI, 40, .inl f_3)), (ma_lengths, .inl (cI, 40, .inl f_5)), (ma_cells, .inl (cI, 480, .inl f_9))]) [0, 1, 2, 3, 4] rfl
        have hD9 := hD.sub (ws' := [(mh, .inr (2, [.int m_hasRun, .int m_thrown, .int m_thrownAt, m_values, .ref ma_meant, .ref ma_lanes, .ref ma_lengths, .ref ma_cells, .long m_state])), (ma_meant, .inl (cI, 6, .inl f_11)), (ma_lanes, .inl (cI, 40, .inl f_3)), (ma_lengths, .inl (cI, 40, .inl f_5)), (ma_cells, .inl (cI, 480, .inl f_9))]) [0, 1, 2, 3, 4] (by decide) rfl
        exact W.iret (v := 0) hx hb hr (fun t ht hW => ⟨⟨0, (f_11, f_3, f_5, f_9), rfl, ⟨(show ∀ j : Nat, kSITE (f_11 j) from h_f_11), (show ∀ j : Nat, kR012 (f_5 j) from h_f_5)⟩, by rw [ht]; exact hP9, va_K.moved hW.alike hK, hD9⟩, hS.F ht⟩) hS.2.2 dX2_doNew_69
      · -- no
        have k_10 : v_8.toInt < (12 : Int32).toInt := ci_nge c_10
        refine lv_aload_n hx hb dX2_doNew_42 rfl (lv_at hl 1 rfl) ?_
        refine va_get (D := (dC, dI)) (ci := 2) (v := .ref ma_cells) (C := RX2) (T := TX2) (N := 9) hx hb hts inv_X2_doNew_X2 hown hK hP 0 rfl rfl 7 (by decide) (hts (.fieldLink RX2 35 "ArraySegments$Machine" "cells" "[I") (List.mem_of_getElem? (i := 3) rfl)) (fun _ h9 => h9) rfl dX2_doNew_43 ?_
        refine lv_iload_n hx hb dX2_doNew_46 rfl (lv_at hl 2 rfl) ?_
        refine lv_bipush (v := 12) hx hb dX2_doNew_47 (by decide) ?_
        refine sf_imul (w := ia.toInt) (z := 12) hx hb dX2_doNew_49 rfl (by decide) ⟨by omega, by omega⟩ (fun v_13 q_v_13 => ?_)
        refine lv_iload hx hb dX2_doNew_50 (lv_at hl 0 rfl) ?_
        refine sf_iadd hx hb dX2_doNew_52 ⟨by omega, by omega⟩ (fun v_14 q_v_14 => ?_)
        refine lv_iconst (v := 0) hx hb dX2_doNew_53 (by decide) ?_
        refine sf_iast kT hx hb hK hP hD hS 4 0 rfl rfl (fun _ => trivial) trivial (vp_in_iff.mpr ⟨by omega, by omega⟩) dX2_doNew_54 (fun f_15 h_f_15 e_f_15 H_16 locs_16 hP1 hD1 hS1 => ?_)
        replace hP : va_P (dC, dI) vwCl [(mh, .inr (2, [.int m_hasRun, .int m_thrown, .int m_thrownAt, m_values, .ref ma_meant, .ref ma_lanes, .ref ma_lengths, .ref ma_cells, .long m_state])), (ma_meant, .inl (cI, 6, .inl mc_meant)), (ma_lanes, .inl (cI, 40, .inl f_3)), (ma_lengths, .inl (cI, 40, .inl f_5)), (ma_cells, .inl (cI, 480, .inl f_15))] H_16 := hP1
        replace hD : va_D A [(mh, .inr (2, [.int m_hasRun, .int m_thrown, .int m_thrownAt, m_values, .ref ma_meant, .ref ma_lanes, .ref ma_lengths, .ref ma_cells, .long m_state])), (ma_meant, .inl (cI, 6, .inl mc_meant)), (ma_lanes, .inl (cI, 40, .inl f_3)), (ma_lengths, .inl (cI, 40, .inl f_5)), (ma_cells, .inl (cI, 480, .inl f_15))] := hD1
        replace hS := hS1
        clear hP1 hD1 hS1
        refine sf_iinc hx hb dX2_doNew_55 hl (k := 0) (x := v_8) (w := 1) rfl (by decide) (by decide) ⟨by omega, by omega⟩ (fun v_17 q_v_17 ls1 hl1 => ?_)
        replace hl : lv_has ls1 6 [(5, .int v_17), (0, .ref mh), (1, .int ia), (2, .int ra), (3, .int la), (4, .int na)] := hl1
        clear hl1
        refine lv_goto (tgt := 35) hx hb dX2_doNew_58 (by decide) ?_
        exact ih_7 (v_17, f_15) (show (0 ≤ v_17.toInt ∧ v_17.toInt ≤ 12) from ⟨by omega, by omega⟩) (by show (12 - v_17.toInt).toNat < (12 - v_8.toInt).toNat; omega) _ _ _ (hP.sub [0, 1, 2, 3, 4] rfl) (hD.sub [0, 1, 2, 3, 4] (by decide) rfl) hS (lv_sub hl [0, 1, 2, 3, 4, 5] rfl)
    · -- no
      have k_2 : (12 : Int32).toInt < na.toInt := ci_nle c_2
      refine lv_bipush (v := 7) hx hb dX2_doNew_14 (by decide) ?_
      have hP9 := hP.sub (ws' := [(mh, .inr (2, [.int m_hasRun, .int m_thrown, .int m_thrownAt, m_values, .ref ma_meant, .ref ma_lanes, .ref ma_lengths, .ref ma_cells, .long m_state])), (ma_meant, .inl (cI, 6, .inl mc_meant)), (ma_lanes, .inl (cI, 40, .inl mc_lanes)), (ma_lengths, .inl (cI, 40, .inl mc_lengths)), (ma_cells, .inl (cI, 480, .inl mc_cells))]) [0, 1, 2, 3, 4] rfl
      have hD9 := hD.sub (ws' := [(mh, .inr (2, [.int m_hasRun, .int m_thrown, .int m_thrownAt, m_values, .ref ma_meant, .ref ma_lanes, .ref ma_lengths, .ref ma_cells, .long m_state])), (ma_meant, .inl (cI, 6, .inl mc_meant)), (ma_lanes, .inl (cI, 40, .inl mc_lanes)), (ma_lengths, .inl (cI, 40, .inl mc_lengths)), (ma_cells, .inl (cI, 480, .inl mc_cells))]) [0, 1, 2, 3, 4] (by decide) rfl
      exact W.iret (v := 7) hx hb hr (fun t ht hW => ⟨⟨7, (mc_meant, mc_lanes, mc_lengths, mc_cells), rfl, ⟨(show ∀ j : Nat, kSITE (mc_meant j) from h_mc_meant), (show ∀ j : Nat, kR012 (mc_lengths j) from h_mc_lengths)⟩, by rw [ht]; exact hP9, va_K.moved hW.alike hK, hD9⟩, hS.F ht⟩) hS.2.2 dX2_doNew_16
  · -- no
    have k_1 : na.toInt < (0 : Int32).toInt := ci_nge c_1
    refine lv_iconst (v := 3) hx hb dX2_doNew_5 (by decide) ?_
    have hP9 := hP.sub (ws' := [(mh, .inr (2, [.int m_hasRun, .int m_thrown, .int m_thrownAt, m_values, .ref ma_meant, .ref ma_lanes, .ref ma_lengths, .ref ma_cells, .long m_state])), (ma_meant, .inl (cI, 6, .inl mc_meant)), (ma_lanes, .inl (cI, 40, .inl mc_lanes)), (ma_lengths, .inl (cI, 40, .inl mc_lengths)), (ma_cells, .inl (cI, 480, .inl mc_cells))]) [0, 1, 2, 3, 4] rfl
    have hD9 := hD.sub (ws' := [(mh, .inr (2, [.int m_hasRun, .int m_thrown, .int m_thrownAt, m_values, .ref ma_meant, .ref ma_lanes, .ref ma_lengths, .ref ma_cells, .long m_state])), (ma_meant, .inl (cI, 6, .inl mc_meant)), (ma_lanes, .inl (cI, 40, .inl mc_lanes)), (ma_lengths, .inl (cI, 40, .inl mc_lengths)), (ma_cells, .inl (cI, 480, .inl mc_cells))]) [0, 1, 2, 3, 4] (by decide) rfl
    exact W.iret (v := 3) hx hb hr (fun t ht hW => ⟨⟨3, (mc_meant, mc_lanes, mc_lengths, mc_cells), rfl, ⟨(show ∀ j : Nat, kSITE (mc_meant j) from h_mc_meant), (show ∀ j : Nat, kR012 (mc_lengths j) from h_mc_lengths)⟩, by rw [ht]; exact hP9, va_K.moved hW.alike hK, hD9⟩, hS.F ht⟩) hS.2.2 dX2_doNew_6

def v_X2_doClone : List Cond := .code yX2_doClone cX2_doClone 4 (some .int) :: ([.fieldLink RX2 29 "ArraySegments$Machine" "lanes" "[I", .fieldLink RX2 32 "ArraySegments$Machine" "lengths" "[I", .fieldLink RX2 35 "ArraySegments$Machine" "cells" "[I", .methodLink RX2 124 arraycopyName, .native arraycopyName, .static arraycopyName, .initialized "java/lang/System", .fieldLink RX2 26 "ArraySegments$Machine" "meant" "[I"] ++ (wsX20))
theorem inv_X2_doClone_X2 : ∀ w ∈ wsX20, w ∈ v_X2_doClone := fun _ h => List.mem_cons_of_mem _ (List.mem_append_right _ (h))
set_option maxRecDepth 20000 in
theorem gd_X2_doClone : gdL v_X2_doClone := gdC (gdW (by decide +kernel)) (gdA (gdW (by decide +kernel)) gd_wsX20)
abbrev sw_X2_doClone (cI cJ cZ : ClassId) (mh : Nat) (m_hasRun : Int32) (m_thrown : Int32) (m_thrownAt : Int32) (m_values : Value) (ma_meant : Nat) (ma_lanes : Nat) (ma_lengths : Nat) (ma_cells : Nat) (m_state : Int64) (mc_meant : Nat → Int32) (mc_lanes : Nat → Int32) (mc_lengths : Nat → Int32) (mc_cells : Nat → Int32) (ia : Int32) (ra : Int32) (fa : Int32) : va_W := [(mh, .inr (2, [.int m_hasRun, .int m_thrown, .int m_thrownAt, m_values, .ref ma_meant, .ref ma_lanes, .ref ma_lengths, .ref ma_cells, .long m_state])), (ma_meant, .inl (cI, 6, .inl mc_meant)), (ma_lanes, .inl (cI, 40, .inl mc_lanes)), (ma_lengths, .inl (cI, 40, .inl mc_lengths)), (ma_cells, .inl (cI, 480, .inl mc_cells))]
set_option maxHeartbeats 8000000 in
set_option maxRecDepth 100000 in
theorem s_X2_doClone (l : Launch) (dC : Nat → ClassId) (dI : Nat → Nat → Nat) (cI cJ cZ : ClassId) (mh : Nat) (m_hasRun : Int32) (m_thrown : Int32) (m_thrownAt : Int32) (m_values : Value) (ma_meant : Nat) (ma_lanes : Nat) (ma_lengths : Nat) (ma_cells : Nat) (m_state : Int64) (mc_meant : Nat → Int32) (mc_lanes : Nat → Int32) (mc_lengths : Nat → Int32) (mc_cells : Nat → Int32) (ia : Int32) (ra : Int32) (fa : Int32) (sz : Nat) (q_m_hasRun : kZ m_hasRun) (h_mc_meant : ∀ j : Nat, kSITE (mc_meant j)) (h_mc_lengths : ∀ j : Nat, kR012 (mc_lengths j)) (hy_ia : 0 ≤ ia.toInt ∧ ia.toInt ≤ 39) (hy_ra : V6 ra) (hy_fa : -1 ≤ fa.toInt ∧ fa.toInt ≤ 39) : Met l yX2_doClone v_X2_doClone ({ frames := 1, cells := 0, slots := 0, locals := 60 }) (va_Pc [.ref mh, .int ia, .int ra, .int fa] (cPre dC dI cI cJ cZ sz (sw_X2_doClone cI cJ cZ mh m_hasRun m_thrown m_thrownAt m_values ma_meant ma_lanes ma_lengths ma_cells m_state mc_meant mc_lanes mc_lengths mc_cells ia ra fa))) (va_Qi (fun (r : Int32) (u : (Nat → Int32) × (Nat → Int32) × (Nat → Int32) × (Nat → Int32)) => (∀ j : Nat, kSITE ((u.1) j)) ∧ (∀ j : Nat, kR012 ((u.2.2.1) j))) (fun (u : (Nat → Int32) × (Nat → Int32) × (Nat → Int32) × (Nat → Int32)) => cPost dC dI cI cJ cZ (va_A (sw_X2_doClone cI cJ cZ mh m_hasRun m_thrown m_thrownAt m_values ma_meant ma_lanes ma_lengths ma_cells m_state mc_meant mc_lanes mc_lengths mc_cells ia ra fa) sz) [(mh, .inr (2, [.int m_hasRun, .int m_thrown, .int m_thrownAt, m_values, .ref ma_meant, .ref ma_lanes, .ref ma_lengths, .ref ma_cells, .long m_state])), (ma_meant, .inl (cI, 6, .inl (u.1))), (ma_lanes, .inl (cI, 40, .inl (u.2.1))), (ma_lengths, .inl (cI, 40, .inl (u.2.2.1))), (ma_cells, .inl (cI, 480, .inl (u.2.2.2)))]) (va_A (sw_X2_doClone cI cJ cZ mh m_hasRun m_thrown m_thrownAt m_values ma_meant ma_lanes ma_lengths ma_cells m_state mc_meant mc_lanes mc_lengths mc_cells ia ra fa) sz)) 0 0 (va_A (sw_X2_doClone cI cJ cZ mh m_hasRun m_thrown m_thrownAt m_values ma_meant ma_lanes ma_lengths ma_cells m_state mc_meant mc_lanes mc_lengths mc_cells ia ra fa) sz) := by
  refine Met.ofW (cc := cX2_doClone) (maxL := 4) (ret := (some .int)) (by decide) rfl ?_
  intro p e s m args below meth c s₁ B hml hv
  obtain ⟨rfl, hsz, hP, hK, hD0, hN⟩ := hv
  have hx := B.exec
  have hb := B.bytes
  have hr := B.returns
  have hts := atoms_spec (ws := v_X2_doClone) B.pre
  have hown : s.vm.findClass RX2 = some m.cls := findClass_of_methodNamed B.named
  have hlocks := B.notSynchronized
  subst hsz
  have hD := hD0.self (sz := s.heap.size)
  generalize hAe : va_A (sw_X2_doClone cI cJ cZ mh m_hasRun m_thrown m_thrownAt m_values ma_meant ma_lanes ma_lengths ma_cells m_state mc_meant mc_lanes mc_lengths mc_cells ia ra fa) s.heap.size = A at hD ⊢
  have hA : ∀ q : Nat, s.heap.size ≤ q → A q := fun q h => by rw [← hAe]; exact Or.inr h
  clear hAe hD0
  have hS : va_S A s.heap s.heap [] := va_S.rf
  replace hP : va_P (dC, dI) vwCl [(mh, .inr (2, [.int m_hasRun, .int m_thrown, .int m_thrownAt, m_values, .ref ma_meant, .ref ma_lanes, .ref ma_lengths, .ref ma_cells, .long m_state])), (ma_meant, .inl (cI, 6, .inl mc_meant)), (ma_lanes, .inl (cI, 40, .inl mc_lanes)), (ma_lengths, .inl (cI, 40, .inl mc_lengths)), (ma_cells, .inl (cI, 480, .inl mc_cells))] s.heap := hP
  replace hD : va_D A [(mh, .inr (2, [.int m_hasRun, .int m_thrown, .int m_thrownAt, m_values, .ref ma_meant, .ref ma_lanes, .ref ma_lengths, .ref ma_cells, .long m_state])), (ma_meant, .inl (cI, 6, .inl mc_meant)), (ma_lanes, .inl (cI, 40, .inl mc_lanes)), (ma_lengths, .inl (cI, 40, .inl mc_lengths)), (ma_cells, .inl (cI, 480, .inl mc_cells))] := hD
  have hl := lv_entry ([.ref mh, .int ia, .int ra, .int fa]) (n := 4) (Nat.le_of_ble_eq_true rfl)
  rw [lg_entry_eq]
  generalize (lg_sl ([.ref mh, .int ia, .int ra, .int fa]) ++ List.replicate (4 - (lg_sl ([.ref mh, .int ia, .int ra, .int fa])).length) Slot.unset).toArray = ls at hl ⊢
  replace hl : lv_has ls 4 [(0, .ref mh), (1, .int ia), (2, .int ra), (3, .int fa)] := hl
  have z_0 : (0 : Int32).toInt = 0 := by decide
  have z_1 : (1 : Int32).toInt = 1 := by decide
  have z_12 : (12 : Int32).toInt = 12 := by decide
  refine lv_iload_n hx hb dX2_doClone_0 rfl (lv_at hl 3 rfl) ?_
  refine lv_if_ge (tgt := 6) hx hb dX2_doClone_1 (by decide) (fun c_1 => ?_) (fun c_1 => ?_)
  · -- yes
    have k_1 : (0 : Int32).toInt ≤ fa.toInt := ci_ge c_1
    refine lv_aload_n hx hb dX2_doClone_6 rfl (lv_at hl 0 rfl) ?_
    refine va_get (D := (dC, dI)) (ci := 2) (v := .ref ma_lanes) (C := RX2) (T := TX2) (N := 9) hx hb hts inv_X2_doClone_X2 hown hK hP 0 rfl rfl 5 (by decide) (hts (.fieldLink RX2 29 "ArraySegments$Machine" "lanes" "[I") (List.mem_of_getElem? (i := 1) rfl)) (fun _ h9 => h9) rfl dX2_doClone_7 ?_
    refine lv_iload_n hx hb dX2_doClone_10 rfl (lv_at hl 1 rfl) ?_
    refine lv_aload_n hx hb dX2_doClone_11 rfl (lv_at hl 0 rfl) ?_
    refine va_get (D := (dC, dI)) (ci := 2) (v := .ref ma_lanes) (C := RX2) (T := TX2) (N := 9) hx hb hts inv_X2_doClone_X2 hown hK hP 0 rfl rfl 5 (by decide) (hts (.fieldLink RX2 29 "ArraySegments$Machine" "lanes" "[I") (List.mem_of_getElem? (i := 1) rfl)) (fun _ h9 => h9) rfl dX2_doClone_12 ?_
    refine lv_iload_n hx hb dX2_doClone_15 rfl (lv_at hl 3 rfl) ?_
    refine sf_iald kT hx hb hK hP 2 0 rfl rfl (fun _ => trivial) (vp_in_iff.mpr ⟨by omega, by omega⟩) dX2_doClone_16 (fun v_2 q_v_2 e_v_2 => ?_)
    refine sf_iast kT hx hb hK hP hD hS 2 0 rfl rfl (fun _ => trivial) trivial (vp_in_iff.mpr ⟨by omega, by omega⟩) dX2_doClone_17 (fun f_3 h_f_3 e_f_3 H_4 locs_4 hP1 hD1 hS1 => ?_)
    replace hP : va_P (dC, dI) vwCl [(mh, .inr (2, [.int m_hasRun, .int m_thrown, .int m_thrownAt, m_values, .ref ma_meant, .ref ma_lanes, .ref ma_lengths, .ref ma_cells, .long m_state])), (ma_meant, .inl (cI, 6, .inl mc_meant)), (ma_lanes, .inl (cI, 40, .inl f_3)), (ma_lengths, .inl (cI, 40, .inl mc_lengths)), (ma_cells, .inl (cI, 480, .inl mc_cells))] H_4 := hP1
    replace hD : va_D A [(mh, .inr (2, [.int m_hasRun, .int m_thrown, .int m_thrownAt, m_values, .ref ma_meant, .ref ma_lanes, .ref ma_lengths, .ref ma_cells, .long m_state])), (ma_meant, .inl (cI, 6, .inl mc_meant)), (ma_lanes, .inl (cI, 40, .inl f_3)), (ma_lengths, .inl (cI, 40, .inl mc_lengths)), (ma_cells, .inl (cI, 480, .inl mc_cells))] := hD1
    replace hS := hS1
    clear hP1 hD1 hS1
    refine lv_aload_n hx hb dX2_doClone_18 rfl (lv_at hl 0 rfl) ?_
    refine va_get (D := (dC, dI)) (ci := 2) (v := .ref ma_lengths) (C := RX2) (T := TX2) (N := 9) hx hb hts inv_X2_doClone_X2 hown hK hP 0 rfl rfl 6 (by decide) (hts (.fieldLink RX2 32 "ArraySegments$Machine" "lengths" "[I") (List.mem_of_getElem? (i := 2) rfl)) (fun _ h9 => h9) rfl dX2_doClone_19 ?_
    refine lv_iload_n hx hb dX2_doClone_22 rfl (lv_at hl 1 rfl) ?_
    refine lv_aload_n hx hb dX2_doClone_23 rfl (lv_at hl 0 rfl) ?_
    refine va_get (D := (dC, dI)) (ci := 2) (v := .ref ma_lengths) (C := RX2) (T := TX2) (N := 9) hx hb hts inv_X2_doClone_X2 hown hK hP 0 rfl rfl 6 (by decide) (hts (.fieldLink RX2 32 "ArraySegments$Machine" "lengths" "[I") (List.mem_of_getElem? (i := 2) rfl)) (fun _ h9 => h9) rfl dX2_doClone_24 ?_
    refine lv_iload_n hx hb dX2_doClone_27 rfl (lv_at hl 3 rfl) ?_
    refine sf_iald kR012 hx hb hK hP 3 0 rfl rfl h_mc_lengths (vp_in_iff.mpr ⟨by omega, by omega⟩) dX2_doClone_28 (fun v_5 q_v_5 e_v_5 => ?_)
    refine sf_iast kR012 hx hb hK hP hD hS 3 0 rfl rfl h_mc_lengths (show kR012 v_5 from by omega) (vp_in_iff.mpr ⟨by omega, by omega⟩) dX2_doClone_29 (fun f_6 h_f_6 e_f_6 H_7 locs_7 hP1 hD1 hS1 => ?_)
    replace hP : va_P (dC, dI) vwCl [(mh, .inr (2, [.int m_hasRun, .int m_thrown, .int m_thrownAt, m_values, .ref ma_meant, .ref ma_lanes, .ref ma_lengths, .ref ma_cells, .long m_state])), (ma_meant, .inl (cI, 6, .inl mc_meant)), (ma_lanes, .inl (cI, 40, .inl f_3)), (ma_lengths, .inl (cI, 40, .inl f_6)), (ma_cells, .inl (cI, 480, .inl mc_cells))] H_7 := hP1
    replace hD : va_D A [(mh, .inr (2, [.int m_hasRun, .int m_thrown, .int m_thrownAt, m_values, .ref ma_meant, .ref ma_lanes, .ref ma_lengths, .ref ma_cells, .long m_state])), (ma_meant, .inl (cI, 6, .inl mc_meant)), (ma_lanes, .inl (cI, 40, .inl f_3)), (ma_lengths, .inl (cI, 40, .inl f_6)), (ma_cells, .inl (cI, 480, .inl mc_cells))] := hD1
    replace hS := hS1
    clear hP1 hD1 hS1
    refine lv_aload_n hx hb dX2_doClone_30 rfl (lv_at hl 0 rfl) ?_
    refine va_get (D := (dC, dI)) (ci := 2) (v := .ref ma_cells) (C := RX2) (T := TX2) (N := 9) hx hb hts inv_X2_doClone_X2 hown hK hP 0 rfl rfl 7 (by decide) (hts (.fieldLink RX2 35 "ArraySegments$Machine" "cells" "[I") (List.mem_of_getElem? (i := 3) rfl)) (fun _ h9 => h9) rfl dX2_doClone_31 ?_
    refine lv_iload_n hx hb dX2_doClone_34 rfl (lv_at hl 3 rfl) ?_
    refine lv_bipush (v := 12) hx hb dX2_doClone_35 (by decide) ?_
    refine sf_imul (w := fa.toInt) (z := 12) hx hb dX2_doClone_37 rfl (by decide) ⟨by omega, by omega⟩ (fun v_8 q_v_8 => ?_)
    refine lv_aload_n hx hb dX2_doClone_38 rfl (lv_at hl 0 rfl) ?_
    refine va_get (D := (dC, dI)) (ci := 2) (v := .ref ma_cells) (C := RX2) (T := TX2) (N := 9) hx hb hts inv_X2_doClone_X2 hown hK hP 0 rfl rfl 7 (by decide) (hts (.fieldLink RX2 35 "ArraySegments$Machine" "cells" "[I") (List.mem_of_getElem? (i := 3) rfl)) (fun _ h9 => h9) rfl dX2_doClone_39 ?_
    refine lv_iload_n hx hb dX2_doClone_42 rfl (lv_at hl 1 rfl) ?_
    refine lv_bipush (v := 12) hx hb dX2_doClone_43 (by decide) ?_
    refine sf_imul (w := ia.toInt) (z := 12) hx hb dX2_doClone_45 rfl (by decide) ⟨by omega, by omega⟩ (fun v_9 q_v_9 => ?_)
    refine lv_bipush (v := 12) hx hb dX2_doClone_46 (by decide) ?_
    refine sf_copyi kT hx hb (by rw [hml]; exact hl.1.symm) hown (hts (.methodLink RX2 124 arraycopyName) (List.mem_of_getElem? (i := 4) rfl)) (hts (.native arraycopyName) (List.mem_of_getElem? (i := 5) rfl)) (hts (.static arraycopyName) (List.mem_of_getElem? (i := 6) rfl)) (hts (.initialized "java/lang/System") (List.mem_of_getElem? (i := 7) rfl)) hK hP hD hS 4 4 0 0 rfl rfl rfl rfl (fun _ => trivial) (fun _ => trivial) (by omega) (by omega) (by omega) (by omega) (by omega) (Nat.le_of_ble_eq_true rfl) (Nat.le_of_ble_eq_true rfl) dX2_doClone_48 (fun f_10 h_f_10 H_11 locs_11 hP1 hD1 hS1 => ?_)
    replace hP : va_P (dC, dI) vwCl [(mh, .inr (2, [.int m_hasRun, .int m_thrown, .int m_thrownAt, m_values, .ref ma_meant, .ref ma_lanes, .ref ma_lengths, .ref ma_cells, .long m_state])), (ma_meant, .inl (cI, 6, .inl mc_meant)), (ma_lanes, .inl (cI, 40, .inl f_3)), (ma_lengths, .inl (cI, 40, .inl f_6)), (ma_cells, .inl (cI, 480, .inl f_10))] H_11 := hP1
    replace hD : va_D A [(mh, .inr (2, [.int m_hasRun, .int m_thrown, .int m_thrownAt, m_values, .ref ma_meant, .ref ma_lanes, .ref ma_lengths, .ref ma_cells, .long m_state])), (ma_meant, .inl (cI, 6, .inl mc_meant)), (ma_lanes, .inl (cI, 40, .inl f_3)), (ma_lengths, .inl (cI, 40, .inl f_6)), (ma_cells, .inl (cI, 480, .inl f_10))] := hD1
    replace hS := hS1
    clear hP1 hD1 hS1
    refine lv_aload_n hx hb dX2_doClone_51 rfl (lv_at hl 0 rfl) ?_
    refine va_get (D := (dC, dI)) (ci := 2) (v := .ref ma_meant) (C := RX2) (T := TX2) (N := 9) hx hb hts inv_X2_doClone_X2 hown hK hP 0 rfl rfl 4 (by decide) (hts (.fieldLink RX2 26 "ArraySegments$Machine" "meant" "[I") (List.mem_of_getElem? (i := 8) rfl)) (fun _ h9 => h9) rfl dX2_doClone_52 ?_
    refine lv_iload_n hx hb dX2_doClone_55 rfl (lv_at hl 2 rfl) ?_
    refine lv_iload_n hx hb dX2_doClone_56 rfl (lv_at hl 1 rfl) ?_
    refine sf_iast kSITE hx hb hK hP hD hS 1 0 rfl rfl h_mc_meant (show kSITE ia from by omega) (vp_in_iff.mpr ⟨by omega, by omega⟩) dX2_doClone_57 (fun f_12 h_f_12 e_f_12 H_13 locs_13 hP1 hD1 hS1 => ?_)
    replace hP : va_P (dC, dI) vwCl [(mh, .inr (2, [.int m_hasRun, .int m_thrown, .int m_thrownAt, m_values, .ref ma_meant, .ref ma_lanes, .ref ma_lengths, .ref ma_cells, .long m_state])), (ma_meant, .inl (cI, 6, .inl f_12)), (ma_lanes, .inl (cI, 40, .inl f_3)), (ma_lengths, .inl (cI, 40, .inl f_6)), (ma_cells, .inl (cI, 480, .inl f_10))] H_13 := hP1
    replace hD : va_D A [(mh, .inr (2, [.int m_hasRun, .int m_thrown, .int m_thrownAt, m_values, .ref ma_meant, .ref ma_lanes, .ref ma_lengths, .ref ma_cells, .long m_state])), (ma_meant, .inl (cI, 6, .inl f_12)), (ma_lanes, .inl (cI, 40, .inl f_3)), (ma_lengths, .inl (cI, 40, .inl f_6)), (ma_cells, .inl (cI, 480, .inl f_10))] := hD1
    replace hS := hS1
    clear hP1 hD1 hS1
    refine lv_iconst (v := 0) hx hb dX2_doClone_58 (by decide) ?_
    have hP9 := hP.sub (ws' := [(mh, .inr (2, [.int m_hasRun, .int m_thrown, .int m_thrownAt, m_values, .ref ma_meant, .ref ma_lanes, .ref ma_lengths, .ref ma_cells, .long m_state])), (ma_meant, .inl (cI, 6, .inl f_12)), (ma_lanes, .inl (cI, 40, .inl f_3)), (ma_lengths, .inl (cI, 40, .inl f_6)), (ma_cells, .inl (cI, 480, .inl f_10))]) [0, 1, 2, 3, 4] rfl
    have hD9 := hD.sub (ws' := [(mh, .inr (2, [.int m_hasRun, .int m_thrown, .int m_thrownAt, m_values, .ref ma_meant, .ref ma_lanes, .ref ma_lengths, .ref ma_cells, .long m_state])), (ma_meant, .inl (cI, 6, .inl f_12)), (ma_lanes, .inl (cI, 40, .inl f_3)), (ma_lengths, .inl (cI, 40, .inl f_6)), (ma_cells, .inl (cI, 480, .inl f_10))]) [0, 1, 2, 3, 4] (by decide) rfl
    exact W.iret (v := 0) hx hb hr (fun t ht hW => ⟨⟨0, (f_12, f_3, f_6, f_10), rfl, ⟨(show ∀ j : Nat, kSITE (f_12 j) from h_f_12), (show ∀ j : Nat, kR012 (f_6 j) from h_f_6)⟩, by rw [ht]; exact hP9, va_K.moved hW.alike hK, hD9⟩, hS.F ht⟩) hS.2.2 dX2_doClone_59
  · -- no
    have k_1 : fa.toInt < (0 : Int32).toInt := ci_nge c_1
    refine lv_iconst (v := 1) hx hb dX2_doClone_4 (by decide) ?_
    have hP9 := hP.sub (ws' := [(mh, .inr (2, [.int m_hasRun, .int m_thrown, .int m_thrownAt, m_values, .ref ma_meant, .ref ma_lanes, .ref ma_lengths, .ref ma_cells, .long m_state])), (ma_meant, .inl (cI, 6, .inl mc_meant)), (ma_lanes, .inl (cI, 40, .inl mc_lanes)), (ma_lengths, .inl (cI, 40, .inl mc_lengths)), (ma_cells, .inl (cI, 480, .inl mc_cells))]) [0, 1, 2, 3, 4] rfl
    have hD9 := hD.sub (ws' := [(mh, .inr (2, [.int m_hasRun, .int m_thrown, .int m_thrownAt, m_values, .ref ma_meant, .ref ma_lanes, .ref ma_lengths, .ref ma_cells, .long m_state])), (ma_meant, .inl (cI, 6, .inl mc_meant)), (ma_lanes, .inl (cI, 40, .inl mc_lanes)), (ma_lengths, .inl (cI, 40, .inl mc_lengths)), (ma_cells, .inl (cI, 480, .inl mc_cells))]) [0, 1, 2, 3, 4] (by decide) rfl
    exact W.iret (v := 1) hx hb hr (fun t ht hW => ⟨⟨1, (mc_meant, mc_lanes, mc_lengths, mc_cells), rfl, ⟨(show ∀ j : Nat, kSITE (mc_meant j) from h_mc_meant), (show ∀ j : Nat, kR012 (mc_lengths j) from h_mc_lengths)⟩, by rw [ht]; exact hP9, va_K.moved hW.alike hK, hD9⟩, hS.F ht⟩) hS.2.2 dX2_doClone_5

def v_X2_doLength : List Cond := .code yX2_doLength cX2_doLength 3 (some .int) :: ([.fieldLink RX2 22 "ArraySegments$Machine" "values" "[I", .fieldLink RX2 32 "ArraySegments$Machine" "lengths" "[I"] ++ (wsX20))
theorem inv_X2_doLength_X2 : ∀ w ∈ wsX20, w ∈ v_X2_doLength := fun _ h => List.mem_cons_of_mem _ (List.mem_append_right _ (h))
set_option maxRecDepth 20000 in
theorem gd_X2_doLength : gdL v_X2_doLength := gdC (gdW (by decide +kernel)) (gdA (gdW (by decide +kernel)) gd_wsX20)
abbrev sw_X2_doLength (cI cJ cZ : ClassId) (mh : Nat) (m_hasRun : Int32) (m_thrown : Int32) (m_thrownAt : Int32) (ma_values : Nat) (m_meant : Value) (m_lanes : Value) (ma_lengths : Nat) (m_cells : Value) (m_state : Int64) (mc_values : Nat → Int32) (mc_lengths : Nat → Int32) (xa : Int32) (arra : Int32) : va_W := [(mh, .inr (2, [.int m_hasRun, .int m_thrown, .int m_thrownAt, .ref ma_values, m_meant, m_lanes, .ref ma_lengths, m_cells, .long m_state])), (ma_values, .inl (cI, 6, .inl mc_values)), (ma_lengths, .inl (cI, 40, .inl mc_lengths))]
set_option maxHeartbeats 8000000 in
set_option maxRecDepth 100000 in
theorem s_X2_doLength (l : Launch) (dC : Nat → ClassId) (dI : Nat → Nat → Nat) (cI cJ cZ : ClassId) (mh : Nat) (m_hasRun : Int32) (m_thrown : Int32) (m_thrownAt : Int32) (ma_values : Nat) (m_meant : Value) (m_lanes : Value) (ma_lengths : Nat) (m_cells : Value) (m_state : Int64) (mc_values : Nat → Int32) (mc_lengths : Nat → Int32) (xa : Int32) (arra : Int32) (sz : Nat) (q_m_hasRun : kZ m_hasRun) (h_mc_lengths : ∀ j : Nat, kR012 (mc_lengths j)) (hy_xa : V6 xa) (hy_arra : -1 ≤ arra.toInt ∧ arra.toInt ≤ 39) : Met l yX2_doLength v_X2_doLength ({ frames := 0, cells := 0, slots := 0, locals := 0 }) (va_Pc [.ref mh, .int xa, .int arra] (cPre dC dI cI cJ cZ sz (sw_X2_doLength cI cJ cZ mh m_hasRun m_thrown m_thrownAt ma_values m_meant m_lanes ma_lengths m_cells m_state mc_values mc_lengths xa arra))) (va_Qi (fun (r : Int32) (u : (Nat → Int32)) => True) (fun (u : (Nat → Int32)) => cPost dC dI cI cJ cZ (va_A (sw_X2_doLength cI cJ cZ mh m_hasRun m_thrown m_thrownAt ma_values m_meant m_lanes ma_lengths m_cells m_state mc_values mc_lengths xa arra) sz) [(mh, .inr (2, [.int m_hasRun, .int m_thrown, .int m_thrownAt, .ref ma_values, m_meant, m_lanes, .ref ma_lengths, m_cells, .long m_state])), (ma_values, .inl (cI, 6, .inl (u))), (ma_lengths, .inl (cI, 40, .inl mc_lengths))]) (va_A (sw_X2_doLength cI cJ cZ mh m_hasRun m_thrown m_thrownAt ma_values m_meant m_lanes ma_lengths m_cells m_state mc_values mc_lengths xa arra) sz)) 0 0 (va_A (sw_X2_doLength cI cJ cZ mh m_hasRun m_thrown m_thrownAt ma_values m_meant m_lanes ma_lengths m_cells m_state mc_values mc_lengths xa arra) sz) := by
  refine Met.ofW (cc := cX2_doLength) (maxL := 3) (ret := (some .int)) (by decide) rfl ?_
  intro p e s m args below meth c s₁ B hml hv
  obtain ⟨rfl, hsz, hP, hK, hD0, hN⟩ := hv
  have hx := B.exec
  have hb := B.bytes
  have hr := B.returns
  have hts := atoms_spec (ws := v_X2_doLength) B.pre
  have hown : s.vm.findClass RX2 = some m.cls := findClass_of_methodNamed B.named
  have hlocks := B.notSynchronized
  subst hsz
  have hD := hD0.self (sz := s.heap.size)
  generalize hAe : va_A (sw_X2_doLength cI cJ cZ mh m_hasRun m_thrown m_thrownAt ma_values m_meant m_lanes ma_lengths m_cells m_state mc_values mc_lengths xa arra) s.heap.size = A at hD ⊢
  have hA : ∀ q : Nat, s.heap.size ≤ q → A q := fun q h => by rw [← hAe]; exact Or.inr h
  clear hAe hD0
  have hS : va_S A s.heap s.heap [] := va_S.rf
  replace hP : va_P (dC, dI) vwCl [(mh, .inr (2, [.int m_hasRun, .int m_thrown, .int m_thrownAt, .ref ma_values, m_meant, m_lanes, .ref ma_lengths, m_cells, .long m_state])), (ma_values, .inl (cI, 6, .inl mc_values)), (ma_lengths, .inl (cI, 40, .inl mc_lengths))] s.heap := hP
  replace hD : va_D A [(mh, .inr (2, [.int m_hasRun, .int m_thrown, .int m_thrownAt, .ref ma_values, m_meant, m_lanes, .ref ma_lengths, m_cells, .long m_state])), (ma_values, .inl (cI, 6, .inl mc_values)), (ma_lengths, .inl (cI, 40, .inl mc_lengths))] := hD
  have hl := lv_entry ([.ref mh, .int xa, .int arra]) (n := 3) (Nat.le_of_ble_eq_true rfl)
  rw [lg_entry_eq]
  generalize (lg_sl ([.ref mh, .int xa, .int arra]) ++ List.replicate (3 - (lg_sl ([.ref mh, .int xa, .int arra])).length) Slot.unset).toArray = ls at hl ⊢
  replace hl : lv_has ls 3 [(0, .ref mh), (1, .int xa), (2, .int arra)] := hl
  have z_0 : (0 : Int32).toInt = 0 := by decide
  have z_1 : (1 : Int32).toInt = 1 := by decide
  refine lv_iload_n hx hb dX2_doLength_0 rfl (lv_at hl 2 rfl) ?_
  refine lv_if_ge (tgt := 6) hx hb dX2_doLength_1 (by decide) (fun c_1 => ?_) (fun c_1 => ?_)
  · -- yes
    have k_1 : (0 : Int32).toInt ≤ arra.toInt := ci_ge c_1
    refine lv_aload_n hx hb dX2_doLength_6 rfl (lv_at hl 0 rfl) ?_
    refine va_get (D := (dC, dI)) (ci := 2) (v := .ref ma_values) (C := RX2) (T := TX2) (N := 9) hx hb hts inv_X2_doLength_X2 hown hK hP 0 rfl rfl 3 (by decide) (hts (.fieldLink RX2 22 "ArraySegments$Machine" "values" "[I") (List.mem_of_getElem? (i := 1) rfl)) (fun _ h9 => h9) rfl dX2_doLength_7 ?_
    refine lv_iload_n hx hb dX2_doLength_10 rfl (lv_at hl 1 rfl) ?_
    refine lv_aload_n hx hb dX2_doLength_11 rfl (lv_at hl 0 rfl) ?_
    refine va_get (D := (dC, dI)) (ci := 2) (v := .ref ma_lengths) (C := RX2) (T := TX2) (N := 9) hx hb hts inv_X2_doLength_X2 hown hK hP 0 rfl rfl 6 (by decide) (hts (.fieldLink RX2 32 "ArraySegments$Machine" "lengths" "[I") (List.mem_of_getElem? (i := 2) rfl)) (fun _ h9 => h9) rfl dX2_doLength_12 ?_
    refine lv_iload_n hx hb dX2_doLength_15 rfl (lv_at hl 2 rfl) ?_
    refine sf_iald kR012 hx hb hK hP 2 0 rfl rfl h_mc_lengths (vp_in_iff.mpr ⟨by omega, by omega⟩) dX2_doLength_16 (fun v_2 q_v_2 e_v_2 => ?_)
    refine sf_iast kT hx hb hK hP hD hS 1 0 rfl rfl (fun _ => trivial) trivial (vp_in_iff.mpr ⟨by omega, by omega⟩) dX2_doLength_17 (fun f_3 h_f_3 e_f_3 H_4 locs_4 hP1 hD1 hS1 => ?_)
    replace hP : va_P (dC, dI) vwCl [(mh, .inr (2, [.int m_hasRun, .int m_thrown, .int m_thrownAt, .ref ma_values, m_meant, m_lanes, .ref ma_lengths, m_cells, .long m_state])), (ma_values, .inl (cI, 6, .inl f_3)), (ma_lengths, .inl (cI, 40, .inl mc_lengths))] H_4 := hP1
    replace hD : va_D A [(mh, .inr (2, [.int m_hasRun, .int m_thrown, .int m_thrownAt, .ref ma_values, m_meant, m_lanes, .ref ma_lengths, m_cells, .long m_state])), (ma_values, .inl (cI, 6, .inl f_3)), (ma_lengths, .inl (cI, 40, .inl mc_lengths))] := hD1
    replace hS := hS1
    clear hP1 hD1 hS1
    refine lv_iconst (v := 0) hx hb dX2_doLength_18 (by decide) ?_
    have hP9 := hP.sub (ws' := [(mh, .inr (2, [.int m_hasRun, .int m_thrown, .int m_thrownAt, .ref ma_values, m_meant, m_lanes, .ref ma_lengths, m_cells, .long m_state])), (ma_values, .inl (cI, 6, .inl f_3)), (ma_lengths, .inl (cI, 40, .inl mc_lengths))]) [0, 1, 2] rfl
    have hD9 := hD.sub (ws' := [(mh, .inr (2, [.int m_hasRun, .int m_thrown, .int m_thrownAt, .ref ma_values, m_meant, m_lanes, .ref ma_lengths, m_cells, .long m_state])), (ma_values, .inl (cI, 6, .inl f_3)), (ma_lengths, .inl (cI, 40, .inl mc_lengths))]) [0, 1, 2] (by decide) rfl
    exact W.iret (v := 0) hx hb hr (fun t ht hW => ⟨⟨0, f_3, rfl, trivial, by rw [ht]; exact hP9, va_K.moved hW.alike hK, hD9⟩, hS.F ht⟩) hS.2.2 dX2_doLength_19
  · -- no
    have k_1 : arra.toInt < (0 : Int32).toInt := ci_nge c_1
    refine lv_iconst (v := 1) hx hb dX2_doLength_4 (by decide) ?_
    have hP9 := hP.sub (ws' := [(mh, .inr (2, [.int m_hasRun, .int m_thrown, .int m_thrownAt, .ref ma_values, m_meant, m_lanes, .ref ma_lengths, m_cells, .long m_state])), (ma_values, .inl (cI, 6, .inl mc_values)), (ma_lengths, .inl (cI, 40, .inl mc_lengths))]) [0, 1, 2] rfl
    have hD9 := hD.sub (ws' := [(mh, .inr (2, [.int m_hasRun, .int m_thrown, .int m_thrownAt, .ref ma_values, m_meant, m_lanes, .ref ma_lengths, m_cells, .long m_state])), (ma_values, .inl (cI, 6, .inl mc_values)), (ma_lengths, .inl (cI, 40, .inl mc_lengths))]) [0, 1, 2] (by decide) rfl
    exact W.iret (v := 1) hx hb hr (fun t ht hW => ⟨⟨1, mc_values, rfl, trivial, by rw [ht]; exact hP9, va_K.moved hW.alike hK, hD9⟩, hS.F ht⟩) hS.2.2 dX2_doLength_5
