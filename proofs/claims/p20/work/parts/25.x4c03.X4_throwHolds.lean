def v_X4_throwHolds : List Cond := .code yX4_throwHolds cX4_throwHolds 2 (some .boolean) :: ([.fieldLink RX4 26 "ArraySegments" "machine" "LArraySegments$Machine;", .fieldLink RX4 153 "ArraySegments$Machine" "thrownAt" "I", .fieldLink RX4 10 "ArraySegments" "program" "LArraySegments$Program;", .methodLink RX4 51 yX3_hasAct, .instanceMethod yX3_hasAct, .selects RX3 yX3_hasAct yX3_hasAct, .initialized RX3, .fieldLink RX4 19 "ArraySegments" "flow" "LArraySegments$Flow;", .fieldLink RX4 63 "ArraySegments$Flow" "isReached" "[Z", .fieldLink RX4 66 "ArraySegments$Flow" "mayThrow" "[I", .fieldLink RX4 150 "ArraySegments$Machine" "thrown" "I"] ++ (wsX40 ++ (wsX20 ++ (wsX10 ++ (v_X3_hasAct)))))
theorem inv_X4_throwHolds_X4 : ∀ w ∈ wsX40, w ∈ v_X4_throwHolds := fun _ h => List.mem_cons_of_mem _ (List.mem_append_right _ (List.mem_append_left _ h))
theorem inv_X4_throwHolds_X2 : ∀ w ∈ wsX20, w ∈ v_X4_throwHolds := fun _ h => List.mem_cons_of_mem _ (List.mem_append_right _ (List.mem_append_right _ (List.mem_append_left _ h)))
theorem inv_X4_throwHolds_X1 : ∀ w ∈ wsX10, w ∈ v_X4_throwHolds := fun _ h => List.mem_cons_of_mem _ (List.mem_append_right _ (List.mem_append_right _ (List.mem_append_right _ (List.mem_append_left _ h))))
theorem im_X4_throwHolds_X3_hasAct : ∀ w ∈ v_X3_hasAct, w ∈ v_X4_throwHolds := fun _ h => List.mem_cons_of_mem _ (List.mem_append_right _ (List.mem_append_right _ (List.mem_append_right _ (List.mem_append_right _ (h)))))
set_option maxRecDepth 20000 in
theorem gd_X4_throwHolds : gdL v_X4_throwHolds := gdC (gdW (by decide +kernel)) (gdA (gdW (by decide +kernel)) (gdA gd_wsX40 (gdA gd_wsX20 (gdA gd_wsX10 gd_X3_hasAct))))
set_option maxRecDepth 20000 in
theorem h_X4_throwHolds_X3_hasAct_51 : GoodIn v_X4_throwHolds (wsV RX4 51 RX3 yX3_hasAct v_X3_hasAct) := gdI [4, 5, 6, 7] rfl (by decide +kernel) (im_X4_throwHolds_X3_hasAct) gd_X3_hasAct
abbrev sw_X4_throwHolds (cI cJ cZ : ClassId) (xh : Nat) (ph : Nat) (lh : Nat) (mh : Nat) (x_lastStatus : Int32) (fh : Nat) (l_ahead : Value) (l_isOld : Int32) (la_isReached : Nat) (la_mayThrow : Nat) (l_gatheredAny : Int32) (l_gatheredLeast : Int32) (l_gatheredGreatest : Int32) (lc_isReached : Nat → Int32) (lc_mayThrow : Nat → Int32) (m_hasRun : Int32) (m_thrown : Int32) (m_thrownAt : Int32) (m_values : Value) (m_meant : Value) (m_lanes : Value) (m_lengths : Value) (m_cells : Value) (m_state : Int64) (p_rows : Value) (p_dropped : Value) (p_count : Int32) : va_W := [(xh, .inr (4, [.ref ph, .ref lh, .ref mh, .int x_lastStatus])), (lh, .inr (1, [.ref fh, l_ahead, .int l_isOld, .ref la_isReached, .ref la_mayThrow, .int l_gatheredAny, .int l_gatheredLeast, .int l_gatheredGreatest])), (la_isReached, .inl (cZ, 40, .inl lc_isReached)), (la_mayThrow, .inl (cI, 40, .inl lc_mayThrow)), (mh, .inr (2, [.int m_hasRun, .int m_thrown, .int m_thrownAt, m_values, m_meant, m_lanes, m_lengths, m_cells, .long m_state])), (ph, .inr (3, [p_rows, p_dropped, .int p_count]))]
set_option maxHeartbeats 8000000 in
set_option maxRecDepth 100000 in
theorem s_X4_throwHolds (l : Launch) (dC : Nat → ClassId) (dI : Nat → Nat → Nat) (cI cJ cZ : ClassId) (xh : Nat) (ph : Nat) (lh : Nat) (mh : Nat) (x_lastStatus : Int32) (fh : Nat) (l_ahead : Value) (l_isOld : Int32) (la_isReached : Nat) (la_mayThrow : Nat) (l_gatheredAny : Int32) (l_gatheredLeast : Int32) (l_gatheredGreatest : Int32) (lc_isReached : Nat → Int32) (lc_mayThrow : Nat → Int32) (m_hasRun : Int32) (m_thrown : Int32) (m_thrownAt : Int32) (m_values : Value) (m_meant : Value) (m_lanes : Value) (m_lengths : Value) (m_cells : Value) (m_state : Int64) (p_rows : Value) (p_dropped : Value) (p_count : Int32) (sz : Nat) (q_l_isOld : kZ l_isOld) (q_l_gatheredAny : kZ l_gatheredAny) (h_lc_isReached : ∀ j : Nat, kZ (lc_isReached j)) (q_m_hasRun : kZ m_hasRun) (hy_count : 0 ≤ p_count.toInt ∧ p_count.toInt ≤ 40) (hy_h : 0 ≤ m_thrownAt.toInt ∧ m_thrownAt.toInt < p_count.toInt ∧ (1 ≤ m_thrown.toInt ∧ m_thrown.toInt ≤ 7) ∧ ¬ (lc_isReached (m_thrownAt).toNatClampNeg).toInt = 0 ∧ lbit (lc_mayThrow (m_thrownAt).toNatClampNeg) (m_thrown).toNatClampNeg) : Met l yX4_throwHolds v_X4_throwHolds ({ frames := 1, cells := 0, slots := 0, locals := 21 }) (va_Pc [.ref xh] (cPre dC dI cI cJ cZ sz (sw_X4_throwHolds cI cJ cZ xh ph lh mh x_lastStatus fh l_ahead l_isOld la_isReached la_mayThrow l_gatheredAny l_gatheredLeast l_gatheredGreatest lc_isReached lc_mayThrow m_hasRun m_thrown m_thrownAt m_values m_meant m_lanes m_lengths m_cells m_state p_rows p_dropped p_count))) (va_Qi (fun (r : Int32) (u : Unit) => (kZ r) ∧ (¬ r.toInt = 0)) (fun (u : Unit) => cPost dC dI cI cJ cZ (va_A (sw_X4_throwHolds cI cJ cZ xh ph lh mh x_lastStatus fh l_ahead l_isOld la_isReached la_mayThrow l_gatheredAny l_gatheredLeast l_gatheredGreatest lc_isReached lc_mayThrow m_hasRun m_thrown m_thrownAt m_values m_meant m_lanes m_lengths m_cells m_state p_rows p_dropped p_count) sz) [(xh, .inr (4, [.ref ph, .ref lh, .ref mh, .int x_lastStatus])), (lh, .inr (1, [.ref fh, l_ahead, .int l_isOld, .ref la_isReached, .ref la_mayThrow, .int l_gatheredAny, .int l_gatheredLeast, .int l_gatheredGreatest])), (la_isReached, .inl (cZ, 40, .inl lc_isReached)), (la_mayThrow, .inl (cI, 40, .inl lc_mayThrow)), (mh, .inr (2, [.int m_hasRun, .int m_thrown, .int m_thrownAt, m_values, m_meant, m_lanes, m_lengths, m_cells, .long m_state])), (ph, .inr (3, [p_rows, p_dropped, .int p_count]))]) (va_A (sw_X4_throwHolds cI cJ cZ xh ph lh mh x_lastStatus fh l_ahead l_isOld la_isReached la_mayThrow l_gatheredAny l_gatheredLeast l_gatheredGreatest lc_isReached lc_mayThrow m_hasRun m_thrown m_thrownAt m_values m_meant m_lanes m_lengths m_cells m_state p_rows p_dropped p_count) sz)) 0 0 (va_A (sw_X4_throwHolds cI cJ cZ xh ph lh mh x_lastStatus fh l_ahead l_isOld la_isReached la_mayThrow l_gatheredAny l_gatheredLeast l_gatheredGreatest lc_isReached lc_mayThrow m_hasRun m_thrown m_thrownAt m_values m_meant m_lanes m_lengths m_cells m_state p_rows p_dropped p_count) sz) := by
  refine Met.ofW (cc := cX4_throwHolds) (maxL := 2) (ret := (some .boolean)) (by decide) rfl ?_
  intro p e s m args below meth c s₁ B hml hv
  obtain ⟨rfl, hsz, hP, hK, hD0, hN⟩ := hv
  have hx := B.exec
  have hb := B.bytes
  have hr := B.returns
  have hts := atoms_spec (ws := v_X4_throwHolds) B.pre
  have hown : s.vm.findClass RX4 = some m.cls := findClass_of_methodNamed B.named
  have hlocks := B.notSynchronized
  subst hsz
  have hD := hD0.self (sz := s.heap.size)
  generalize hAe : va_A (sw_X4_throwHolds cI cJ cZ xh ph lh mh x_lastStatus fh l_ahead l_isOld la_isReached la_mayThrow l_gatheredAny l_gatheredLeast l_gatheredGreatest lc_isReached lc_mayThrow m_hasRun m_thrown m_thrownAt m_values m_meant m_lanes m_lengths m_cells m_state p_rows p_dropped p_count) s.heap.size = A at hD ⊢
  have hA : ∀ q : Nat, s.heap.size ≤ q → A q := fun q h => by rw [← hAe]; exact Or.inr h
  clear hAe hD0
  have hS : va_S A s.heap s.heap [] := va_S.rf
  replace hP : va_P (dC, dI) vwCl [(xh, .inr (4, [.ref ph, .ref lh, .ref mh, .int x_lastStatus])), (lh, .inr (1, [.ref fh, l_ahead, .int l_isOld, .ref la_isReached, .ref la_mayThrow, .int l_gatheredAny, .int l_gatheredLeast, .int l_gatheredGreatest])), (la_isReached, .inl (cZ, 40, .inl lc_isReached)), (la_mayThrow, .inl (cI, 40, .inl lc_mayThrow)), (mh, .inr (2, [.int m_hasRun, .int m_thrown, .int m_thrownAt, m_values, m_meant, m_lanes, m_lengths, m_cells, .long m_state])), (ph, .inr (3, [p_rows, p_dropped, .int p_count]))] s.heap := hP
  replace hD : va_D A [(xh, .inr (4, [.ref ph, .ref lh, .ref mh, .int x_lastStatus])), (lh, .inr (1, [.ref fh, l_ahead, .int l_isOld, .ref la_isReached, .ref la_mayThrow, .int l_gatheredAny, .int l_gatheredLeast, .int l_gatheredGreatest])), (la_isReached, .inl (cZ, 40, .inl lc_isReached)), (la_mayThrow, .inl (cI, 40, .inl lc_mayThrow)), (mh, .inr (2, [.int m_hasRun, .int m_thrown, .int m_thrownAt, m_values, m_meant, m_lanes, m_lengths, m_cells, .long m_state])), (ph, .inr (3, [p_rows, p_dropped, .int p_count]))] := hD
  have hl := lv_entry ([.ref xh]) (n := 2) (Nat.le_of_ble_eq_true rfl)
  rw [lg_entry_eq]
  generalize (lg_sl ([.ref xh]) ++ List.replicate (2 - (lg_sl ([.ref xh])).length) Slot.unset).toArray = ls at hl ⊢
  replace hl : lv_has ls 2 [(0, .ref xh)] := hl
  have z_0 : (0 : Int32).toInt = 0 := by decide
  have z_1 : (1 : Int32).toInt = 1 := by decide
  refine lv_aload_n hx hb dX4_throwHolds_0 rfl (lv_at hl 0 rfl) ?_
  refine va_get (D := (dC, dI)) (ci := 4) (v := .ref mh) (C := RX4) (T := TX4) (N := 4) hx hb hts inv_X4_throwHolds_X4 hown hK hP 0 rfl rfl 2 (by decide) (hts (.fieldLink RX4 26 "ArraySegments" "machine" "LArraySegments$Machine;") (List.mem_of_getElem? (i := 1) rfl)) (fun _ h9 => h9) rfl dX4_throwHolds_1 ?_
  refine va_get (D := (dC, dI)) (ci := 2) (v := .int m_thrownAt) (C := RX2) (T := TX2) (N := 9) hx hb hts inv_X4_throwHolds_X2 hown hK hP 4 rfl rfl 2 (by decide) (hts (.fieldLink RX4 153 "ArraySegments$Machine" "thrownAt" "I") (List.mem_of_getElem? (i := 2) rfl)) (fun _ h9 => h9) rfl dX4_throwHolds_4 ?_
  refine lv_istore_n (lv' := [(1, .int m_thrownAt), (0, .ref xh)]) hx hb dX4_throwHolds_7 rfl hl (by decide) rfl (fun ls1 hl1 => ?_)
  replace hl := hl1; clear hl1
  refine lv_aload_n hx hb dX4_throwHolds_8 rfl (lv_at hl 1 rfl) ?_
  refine va_get (D := (dC, dI)) (ci := 4) (v := .ref ph) (C := RX4) (T := TX4) (N := 4) hx hb hts inv_X4_throwHolds_X4 hown hK hP 0 rfl rfl 0 (by decide) (hts (.fieldLink RX4 10 "ArraySegments" "program" "LArraySegments$Program;") (List.mem_of_getElem? (i := 3) rfl)) (fun _ h9 => h9) rfl dX4_throwHolds_9 ?_
  refine lv_iload_n hx hb dX4_throwHolds_12 rfl (lv_at hl 0 rfl) ?_
  have hPc := hP.sub (ws' := [(ph, .inr (3, [p_rows, p_dropped, .int p_count]))]) [5] rfl
  have hDc := hD.sub (ws' := [(ph, .inr (3, [p_rows, p_dropped, .int p_count]))]) [5] (by decide) rfl
  have hFc := va_free (wc := [(ph, .inr (3, [p_rows, p_dropped, .int p_count]))]) hD hS hA [5] rfl
  refine va_calli (va_runV (As := [.int m_thrownAt]) (rest := []) ⟨hx, hb, hml, hown, hts⟩ (s_X3_hasAct l dC dI cI cJ cZ ph p_rows p_dropped p_count m_thrownAt s.heap.size (by first | assumption | omega)) (cwV 1 hts h_X4_throwHolds_X3_hasAct_51 rfl rfl rfl (by decide +kernel) ⟨Nat.le_of_ble_eq_true rfl, Nat.le_of_ble_eq_true rfl⟩) ⟨cPre_blind, va_recv hK hPc (ci := 3) (q0 := 0) rfl rfl, cPre_of hK hN hPc hDc⟩ rfl rfl hl.1 rfl (lv_room (Nat.le_of_ble_eq_true rfl)) dX4_throwHolds_13 ⟨Nat.le_of_ble_eq_true rfl, Nat.le_of_ble_eq_true rfl⟩) hS (fun q _ h => hFc q h) hFc (fun r_1 u_1 t_1 H_1 locs_1 ht hvm hw_1 hB hz1 hk1 hS1 => ?_)
  obtain ⟨hP1, hK1, hD1⟩ := hB
  rw [ht] at hP1
  obtain ⟨hP2, hD2⟩ := va_join (wr := [(xh, .inr (4, [.ref ph, .ref lh, .ref mh, .int x_lastStatus])), (lh, .inr (1, [.ref fh, l_ahead, .int l_isOld, .ref la_isReached, .ref la_mayThrow, .int l_gatheredAny, .int l_gatheredLeast, .int l_gatheredGreatest])), (la_isReached, .inl (cZ, 40, .inl lc_isReached)), (la_mayThrow, .inl (cI, 40, .inl lc_mayThrow)), (mh, .inr (2, [.int m_hasRun, .int m_thrown, .int m_thrownAt, m_values, m_meant, m_lanes, m_lengths, m_cells, .long m_state]))]) (w1 := [(ph, .inr (3, [p_rows, p_dropped, .int p_count]))]) hP hD [5] [0, 1, 2, 3, 4] rfl rfl (by decide) (by decide) hk1 hFc hP1 hD1
  clear hPc hDc hFc hP1 hD1 hK1 hk1 hz1 hvm ht
  replace hP : va_P (dC, dI) vwCl [(xh, .inr (4, [.ref ph, .ref lh, .ref mh, .int x_lastStatus])), (lh, .inr (1, [.ref fh, l_ahead, .int l_isOld, .ref la_isReached, .ref la_mayThrow, .int l_gatheredAny, .int l_gatheredLeast, .int l_gatheredGreatest])), (la_isReached, .inl (cZ, 40, .inl lc_isReached)), (la_mayThrow, .inl (cI, 40, .inl lc_mayThrow)), (mh, .inr (2, [.int m_hasRun, .int m_thrown, .int m_thrownAt, m_values, m_meant, m_lanes, m_lengths, m_cells, .long m_state])), (ph, .inr (3, [p_rows, p_dropped, .int p_count]))] H_1 := hP2
  replace hD : va_D A [(xh, .inr (4, [.ref ph, .ref lh, .ref mh, .int x_lastStatus])), (lh, .inr (1, [.ref fh, l_ahead, .int l_isOld, .ref la_isReached, .ref la_mayThrow, .int l_gatheredAny, .int l_gatheredLeast, .int l_gatheredGreatest])), (la_isReached, .inl (cZ, 40, .inl lc_isReached)), (la_mayThrow, .inl (cI, 40, .inl lc_mayThrow)), (mh, .inr (2, [.int m_hasRun, .int m_thrown, .int m_thrownAt, m_values, m_meant, m_lanes, m_lengths, m_cells, .long m_state])), (ph, .inr (3, [p_rows, p_dropped, .int p_count]))] := hD2
  replace hS := hS1
  clear hP2 hD2 hS1
  replace hw_1 : (two r_1 (0 ≤ m_thrownAt.toInt ∧ m_thrownAt.toInt < p_count.toInt) 1 0) := hw_1
  have q_r_1 := hw_1
  refine lv_if_eq (tgt := 58) hx hb dX4_throwHolds_16 (by decide) (fun c_2 => ?_) (fun c_2 => ?_)
  · -- yes
    have k_2 : r_1.toInt = (0 : Int32).toInt := ci_eq c_2
    have kt_2 : ¬ (0 ≤ m_thrownAt.toInt ∧ m_thrownAt.toInt < p_count.toInt) := two_z q_r_1 c_2
    refine lv_iconst (v := 0) hx hb dX4_throwHolds_58 (by decide) ?_
    have hP9 := hP.sub (ws' := [(xh, .inr (4, [.ref ph, .ref lh, .ref mh, .int x_lastStatus])), (lh, .inr (1, [.ref fh, l_ahead, .int l_isOld, .ref la_isReached, .ref la_mayThrow, .int l_gatheredAny, .int l_gatheredLeast, .int l_gatheredGreatest])), (la_isReached, .inl (cZ, 40, .inl lc_isReached)), (la_mayThrow, .inl (cI, 40, .inl lc_mayThrow)), (mh, .inr (2, [.int m_hasRun, .int m_thrown, .int m_thrownAt, m_values, m_meant, m_lanes, m_lengths, m_cells, .long m_state])), (ph, .inr (3, [p_rows, p_dropped, .int p_count]))]) [0, 1, 2, 3, 4, 5] rfl
    have hD9 := hD.sub (ws' := [(xh, .inr (4, [.ref ph, .ref lh, .ref mh, .int x_lastStatus])), (lh, .inr (1, [.ref fh, l_ahead, .int l_isOld, .ref la_isReached, .ref la_mayThrow, .int l_gatheredAny, .int l_gatheredLeast, .int l_gatheredGreatest])), (la_isReached, .inl (cZ, 40, .inl lc_isReached)), (la_mayThrow, .inl (cI, 40, .inl lc_mayThrow)), (mh, .inr (2, [.int m_hasRun, .int m_thrown, .int m_thrownAt, m_values, m_meant, m_lanes, m_lengths, m_cells, .long m_state])), (ph, .inr (3, [p_rows, p_dropped, .int p_count]))]) [0, 1, 2, 3, 4, 5] (by decide) rfl
    exact W.zret (v := 0) (ty := .boolean) hx hb hr rfl (fun t ht hW => ⟨⟨0, (), rfl, ⟨(show kZ (0 : Int32) from (by decide)), (show ¬ (0 : Int32).toInt = 0 from (by omega))⟩, by rw [ht]; exact hP9, va_K.moved hW.alike hK, hD9⟩, hS.F ht⟩) hS.2.2 dX4_throwHolds_59
  · -- no
    have k_2 : ¬ r_1.toInt = (0 : Int32).toInt := ci_ne c_2
    have kt_2 : 0 ≤ m_thrownAt.toInt ∧ m_thrownAt.toInt < p_count.toInt := two_nz q_r_1 c_2
    refine lv_aload_n hx hb dX4_throwHolds_19 rfl (lv_at hl 1 rfl) ?_
    refine va_get (D := (dC, dI)) (ci := 4) (v := .ref lh) (C := RX4) (T := TX4) (N := 4) hx hb hts inv_X4_throwHolds_X4 hown hK hP 0 rfl rfl 1 (by decide) (hts (.fieldLink RX4 19 "ArraySegments" "flow" "LArraySegments$Flow;") (List.mem_of_getElem? (i := 8) rfl)) (fun _ h9 => h9) rfl dX4_throwHolds_20 ?_
    refine va_get (D := (dC, dI)) (ci := 1) (v := .ref la_isReached) (C := RX1) (T := TX1) (N := 8) hx hb hts inv_X4_throwHolds_X1 hown hK hP 1 rfl rfl 3 (by decide) (hts (.fieldLink RX4 63 "ArraySegments$Flow" "isReached" "[Z") (List.mem_of_getElem? (i := 9) rfl)) (fun _ h9 => h9) rfl dX4_throwHolds_23 ?_
    refine lv_iload_n hx hb dX4_throwHolds_26 rfl (lv_at hl 0 rfl) ?_
    refine sf_zald kZ hx hb hK hP 2 2 rfl rfl h_lc_isReached (vp_in_iff.mpr ⟨by omega, by omega⟩) dX4_throwHolds_27 (fun v_3 q_v_3 e_v_3 => ?_)
    have et_v_3 : v_3.toInt = (lc_isReached (m_thrownAt).toNatClampNeg).toInt := by rw [e_v_3]
    have ni_4 := nn_cl (z := m_thrownAt) (by omega)
    have qi_v_3 := kz_to q_v_3
    refine lv_if_eq (tgt := 58) hx hb dX4_throwHolds_28 (by decide) (fun c_5 => ?_) (fun c_5 => ?_)
    · -- yes
      have k_5 : v_3.toInt = (0 : Int32).toInt := ci_eq c_5
      refine lv_iconst (v := 0) hx hb dX4_throwHolds_58 (by decide) ?_
      have hP9 := hP.sub (ws' := [(xh, .inr (4, [.ref ph, .ref lh, .ref mh, .int x_lastStatus])), (lh, .inr (1, [.ref fh, l_ahead, .int l_isOld, .ref la_isReached, .ref la_mayThrow, .int l_gatheredAny, .int l_gatheredLeast, .int l_gatheredGreatest])), (la_isReached, .inl (cZ, 40, .inl lc_isReached)), (la_mayThrow, .inl (cI, 40, .inl lc_mayThrow)), (mh, .inr (2, [.int m_hasRun, .int m_thrown, .int m_thrownAt, m_values, m_meant, m_lanes, m_lengths, m_cells, .long m_state])), (ph, .inr (3, [p_rows, p_dropped, .int p_count]))]) [0, 1, 2, 3, 4, 5] rfl
      have hD9 := hD.sub (ws' := [(xh, .inr (4, [.ref ph, .ref lh, .ref mh, .int x_lastStatus])), (lh, .inr (1, [.ref fh, l_ahead, .int l_isOld, .ref la_isReached, .ref la_mayThrow, .int l_gatheredAny, .int l_gatheredLeast, .int l_gatheredGreatest])), (la_isReached, .inl (cZ, 40, .inl lc_isReached)), (la_mayThrow, .inl (cI, 40, .inl lc_mayThrow)), (mh, .inr (2, [.int m_hasRun, .int m_thrown, .int m_thrownAt, m_values, m_meant, m_lanes, m_lengths, m_cells, .long m_state])), (ph, .inr (3, [p_rows, p_dropped, .int p_count]))]) [0, 1, 2, 3, 4, 5] (by decide) rfl
      exact W.zret (v := 0) (ty := .boolean) hx hb hr rfl (fun t ht hW => ⟨⟨0, (), rfl, ⟨(show kZ (0 : Int32) from (by decide)), (show ¬ (0 : Int32).toInt = 0 from (by omega))⟩, by rw [ht]; exact hP9, va_K.moved hW.alike hK, hD9⟩, hS.F ht⟩) hS.2.2 dX4_throwHolds_59
    · -- no
      have k_5 : ¬ v_3.toInt = (0 : Int32).toInt := ci_ne c_5
      refine lv_aload_n hx hb dX4_throwHolds_31 rfl (lv_at hl 1 rfl) ?_
      refine va_get (D := (dC, dI)) (ci := 4) (v := .ref lh) (C := RX4) (T := TX4) (N := 4) hx hb hts inv_X4_throwHolds_X4 hown hK hP 0 rfl rfl 1 (by decide) (hts (.fieldLink RX4 19 "ArraySegments" "flow" "LArraySegments$Flow;") (List.mem_of_getElem? (i := 8) rfl)) (fun _ h9 => h9) rfl dX4_throwHolds_32 ?_
      refine va_get (D := (dC, dI)) (ci := 1) (v := .ref la_mayThrow) (C := RX1) (T := TX1) (N := 8) hx hb hts inv_X4_throwHolds_X1 hown hK hP 1 rfl rfl 4 (by decide) (hts (.fieldLink RX4 66 "ArraySegments$Flow" "mayThrow" "[I") (List.mem_of_getElem? (i := 10) rfl)) (fun _ h9 => h9) rfl dX4_throwHolds_35 ?_
      refine lv_iload_n hx hb dX4_throwHolds_38 rfl (lv_at hl 0 rfl) ?_
      refine sf_iald kT hx hb hK hP 3 0 rfl rfl (fun _ => trivial) (vp_in_iff.mpr ⟨by omega, by omega⟩) dX4_throwHolds_39 (fun v_6 q_v_6 e_v_6 => ?_)
      have et_v_6 : v_6.toInt = (lc_mayThrow (m_thrownAt).toNatClampNeg).toInt := by rw [e_v_6]
      have ni_7 := nn_cl (z := m_thrownAt) (by omega)
      have ir_v_6 := i32r v_6
      refine lv_aload_n hx hb dX4_throwHolds_40 rfl (lv_at hl 1 rfl) ?_
      refine va_get (D := (dC, dI)) (ci := 4) (v := .ref mh) (C := RX4) (T := TX4) (N := 4) hx hb hts inv_X4_throwHolds_X4 hown hK hP 0 rfl rfl 2 (by decide) (hts (.fieldLink RX4 26 "ArraySegments" "machine" "LArraySegments$Machine;") (List.mem_of_getElem? (i := 1) rfl)) (fun _ h9 => h9) rfl dX4_throwHolds_41 ?_
      refine va_get (D := (dC, dI)) (ci := 2) (v := .int m_thrown) (C := RX2) (T := TX2) (N := 9) hx hb hts inv_X4_throwHolds_X2 hown hK hP 4 rfl rfl 1 (by decide) (hts (.fieldLink RX4 150 "ArraySegments$Machine" "thrown" "I") (List.mem_of_getElem? (i := 11) rfl)) (fun _ h9 => h9) rfl dX4_throwHolds_44 ?_
      refine lv_iushr (v := _) hx hb dX4_throwHolds_47 rfl ?_
      refine lv_topi (fun v_8 e_v_8 => ?_)
      refine lv_iconst (v := 1) hx hb dX4_throwHolds_48 (by decide) ?_
      refine lv_iand hx hb dX4_throwHolds_49 ?_
      refine lv_topi (fun v_9 e_v_9 => ?_)
      refine lv_iconst (v := 1) hx hb dX4_throwHolds_50 (by decide) ?_
      refine lv_icmp_ne (tgt := 58) hx hb dX4_throwHolds_51 (by decide) (fun c_10 => ?_) (fun c_10 => ?_)
      · -- yes
        have k_10 : ¬ v_9.toInt = (1 : Int32).toInt := ci_ne c_10
        refine lv_iconst (v := 0) hx hb dX4_throwHolds_58 (by decide) ?_
        have hP9 := hP.sub (ws' := [(xh, .inr (4, [.ref ph, .ref lh, .ref mh, .int x_lastStatus])), (lh, .inr (1, [.ref fh, l_ahead, .int l_isOld, .ref la_isReached, .ref la_mayThrow, .int l_gatheredAny, .int l_gatheredLeast, .int l_gatheredGreatest])), (la_isReached, .inl (cZ, 40, .inl lc_isReached)), (la_mayThrow, .inl (cI, 40, .inl lc_mayThrow)), (mh, .inr (2, [.int m_hasRun, .int m_thrown, .int m_thrownAt, m_values, m_meant, m_lanes, m_lengths, m_cells, .long m_state])), (ph, .inr (3, [p_rows, p_dropped, .int p_count]))]) [0, 1, 2, 3, 4, 5] rfl
        have hD9 := hD.sub (ws' := [(xh, .inr (4, [.ref ph, .ref lh, .ref mh, .int x_lastStatus])), (lh, .inr (1, [.ref fh, l_ahead, .int l_isOld, .ref la_isReached, .ref la_mayThrow, .int l_gatheredAny, .int l_gatheredLeast, .int l_gatheredGreatest])), (la_isReached, .inl (cZ, 40, .inl lc_isReached)), (la_mayThrow, .inl (cI, 40, .inl lc_mayThrow)), (mh, .inr (2, [.int m_hasRun, .int m_thrown, .int m_thrownAt, m_values, m_meant, m_lanes, m_lengths, m_cells, .long m_state])), (ph, .inr (3, [p_rows, p_dropped, .int p_count]))]) [0, 1, 2, 3, 4, 5] (by decide) rfl
        exact W.zret (v := 0) (ty := .boolean) hx hb hr rfl (fun t ht hW => ⟨⟨0, (), rfl, ⟨(show kZ (0 : Int32) from (by decide)), (show ¬ (0 : Int32).toInt = 0 from (by have b0 := lb_ushr (x := v_6) (l := m_thrown) ⟨by omega, by omega⟩ e_v_8 e_v_9; rw [e_v_6] at b0; rcases b0 with h | h; (· exfalso; omega); (· exact absurd hy_h.2.2.2.2 h.2)))⟩, by rw [ht]; exact hP9, va_K.moved hW.alike hK, hD9⟩, hS.F ht⟩) hS.2.2 dX4_throwHolds_59
      · -- no
        have k_10 : v_9.toInt = (1 : Int32).toInt := ci_eq c_10
        refine lv_iconst (v := 1) hx hb dX4_throwHolds_54 (by decide) ?_
        refine lv_goto (tgt := 59) hx hb dX4_throwHolds_55 (by decide) ?_
        have hP9 := hP.sub (ws' := [(xh, .inr (4, [.ref ph, .ref lh, .ref mh, .int x_lastStatus])), (lh, .inr (1, [.ref fh, l_ahead, .int l_isOld, .ref la_isReached, .ref la_mayThrow, .int l_gatheredAny, .int l_gatheredLeast, .int l_gatheredGreatest])), (la_isReached, .inl (cZ, 40, .inl lc_isReached)), (la_mayThrow, .inl (cI, 40, .inl lc_mayThrow)), (mh, .inr (2, [.int m_hasRun, .int m_thrown, .int m_thrownAt, m_values, m_meant, m_lanes, m_lengths, m_cells, .long m_state])), (ph, .inr (3, [p_rows, p_dropped, .int p_count]))]) [0, 1, 2, 3, 4, 5] rfl
        have hD9 := hD.sub (ws' := [(xh, .inr (4, [.ref ph, .ref lh, .ref mh, .int x_lastStatus])), (lh, .inr (1, [.ref fh, l_ahead, .int l_isOld, .ref la_isReached, .ref la_mayThrow, .int l_gatheredAny, .int l_gatheredLeast, .int l_gatheredGreatest])), (la_isReached, .inl (cZ, 40, .inl lc_isReached)), (la_mayThrow, .inl (cI, 40, .inl lc_mayThrow)), (mh, .inr (2, [.int m_hasRun, .int m_thrown, .int m_thrownAt, m_values, m_meant, m_lanes, m_lengths, m_cells, .long m_state])), (ph, .inr (3, [p_rows, p_dropped, .int p_count]))]) [0, 1, 2, 3, 4, 5] (by decide) rfl
        exact W.zret (v := 1) (ty := .boolean) hx hb hr rfl (fun t ht hW => ⟨⟨1, (), rfl, ⟨(show kZ (1 : Int32) from (by decide)), (show ¬ (1 : Int32).toInt = 0 from (by decide))⟩, by rw [ht]; exact hP9, va_K.moved hW.alike hK, hD9⟩, hS.F ht⟩) hS.2.2 dX4_throwHolds_59
