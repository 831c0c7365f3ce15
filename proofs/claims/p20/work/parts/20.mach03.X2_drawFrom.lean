def v_X2_drawFrom : List Cond := .code yX2_drawFrom cX2_drawFrom 7 (some .int) :: ([.methodLink RX2 81 yX2_draw, .instanceMethod yX2_draw, .selects RX2 yX2_draw yX2_draw, .initialized RX2] ++ (v_X2_draw))
theorem im_X2_drawFrom_X2_draw : ∀ w ∈ v_X2_draw, w ∈ v_X2_drawFrom := fun _ h => List.mem_cons_of_mem _ (List.mem_append_right _ (h))
set_option maxRecDepth 20000 in
theorem gd_X2_drawFrom : gdL v_X2_drawFrom := gdC (gdW (by decide +kernel)) (gdA (gdW (by decide +kernel)) gd_X2_draw)
set_option maxRecDepth 20000 in
theorem h_X2_drawFrom_X2_draw_81 : GoodIn v_X2_drawFrom (wsV RX2 81 RX2 yX2_draw v_X2_draw) := gdI [1, 2, 3, 4] rfl (by decide +kernel) (im_X2_drawFrom_X2_draw) gd_X2_draw
abbrev sw_X2_drawFrom (cI cJ cZ : ClassId) (mh : Nat) (m_hasRun : Int32) (m_thrown : Int32) (m_thrownAt : Int32) (m_values : Value) (m_meant : Value) (m_lanes : Value) (m_lengths : Value) (m_cells : Value) (m_state : Int64) (loa : Int32) (hia : Int32) : va_W := [(mh, .inr (2, [.int m_hasRun, .int m_thrown, .int m_thrownAt, m_values, m_meant, m_lanes, m_lengths, m_cells, .long m_state]))]
set_option maxHeartbeats 8000000 in
set_option maxRecDepth 100000 in
theorem s_X2_drawFrom (l : Launch) (dC : Nat → ClassId) (dI : Nat → Nat → Nat) (cI cJ cZ : ClassId) (mh : Nat) (m_hasRun : Int32) (m_thrown : Int32) (m_thrownAt : Int32) (m_values : Value) (m_meant : Value) (m_lanes : Value) (m_lengths : Value) (m_cells : Value) (m_state : Int64) (loa : Int32) (hia : Int32) (sz : Nat) (q_m_hasRun : kZ m_hasRun) (hy_loa : VN loa) (hy_hia : VN hia) (hy_le : loa.toInt ≤ hia.toInt) : Met l yX2_drawFrom v_X2_drawFrom ({ frames := 1, cells := 0, slots := 0, locals := 22 }) (va_Pc [.ref mh, .int loa, .int hia] (cPre dC dI cI cJ cZ sz (sw_X2_drawFrom cI cJ cZ mh m_hasRun m_thrown m_thrownAt m_values m_meant m_lanes m_lengths m_cells m_state loa hia))) (va_Qi (fun (r : Int32) (u : Int64) => (loa.toInt ≤ r.toInt ∧ r.toInt ≤ hia.toInt)) (fun (u : Int64) => cPost dC dI cI cJ cZ (va_A (sw_X2_drawFrom cI cJ cZ mh m_hasRun m_thrown m_thrownAt m_values m_meant m_lanes m_lengths m_cells m_state loa hia) sz) [(mh, .inr (2, [.int m_hasRun, .int m_thrown, .int m_thrownAt, m_values, m_meant, m_lanes, m_lengths, m_cells, .long (u)]))]) (va_A (sw_X2_drawFrom cI cJ cZ mh m_hasRun m_thrown m_thrownAt m_values m_meant m_lanes m_lengths m_cells m_state loa hia) sz)) 0 0 (va_A (sw_X2_drawFrom cI cJ cZ mh m_hasRun m_thrown m_thrownAt m_values m_meant m_lanes m_lengths m_cells m_state loa hia) sz) := by
  refine Met.ofW (cc := cX2_drawFrom) (maxL := 7) (ret := (some .int)) (by decide) rfl ?_
  intro p e s m args below meth c s₁ B hml hv
  obtain ⟨rfl, hsz, hP, hK, hD0, hN⟩ := hv
  have hx := B.exec
  have hb := B.bytes
  have hr := B.returns
  have hts := atoms_spec (ws := v_X2_drawFrom) B.pre
  have hown : s.vm.findClass RX2 = some m.cls := findClass_of_methodNamed B.named
  have hlocks := B.notSynchronized
  subst hsz
  have hD := hD0.self (sz := s.heap.size)
  generalize hAe : va_A (sw_X2_drawFrom cI cJ cZ mh m_hasRun m_thrown m_thrownAt m_values m_meant m_lanes m_lengths m_cells m_state loa hia) s.heap.size = A at hD ⊢
  have hA : ∀ q : Nat, s.heap.size ≤ q → A q := fun q h => by rw [← hAe]; exact Or.inr h
  clear hAe hD0
  have hS : va_S A s.heap s.heap [] := va_S.rf
  replace hP : va_P (dC, dI) vwCl [(mh, .inr (2, [.int m_hasRun, .int m_thrown, .int m_thrownAt, m_values, m_meant, m_lanes, m_lengths, m_cells, .long m_state]))] s.heap := hP
  replace hD : va_D A [(mh, .inr (2, [.int m_hasRun, .int m_thrown, .int m_thrownAt, m_values, m_meant, m_lanes, m_lengths, m_cells, .long m_state]))] := hD
  have hl := lv_entry ([.ref mh, .int loa, .int hia]) (n := 7) (Nat.le_of_ble_eq_true rfl)
  rw [lg_entry_eq]
  generalize (lg_sl ([.ref mh, .int loa, .int hia]) ++ List.replicate (7 - (lg_sl ([.ref mh, .int loa, .int hia])).length) Slot.unset).toArray = ls at hl ⊢
  replace hl : lv_has ls 7 [(0, .ref mh), (1, .int loa), (2, .int hia)] := hl
  have z_0 : (0 : Int32).toInt = 0 := by decide
  have z_1 : (1 : Int32).toInt = 1 := by decide
  have zl_0 : (0 : Int64).toInt = 0 := by decide
  have zl_1 : (1 : Int64).toInt = 1 := by decide
  refine lv_iload_n hx hb dX2_drawFrom_0 rfl (lv_at hl 2 rfl) ?_
  refine sf_i2l hx hb dX2_drawFrom_1 (fun v_1 q_v_1 => ?_)
  refine lv_iload_n hx hb dX2_drawFrom_2 rfl (lv_at hl 1 rfl) ?_
  refine sf_i2l hx hb dX2_drawFrom_3 (fun v_2 q_v_2 => ?_)
  refine sf_lsub hx hb dX2_drawFrom_4 ⟨by omega, by omega⟩ (fun v_3 q_v_3 => ?_)
  refine lv_lconst (v := 1) hx hb dX2_drawFrom_5 (by decide) ?_
  refine sf_ladd hx hb dX2_drawFrom_6 ⟨by omega, by omega⟩ (fun v_4 q_v_4 => ?_)
  refine lv_lstore_n (lv' := [(3, .long v_4), (0, .ref mh), (1, .int loa), (2, .int hia)]) hx hb dX2_drawFrom_7 rfl hl (by decide) rfl (fun ls1 hl1 => ?_)
  replace hl := hl1; clear hl1
  refine lv_aload_n hx hb dX2_drawFrom_8 rfl (lv_at hl 1 rfl) ?_
  have hPc := hP.sub (ws' := [(mh, .inr (2, [.int m_hasRun, .int m_thrown, .int m_thrownAt, m_values, m_meant, m_lanes, m_lengths, m_cells, .long m_state]))]) [0] rfl
  have hDc := hD.sub (ws' := [(mh, .inr (2, [.int m_hasRun, .int m_thrown, .int m_thrownAt, m_values, m_meant, m_lanes, m_lengths, m_cells, .long m_state]))]) [0] (by decide) rfl
  have hFc := va_free (wc := [(mh, .inr (2, [.int m_hasRun, .int m_thrown, .int m_thrownAt, m_values, m_meant, m_lanes, m_lengths, m_cells, .long m_state]))]) hD hS hA [0] rfl
  refine va_calll (va_runV (As := []) (rest := []) ⟨hx, hb, hml, hown, hts⟩ (s_X2_draw l dC dI cI cJ cZ mh m_hasRun m_thrown m_thrownAt m_values m_meant m_lanes m_lengths m_cells m_state s.heap.size q_m_hasRun) (cwV 0 hts h_X2_drawFrom_X2_draw_81 rfl rfl rfl (by decide +kernel) ⟨Nat.le_of_ble_eq_true rfl, Nat.le_of_ble_eq_true rfl⟩) ⟨cPre_blind, va_recv hK hPc (ci := 2) (q0 := 0) rfl rfl, cPre_of hK hN hPc hDc⟩ rfl rfl hl.1 rfl (lv_room (Nat.le_of_ble_eq_true rfl)) dX2_drawFrom_9 ⟨Nat.le_of_ble_eq_true rfl, Nat.le_of_ble_eq_true rfl⟩) hS (fun q _ h => hFc q h) hFc (fun r_5 u_5 t_5 H_5 locs_5 ht hvm hw_5 hB hz1 hk1 hS1 => ?_)
  obtain ⟨v_6, rfl⟩ : ∃ z, z = u_5 := ⟨_, rfl⟩
  obtain ⟨hP1, hK1, hD1⟩ := hB
  rw [ht] at hP1
  obtain ⟨hP2, hD2⟩ := va_join (wr := []) (w1 := [(mh, .inr (2, [.int m_hasRun, .int m_thrown, .int m_thrownAt, m_values, m_meant, m_lanes, m_lengths, m_cells, .long v_6]))]) hP hD [0] [] rfl rfl (by decide) (by decide) hk1 hFc hP1 hD1
  clear hPc hDc hFc hP1 hD1 hK1 hk1 hz1 hvm ht
  replace hP : va_P (dC, dI) vwCl [(mh, .inr (2, [.int m_hasRun, .int m_thrown, .int m_thrownAt, m_values, m_meant, m_lanes, m_lengths, m_cells, .long v_6]))] H_5 := hP2
  replace hD : va_D A [(mh, .inr (2, [.int m_hasRun, .int m_thrown, .int m_thrownAt, m_values, m_meant, m_lanes, m_lengths, m_cells, .long v_6]))] := hD2
  replace hS := hS1
  clear hP2 hD2 hS1
  refine lv_bipush (v := 33) hx hb dX2_drawFrom_12 (by decide) ?_
  refine lv_lushr (v := _) hx hb dX2_drawFrom_14 rfl ?_
  refine lv_topl (fun v_7 e_v_7 => ?_)
  have qd_v_7 := ush33 e_v_7
  refine lv_lstore (lv' := [(5, .long v_7), (3, .long v_4), (0, .ref mh), (1, .int loa), (2, .int hia)]) hx hb dX2_drawFrom_15 hl (by decide) rfl (fun ls1 hl1 => ?_)
  replace hl := hl1; clear hl1
  refine lv_lload_n hx hb dX2_drawFrom_17 rfl (lv_at hl 1 rfl) ?_
  refine lv_lconst (v := 0) hx hb dX2_drawFrom_18 (by decide) ?_
  refine W.lcmp hx hb dX2_drawFrom_19 ?_
  refine lv_if_le (tgt := 34) hx hb dX2_drawFrom_20 (by decide) (fun c_8 => ?_) (fun c_8 => ?_)
  · -- yes
    have k_8 : v_4.toInt ≤ (0 : Int64).toInt := lc_le c_8
    refine lv_iload_n hx hb dX2_drawFrom_34 rfl (lv_at hl 3 rfl) ?_
    have hP9 := hP.sub (ws' := [(mh, .inr (2, [.int m_hasRun, .int m_thrown, .int m_thrownAt, m_values, m_meant, m_lanes, m_lengths, m_cells, .long v_6]))]) [0] rfl
    have hD9 := hD.sub (ws' := [(mh, .inr (2, [.int m_hasRun, .int m_thrown, .int m_thrownAt, m_values, m_meant, m_lanes, m_lengths, m_cells, .long v_6]))]) [0] (by decide) rfl
    exact W.iret (v := loa) hx hb hr (fun t ht hW => ⟨⟨loa, v_6, rfl, (show loa.toInt ≤ loa.toInt ∧ loa.toInt ≤ hia.toInt from (by first | assumption | omega)), by rw [ht]; exact hP9, va_K.moved hW.alike hK, hD9⟩, hS.F ht⟩) hS.2.2 dX2_drawFrom_35
  · -- no
    have k_8 : (0 : Int64).toInt < v_4.toInt := lc_nle c_8
    refine lv_iload_n hx hb dX2_drawFrom_23 rfl (lv_at hl 3 rfl) ?_
    refine sf_i2l hx hb dX2_drawFrom_24 (fun v_9 q_v_9 => ?_)
    refine lv_lload hx hb dX2_drawFrom_25 (lv_at hl 0 rfl) ?_
    refine lv_lload_n hx hb dX2_drawFrom_27 rfl (lv_at hl 1 rfl) ?_
    refine lv_lrem hx hb dX2_drawFrom_28 (l_ne0 (by omega)) ?_
    refine lv_topl (fun v_10 e_v_10 => ?_)
    have qd_v_10 := rem_bd e_v_10 (by omega) (by omega)
    refine sf_ladd hx hb dX2_drawFrom_29 ⟨by omega, by omega⟩ (fun v_11 q_v_11 => ?_)
    refine sf_l2i hx hb dX2_drawFrom_30 ⟨by omega, by omega⟩ (fun v_12 q_v_12 => ?_)
    refine lv_goto (tgt := 35) hx hb dX2_drawFrom_31 (by decide) ?_
    have hP9 := hP.sub (ws' := [(mh, .inr (2, [.int m_hasRun, .int m_thrown, .int m_thrownAt, m_values, m_meant, m_lanes, m_lengths, m_cells, .long v_6]))]) [0] rfl
    have hD9 := hD.sub (ws' := [(mh, .inr (2, [.int m_hasRun, .int m_thrown, .int m_thrownAt, m_values, m_meant, m_lanes, m_lengths, m_cells, .long v_6]))]) [0] (by decide) rfl
    exact W.iret (v := v_12) hx hb hr (fun t ht hW => ⟨⟨v_12, v_6, rfl, (show loa.toInt ≤ v_12.toInt ∧ v_12.toInt ≤ hia.toInt from (by first | assumption | omega)), by rw [ht]; exact hP9, va_K.moved hW.alike hK, hD9⟩, hS.F ht⟩) hS.2.2 dX2_drawFrom_35
