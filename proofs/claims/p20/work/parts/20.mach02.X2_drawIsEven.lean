def v_X2_drawIsEven : List Cond := .code yX2_drawIsEven cX2_drawIsEven 1 (some .boolean) :: ([.methodLink RX2 81 yX2_draw, .instanceMethod yX2_draw, .selects RX2 yX2_draw yX2_draw, .initialized RX2] ++ (v_X2_draw))
theorem im_X2_drawIsEven_X2_draw : ∀ w ∈ v_X2_draw, w ∈ v_X2_drawIsEven := fun _ h => List.mem_cons_of_mem _ (List.mem_append_right _ (h))
set_option maxRecDepth 20000 in
theorem gd_X2_drawIsEven : gdL v_X2_drawIsEven := gdC (gdW (by decide +kernel)) (gdA (gdW (by decide +kernel)) gd_X2_draw)
set_option maxRecDepth 20000 in
theorem h_X2_drawIsEven_X2_draw_81 : GoodIn v_X2_drawIsEven (wsV RX2 81 RX2 yX2_draw v_X2_draw) := gdI [1, 2, 3, 4] rfl (by decide +kernel) (im_X2_drawIsEven_X2_draw) gd_X2_draw
abbrev sw_X2_drawIsEven (cI cJ cZ : ClassId) (mh : Nat) (m_hasRun : Int32) (m_thrown : Int32) (m_thrownAt : Int32) (m_values : Value) (m_meant : Value) (m_lanes : Value) (m_lengths : Value) (m_cells : Value) (m_state : Int64) : va_W := [(mh, .inr (2, [.int m_hasRun, .int m_thrown, .int m_thrownAt, m_values, m_meant, m_lanes, m_lengths, m_cells, .long m_state]))]
set_option maxHeartbeats 8000000 in
set_option maxRecDepth 100000 in
theorem s_X2_drawIsEven (l : Launch) (dC : Nat → ClassId) (dI : Nat → Nat → Nat) (cI cJ cZ : ClassId) (mh : Nat) (m_hasRun : Int32) (m_thrown : Int32) (m_thrownAt : Int32) (m_values : Value) (m_meant : Value) (m_lanes : Value) (m_lengths : Value) (m_cells : Value) (m_state : Int64) (sz : Nat) (q_m_hasRun : kZ m_hasRun) : Met l yX2_drawIsEven v_X2_drawIsEven ({ frames := 1, cells := 0, slots := 0, locals := 22 }) (va_Pc [.ref mh] (cPre dC dI cI cJ cZ sz (sw_X2_drawIsEven cI cJ cZ mh m_hasRun m_thrown m_thrownAt m_values m_meant m_lanes m_lengths m_cells m_state))) (va_Qi (fun (r : Int32) (u : Int64) => (kZ r)) (fun (u : Int64) => cPost dC dI cI cJ cZ (va_A (sw_X2_drawIsEven cI cJ cZ mh m_hasRun m_thrown m_thrownAt m_values m_meant m_lanes m_lengths m_cells m_state) sz) [(mh, .inr (2, [.int m_hasRun, .int m_thrown, .int m_thrownAt, m_values, m_meant, m_lanes, m_lengths, m_cells, .long (u)]))]) (va_A (sw_X2_drawIsEven cI cJ cZ mh m_hasRun m_thrown m_thrownAt m_values m_meant m_lanes m_lengths m_cells m_state) sz)) 0 0 (va_A (sw_X2_drawIsEven cI cJ cZ mh m_hasRun m_thrown m_thrownAt m_values m_meant m_lanes m_lengths m_cells m_state) sz) := by
  refine Met.ofW (cc := cX2_drawIsEven) (maxL := 1) (ret := (some .boolean)) (by decide) rfl ?_
  intro p e s m args below meth c s₁ B hml hv
  obtain ⟨rfl, hsz, hP, hK, hD0, hN⟩ := hv
  have hx := B.exec
  have hb := B.bytes
  have hr := B.returns
  have hts := atoms_spec (ws := v_X2_drawIsEven) B.pre
  have hown : s.vm.findClass RX2 = some m.cls := findClass_of_methodNamed B.named
  have hlocks := B.notSynchronized
  subst hsz
  have hD := hD0.self (sz := s.heap.size)
  generalize hAe : va_A (sw_X2_drawIsEven cI cJ cZ mh m_hasRun m_thrown m_thrownAt m_values m_meant m_lanes m_lengths m_cells m_state) s.heap.size = A at hD ⊢
  have hA : ∀ q : Nat, s.heap.size ≤ q → A q := fun q h => by rw [← hAe]; exact Or.inr h
  clear hAe hD0
  have hS : va_S A s.heap s.heap [] := va_S.rf
  replace hP : va_P (dC, dI) vwCl [(mh, .inr (2, [.int m_hasRun, .int m_thrown, .int m_thrownAt, m_values, m_meant, m_lanes, m_lengths, m_cells, .long m_state]))] s.heap := hP
  replace hD : va_D A [(mh, .inr (2, [.int m_hasRun, .int m_thrown, .int m_thrownAt, m_values, m_meant, m_lanes, m_lengths, m_cells, .long m_state]))] := hD
  have hl := lv_entry ([.ref mh]) (n := 1) (Nat.le_of_ble_eq_true rfl)
  rw [lg_entry_eq]
  generalize (lg_sl ([.ref mh]) ++ List.replicate (1 - (lg_sl ([.ref mh])).length) Slot.unset).toArray = ls at hl ⊢
  replace hl : lv_has ls 1 [(0, .ref mh)] := hl
  have z_0 : (0 : Int32).toInt = 0 := by decide
  have z_1 : (1 : Int32).toInt = 1 := by decide
  have zl_0 : (0 : Int64).toInt = 0 := by decide
  refine lv_aload_n hx hb dX2_drawIsEven_0 rfl (lv_at hl 0 rfl) ?_
  have hPc := hP.sub (ws' := [(mh, .inr (2, [.int m_hasRun, .int m_thrown, .int m_thrownAt, m_values, m_meant, m_lanes, m_lengths, m_cells, .long m_state]))]) [0] rfl
  have hDc := hD.sub (ws' := [(mh, .inr (2, [.int m_hasRun, .int m_thrown, .int m_thrownAt, m_values, m_meant, m_lanes, m_lengths, m_cells, .long m_state]))]) [0] (by decide) rfl
  have hFc := va_free (wc := [(mh, .inr (2, [.int m_hasRun, .int m_thrown, .int m_thrownAt, m_values, m_meant, m_lanes, m_lengths, m_cells, .long m_state]))]) hD hS hA [0] rfl
  refine va_calll (va_runV (As := []) (rest := []) ⟨hx, hb, hml, hown, hts⟩ (s_X2_draw l dC dI cI cJ cZ mh m_hasRun m_thrown m_thrownAt m_values m_meant m_lanes m_lengths m_cells m_state s.heap.size q_m_hasRun) (cwV 0 hts h_X2_drawIsEven_X2_draw_81 rfl rfl rfl (by decide +kernel) ⟨Nat.le_of_ble_eq_true rfl, Nat.le_of_ble_eq_true rfl⟩) ⟨cPre_blind, va_recv hK hPc (ci := 2) (q0 := 0) rfl rfl, cPre_of hK hN hPc hDc⟩ rfl rfl hl.1 rfl (lv_room (Nat.le_of_ble_eq_true rfl)) dX2_drawIsEven_1 ⟨Nat.le_of_ble_eq_true rfl, Nat.le_of_ble_eq_true rfl⟩) hS (fun q _ h => hFc q h) hFc (fun r_1 u_1 t_1 H_1 locs_1 ht hvm hw_1 hB hz1 hk1 hS1 => ?_)
  obtain ⟨v_2, rfl⟩ : ∃ z, z = u_1 := ⟨_, rfl⟩
  obtain ⟨hP1, hK1, hD1⟩ := hB
  rw [ht] at hP1
  obtain ⟨hP2, hD2⟩ := va_join (wr := []) (w1 := [(mh, .inr (2, [.int m_hasRun, .int m_thrown, .int m_thrownAt, m_values, m_meant, m_lanes, m_lengths, m_cells, .long v_2]))]) hP hD [0] [] rfl rfl (by decide) (by decide) hk1 hFc hP1 hD1
  clear hPc hDc hFc hP1 hD1 hK1 hk1 hz1 hvm ht
  replace hP : va_P (dC, dI) vwCl [(mh, .inr (2, [.int m_hasRun, .int m_thrown, .int m_thrownAt, m_values, m_meant, m_lanes, m_lengths, m_cells, .long v_2]))] H_1 := hP2
  replace hD : va_D A [(mh, .inr (2, [.int m_hasRun, .int m_thrown, .int m_thrownAt, m_values, m_meant, m_lanes, m_lengths, m_cells, .long v_2]))] := hD2
  replace hS := hS1
  clear hP2 hD2 hS1
  refine lv_lconst (v := 1) hx hb dX2_drawIsEven_4 (by decide) ?_
  refine lv_land hx hb dX2_drawIsEven_5 ?_
  refine lv_topl (fun v_3 e_v_3 => ?_)
  refine lv_lconst (v := 0) hx hb dX2_drawIsEven_6 (by decide) ?_
  refine W.lcmp hx hb dX2_drawIsEven_7 ?_
  refine my_join (S := Int32) (fun u => (kZ (u))) (fun u => [(mh, .inr (2, [.int m_hasRun, .int m_thrown, .int m_thrownAt, m_values, m_meant, m_lanes, m_lengths, m_cells, .long v_2]))]) (fun u => [(0, .ref mh)]) (fun u => [.int (u)]) (nL := 1) (H0 := s.heap) (A := A) (D := (dC, dI)) (cl := vwCl) 16 (fun u_5 hu_5 H_5 locs_5 ls1 hP1 hD1 hS1 hl1 => ?_) (fun jn_5 => ?_)
  · -- behind 16
    obtain ⟨v_6, rfl⟩ : ∃ z, z = u_5 := ⟨_, rfl⟩
    replace hu_5 : (kZ v_6) := hu_5
    have q_v_6 := hu_5
    replace hP : va_P (dC, dI) vwCl [(mh, .inr (2, [.int m_hasRun, .int m_thrown, .int m_thrownAt, m_values, m_meant, m_lanes, m_lengths, m_cells, .long v_2]))] H_5 := hP1
    replace hD : va_D A [(mh, .inr (2, [.int m_hasRun, .int m_thrown, .int m_thrownAt, m_values, m_meant, m_lanes, m_lengths, m_cells, .long v_2]))] := hD1
    replace hS := hS1
    clear hP1 hD1 hS1
    replace hl : lv_has ls1 1 [(0, .ref mh)] := hl1
    clear hl1
    have hP9 := hP.sub (ws' := [(mh, .inr (2, [.int m_hasRun, .int m_thrown, .int m_thrownAt, m_values, m_meant, m_lanes, m_lengths, m_cells, .long v_2]))]) [0] rfl
    have hD9 := hD.sub (ws' := [(mh, .inr (2, [.int m_hasRun, .int m_thrown, .int m_thrownAt, m_values, m_meant, m_lanes, m_lengths, m_cells, .long v_2]))]) [0] (by decide) rfl
    exact W.zret (v := v_6) (ty := .boolean) hx hb hr (nar01 q_v_6) (fun t ht hW => ⟨⟨v_6, v_2, rfl, (show kZ v_6 from q_v_6), by rw [ht]; exact hP9, va_K.moved hW.alike hK, hD9⟩, hS.F ht⟩) hS.2.2 dX2_drawIsEven_16
  · -- ahead of 16
    refine lv_if_ne (tgt := 15) hx hb dX2_drawIsEven_8 (by decide) (fun c_7 => ?_) (fun c_7 => ?_)
    · -- yes
      have k_7 : ¬ v_3.toInt = (0 : Int64).toInt := lc_ne c_7
      refine lv_iconst (v := 0) hx hb dX2_drawIsEven_15 (by decide) ?_
      exact jn_5 (0 : Int32) (show (kZ (0 : Int32)) from (by decide)) _ _ _ (hP.sub [0] rfl) (hD.sub [0] (by decide) rfl) hS (lv_sub hl [0] rfl)
    · -- no
      have k_7 : v_3.toInt = (0 : Int64).toInt := lc_eq c_7
      refine lv_iconst (v := 1) hx hb dX2_drawIsEven_11 (by decide) ?_
      refine lv_goto (tgt := 16) hx hb dX2_drawIsEven_12 (by decide) ?_
      exact jn_5 (1 : Int32) (show (kZ (1 : Int32)) from (by decide)) _ _ _ (hP.sub [0] rfl) (hD.sub [0] (by decide) rfl) hS (lv_sub hl [0] rfl)
