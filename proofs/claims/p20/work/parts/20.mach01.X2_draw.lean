def v_X2_draw : List Cond := .code yX2_draw cX2_draw 3 (some .long) :: ([.fieldLink RX2 38 "ArraySegments$Machine" "state" "J", .constantLong RX2 75 (-7046029254386353131), .constantLong RX2 77 (-4658895280553007687), .constantLong RX2 79 (-7723592293110705685)] ++ (wsX20))
theorem inv_X2_draw_X2 : ∀ w ∈ wsX20, w ∈ v_X2_draw := fun _ h => List.mem_cons_of_mem _ (List.mem_append_right _ (h))
set_option maxRecDepth 20000 in
theorem gd_X2_draw : gdL v_X2_draw := gdC (gdW (by decide +kernel)) (gdA (gdW (by decide +kernel)) gd_wsX20)
abbrev sw_X2_draw (cI cJ cZ : ClassId) (mh : Nat) (m_hasRun : Int32) (m_thrown : Int32) (m_thrownAt : Int32) (m_values : Value) (m_meant : Value) (m_lanes : Value) (m_lengths : Value) (m_cells : Value) (m_state : Int64) : va_W := [(mh, .inr (2, [.int m_hasRun, .int m_thrown, .int m_thrownAt, m_values, m_meant, m_lanes, m_lengths, m_cells, .long m_state]))]
set_option maxHeartbeats 8000000 in
set_option maxRecDepth 100000 in
theorem s_X2_draw (l : Launch) (dC : Nat → ClassId) (dI : Nat → Nat → Nat) (cI cJ cZ : ClassId) (mh : Nat) (m_hasRun : Int32) (m_thrown : Int32) (m_thrownAt : Int32) (m_values : Value) (m_meant : Value) (m_lanes : Value) (m_lengths : Value) (m_cells : Value) (m_state : Int64) (sz : Nat) (q_m_hasRun : kZ m_hasRun) : Met l yX2_draw v_X2_draw ({ frames := 0, cells := 0, slots := 0, locals := 0 }) (va_Pc [.ref mh] (cPre dC dI cI cJ cZ sz (sw_X2_draw cI cJ cZ mh m_hasRun m_thrown m_thrownAt m_values m_meant m_lanes m_lengths m_cells m_state))) (va_Ql (fun (r : Int64) (u : Int64) => True) (fun (u : Int64) => cPost dC dI cI cJ cZ (va_A (sw_X2_draw cI cJ cZ mh m_hasRun m_thrown m_thrownAt m_values m_meant m_lanes m_lengths m_cells m_state) sz) [(mh, .inr (2, [.int m_hasRun, .int m_thrown, .int m_thrownAt, m_values, m_meant, m_lanes, m_lengths, m_cells, .long (u)]))]) (va_A (sw_X2_draw cI cJ cZ mh m_hasRun m_thrown m_thrownAt m_values m_meant m_lanes m_lengths m_cells m_state) sz)) 0 0 (va_A (sw_X2_draw cI cJ cZ mh m_hasRun m_thrown m_thrownAt m_values m_meant m_lanes m_lengths m_cells m_state) sz) := by
  refine Met.ofW (cc := cX2_draw) (maxL := 3) (ret := (some .long)) (by decide) rfl ?_
  intro p e s m args below meth c s₁ B hml hv
  obtain ⟨rfl, hsz, hP, hK, hD0, hN⟩ := hv
  have hx := B.exec
  have hb := B.bytes
  have hr := B.returns
  have hts := atoms_spec (ws := v_X2_draw) B.pre
  have hown : s.vm.findClass RX2 = some m.cls := findClass_of_methodNamed B.named
  have hlocks := B.notSynchronized
  subst hsz
  have hD := hD0.self (sz := s.heap.size)
  generalize hAe : va_A (sw_X2_draw cI cJ cZ mh m_hasRun m_thrown m_thrownAt m_values m_meant m_lanes m_lengths m_cells m_state) s.heap.size = A at hD ⊢
  have hA : ∀ q : Nat, s.heap.size ≤ q → A q := fun q h => by rw [← hAe]; exact Or.inr h
  clear hAe hD0
  have hS : va_S A s.heap s.heap [] := va_S.rf
  replace hP : va_P (dC, dI) vwCl [(mh, .inr (2, [.int m_hasRun, .int m_thrown, .int m_thrownAt, m_values, m_meant, m_lanes, m_lengths, m_cells, .long m_state]))] s.heap := hP
  replace hD : va_D A [(mh, .inr (2, [.int m_hasRun, .int m_thrown, .int m_thrownAt, m_values, m_meant, m_lanes, m_lengths, m_cells, .long m_state]))] := hD
  have hl := lv_entry ([.ref mh]) (n := 3) (Nat.le_of_ble_eq_true rfl)
  rw [lg_entry_eq]
  generalize (lg_sl ([.ref mh]) ++ List.replicate (3 - (lg_sl ([.ref mh])).length) Slot.unset).toArray = ls at hl ⊢
  replace hl : lv_has ls 3 [(0, .ref mh)] := hl
  have z_0 : (0 : Int32).toInt = 0 := by decide
  have z_1 : (1 : Int32).toInt = 1 := by decide
  refine lv_aload_n hx hb dX2_draw_0 rfl (lv_at hl 0 rfl) ?_
  refine lv_dup hx hb dX2_draw_1 rfl ?_
  refine va_get (D := (dC, dI)) (ci := 2) (v := .long m_state) (C := RX2) (T := TX2) (N := 9) hx hb hts inv_X2_draw_X2 hown hK hP 0 rfl rfl 8 (by decide) (hts (.fieldLink RX2 38 "ArraySegments$Machine" "state" "J") (List.mem_of_getElem? (i := 1) rfl)) (fun _ h9 => h9) rfl dX2_draw_2 ?_
  refine lv_ldc2 hx hb hown (hts (.constantLong RX2 75 (-7046029254386353131)) (List.mem_of_getElem? (i := 2) rfl)) dX2_draw_5 ?_
  refine lv_ladd hx hb dX2_draw_8 ?_
  refine lv_topl (fun v_1 e_v_1 => ?_)
  refine va_put (D := (dC, dI)) (ci := 2) (v := .long v_1) (ty := .long) (C := RX2) (T := TX2) (N := 9) hx hb hts inv_X2_draw_X2 tyX2 tyX2_ok nmX2 hown hK hP hD hS 0 rfl rfl 8 (by decide) (hts (.fieldLink RX2 38 "ArraySegments$Machine" "state" "J") (List.mem_of_getElem? (i := 1) rfl)) (fun _ h9 => h9) rfl (by decide +kernel) rfl rfl (Nat.le_of_ble_eq_true rfl) dX2_draw_9 (fun H_2 locs_2 hP1 hD1 hS1 => ?_)
  replace hP : va_P (dC, dI) vwCl [(mh, .inr (2, [.int m_hasRun, .int m_thrown, .int m_thrownAt, m_values, m_meant, m_lanes, m_lengths, m_cells, .long v_1]))] H_2 := hP1
  replace hD : va_D A [(mh, .inr (2, [.int m_hasRun, .int m_thrown, .int m_thrownAt, m_values, m_meant, m_lanes, m_lengths, m_cells, .long v_1]))] := hD1
  replace hS := hS1
  clear hP1 hD1 hS1
  refine lv_aload_n hx hb dX2_draw_12 rfl (lv_at hl 0 rfl) ?_
  refine va_get (D := (dC, dI)) (ci := 2) (v := .long v_1) (C := RX2) (T := TX2) (N := 9) hx hb hts inv_X2_draw_X2 hown hK hP 0 rfl rfl 8 (by decide) (hts (.fieldLink RX2 38 "ArraySegments$Machine" "state" "J") (List.mem_of_getElem? (i := 1) rfl)) (fun _ h9 => h9) rfl dX2_draw_13 ?_
  refine lv_lstore_n (lv' := [(1, .long v_1), (0, .ref mh)]) hx hb dX2_draw_16 rfl hl (by decide) rfl (fun ls1 hl1 => ?_)
  replace hl := hl1; clear hl1
  refine lv_lload_n hx hb dX2_draw_17 rfl (lv_at hl 0 rfl) ?_
  refine lv_lload_n hx hb dX2_draw_18 rfl (lv_at hl 0 rfl) ?_
  refine lv_bipush (v := 30) hx hb dX2_draw_19 (by decide) ?_
  refine lv_lushr (v := _) hx hb dX2_draw_21 rfl ?_
  refine lv_topl (fun v_3 _ => ?_)
  refine lv_lxor hx hb dX2_draw_22 ?_
  refine lv_topl (fun v_4 e_v_4 => ?_)
  refine lv_ldc2 hx hb hown (hts (.constantLong RX2 77 (-4658895280553007687)) (List.mem_of_getElem? (i := 3) rfl)) dX2_draw_23 ?_
  refine lv_lmul hx hb dX2_draw_26 ?_
  refine lv_topl (fun v_5 e_v_5 => ?_)
  refine lv_lstore_n (lv' := [(1, .long v_5), (0, .ref mh)]) hx hb dX2_draw_27 rfl hl (by decide) rfl (fun ls1 hl1 => ?_)
  replace hl := hl1; clear hl1
  refine lv_lload_n hx hb dX2_draw_28 rfl (lv_at hl 0 rfl) ?_
  refine lv_lload_n hx hb dX2_draw_29 rfl (lv_at hl 0 rfl) ?_
  refine lv_bipush (v := 27) hx hb dX2_draw_30 (by decide) ?_
  refine lv_lushr (v := _) hx hb dX2_draw_32 rfl ?_
  refine lv_topl (fun v_6 _ => ?_)
  refine lv_lxor hx hb dX2_draw_33 ?_
  refine lv_topl (fun v_7 e_v_7 => ?_)
  refine lv_ldc2 hx hb hown (hts (.constantLong RX2 79 (-7723592293110705685)) (List.mem_of_getElem? (i := 4) rfl)) dX2_draw_34 ?_
  refine lv_lmul hx hb dX2_draw_37 ?_
  refine lv_topl (fun v_8 e_v_8 => ?_)
  refine lv_lstore_n (lv' := [(1, .long v_8), (0, .ref mh)]) hx hb dX2_draw_38 rfl hl (by decide) rfl (fun ls1 hl1 => ?_)
  replace hl := hl1; clear hl1
  refine lv_lload_n hx hb dX2_draw_39 rfl (lv_at hl 0 rfl) ?_
  refine lv_lload_n hx hb dX2_draw_40 rfl (lv_at hl 0 rfl) ?_
  refine lv_bipush (v := 31) hx hb dX2_draw_41 (by decide) ?_
  refine lv_lushr (v := _) hx hb dX2_draw_43 rfl ?_
  refine lv_topl (fun v_9 _ => ?_)
  refine lv_lxor hx hb dX2_draw_44 ?_
  refine lv_topl (fun v_10 e_v_10 => ?_)
  have hP9 := hP.sub (ws' := [(mh, .inr (2, [.int m_hasRun, .int m_thrown, .int m_thrownAt, m_values, m_meant, m_lanes, m_lengths, m_cells, .long v_1]))]) [0] rfl
  have hD9 := hD.sub (ws' := [(mh, .inr (2, [.int m_hasRun, .int m_thrown, .int m_thrownAt, m_values, m_meant, m_lanes, m_lengths, m_cells, .long v_1]))]) [0] (by decide) rfl
  exact W.lret (v := v_10) hx hb hr (fun t ht hW => ⟨⟨v_10, v_1, rfl, trivial, by rw [ht]; exact hP9, va_K.moved hW.alike hK, hD9⟩, hS.F ht⟩) hS.2.2 dX2_draw_45
