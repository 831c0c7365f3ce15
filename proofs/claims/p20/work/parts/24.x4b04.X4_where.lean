def v_X4_where : List Cond := .code yX4_where cX4_where 1 (some .int) :: ([.fieldLink RX4 26 "ArraySegments" "machine" "LArraySegments$Machine;", .fieldLink RX4 153 "ArraySegments$Machine" "thrownAt" "I"] ++ (wsX40 ++ (wsX20)))
theorem inv_X4_where_X4 : ∀ w ∈ wsX40, w ∈ v_X4_where := fun _ h => List.mem_cons_of_mem _ (List.mem_append_right _ (List.mem_append_left _ h))
theorem inv_X4_where_X2 : ∀ w ∈ wsX20, w ∈ v_X4_where := fun _ h => List.mem_cons_of_mem _ (List.mem_append_right _ (List.mem_append_right _ (h)))
set_option maxRecDepth 20000 in
theorem gd_X4_where : gdL v_X4_where := gdC (gdW (by decide +kernel)) (gdA (gdW (by decide +kernel)) (gdA gd_wsX40 gd_wsX20))
abbrev sw_X4_where (cI cJ cZ : ClassId) (xh : Nat) (x_program : Value) (x_flow : Value) (mh : Nat) (x_lastStatus : Int32) (m_hasRun : Int32) (m_thrown : Int32) (m_thrownAt : Int32) (m_values : Value) (m_meant : Value) (m_lanes : Value) (m_lengths : Value) (m_cells : Value) (m_state : Int64) : va_W := [(xh, .inr (4, [x_program, x_flow, .ref mh, .int x_lastStatus])), (mh, .inr (2, [.int m_hasRun, .int m_thrown, .int m_thrownAt, m_values, m_meant, m_lanes, m_lengths, m_cells, .long m_state]))]
set_option maxHeartbeats 8000000 in
set_option maxRecDepth 100000 in
theorem s_X4_where (l : Launch) (dC : Nat → ClassId) (dI : Nat → Nat → Nat) (cI cJ cZ : ClassId) (xh : Nat) (x_program : Value) (x_flow : Value) (mh : Nat) (x_lastStatus : Int32) (m_hasRun : Int32) (m_thrown : Int32) (m_thrownAt : Int32) (m_values : Value) (m_meant : Value) (m_lanes : Value) (m_lengths : Value) (m_cells : Value) (m_state : Int64) (sz : Nat) (q_m_hasRun : kZ m_hasRun) : Met l yX4_where v_X4_where ({ frames := 0, cells := 0, slots := 0, locals := 0 }) (va_Pc [.ref xh] (cPre dC dI cI cJ cZ sz (sw_X4_where cI cJ cZ xh x_program x_flow mh x_lastStatus m_hasRun m_thrown m_thrownAt m_values m_meant m_lanes m_lengths m_cells m_state))) (va_Qi (fun (r : Int32) (u : Unit) => True) (fun (u : Unit) => cPost dC dI cI cJ cZ (va_A (sw_X4_where cI cJ cZ xh x_program x_flow mh x_lastStatus m_hasRun m_thrown m_thrownAt m_values m_meant m_lanes m_lengths m_cells m_state) sz) [(xh, .inr (4, [x_program, x_flow, .ref mh, .int x_lastStatus])), (mh, .inr (2, [.int m_hasRun, .int m_thrown, .int m_thrownAt, m_values, m_meant, m_lanes, m_lengths, m_cells, .long m_state]))]) (va_A (sw_X4_where cI cJ cZ xh x_program x_flow mh x_lastStatus m_hasRun m_thrown m_thrownAt m_values m_meant m_lanes m_lengths m_cells m_state) sz)) 0 0 (va_A (sw_X4_where cI cJ cZ xh x_program x_flow mh x_lastStatus m_hasRun m_thrown m_thrownAt m_values m_meant m_lanes m_lengths m_cells m_state) sz) := by
  refine Met.ofW (cc := cX4_where) (maxL := 1) (ret := (some .int)) (by decide) rfl ?_
  intro p e s m args below meth c s₁ B hml hv
  obtain ⟨rfl, hsz, hP, hK, hD0, hN⟩ := hv
  have hx := B.exec
  have hb := B.bytes
  have hr := B.returns
  have hts := atoms_spec (ws := v_X4_where) B.pre
  have hown : s.vm.findClass RX4 = some m.cls := findClass_of_methodNamed B.named
  have hlocks := B.notSynchronized
  subst hsz
  have hD := hD0.self (sz := s.heap.size)
  generalize hAe : va_A (sw_X4_where cI cJ cZ xh x_program x_flow mh x_lastStatus m_hasRun m_thrown m_thrownAt m_values m_meant m_lanes m_lengths m_cells m_state) s.heap.size = A at hD ⊢
  have hA : ∀ q : Nat, s.heap.size ≤ q → A q := fun q h => by rw [← hAe]; exact Or.inr h
  clear hAe hD0
  have hS : va_S A s.heap s.heap [] := va_S.rf
  replace hP : va_P (dC, dI) vwCl [(xh, .inr (4, [x_program, x_flow, .ref mh, .int x_lastStatus])), (mh, .inr (2, [.int m_hasRun, .int m_thrown, .int m_thrownAt, m_values, m_meant, m_lanes, m_lengths, m_cells, .long m_state]))] s.heap := hP
  replace hD : va_D A [(xh, .inr (4, [x_program, x_flow, .ref mh, .int x_lastStatus])), (mh, .inr (2, [.int m_hasRun, .int m_thrown, .int m_thrownAt, m_values, m_meant, m_lanes, m_lengths, m_cells, .long m_state]))] := hD
  have hl := lv_entry ([.ref xh]) (n := 1) (Nat.le_of_ble_eq_true rfl)
  rw [lg_entry_eq]
  generalize (lg_sl ([.ref xh]) ++ List.replicate (1 - (lg_sl ([.ref xh])).length) Slot.unset).toArray = ls at hl ⊢
  replace hl : lv_has ls 1 [(0, .ref xh)] := hl
  have z_0 : (0 : Int32).toInt = 0 := by decide
  have z_1 : (1 : Int32).toInt = 1 := by decide
  refine lv_aload_n hx hb dX4_where_0 rfl (lv_at hl 0 rfl) ?_
  refine va_get (D := (dC, dI)) (ci := 4) (v := .ref mh) (C := RX4) (T := TX4) (N := 4) hx hb hts inv_X4_where_X4 hown hK hP 0 rfl rfl 2 (by decide) (hts (.fieldLink RX4 26 "ArraySegments" "machine" "LArraySegments$Machine;") (List.mem_of_getElem? (i := 1) rfl)) (fun _ h9 => h9) rfl dX4_where_1 ?_
  refine va_get (D := (dC, dI)) (ci := 2) (v := .int m_thrownAt) (C := RX2) (T := TX2) (N := 9) hx hb hts inv_X4_where_X2 hown hK hP 1 rfl rfl 2 (by decide) (hts (.fieldLink RX4 153 "ArraySegments$Machine" "thrownAt" "I") (List.mem_of_getElem? (i := 2) rfl)) (fun _ h9 => h9) rfl dX4_where_4 ?_
  have hP9 := hP.sub (ws' := [(xh, .inr (4, [x_program, x_flow, .ref mh, .int x_lastStatus])), (mh, .inr (2, [.int m_hasRun, .int m_thrown, .int m_thrownAt, m_values, m_meant, m_lanes, m_lengths, m_cells, .long m_state]))]) [0, 1] rfl
  have hD9 := hD.sub (ws' := [(xh, .inr (4, [x_program, x_flow, .ref mh, .int x_lastStatus])), (mh, .inr (2, [.int m_hasRun, .int m_thrown, .int m_thrownAt, m_values, m_meant, m_lanes, m_lengths, m_cells, .long m_state]))]) [0, 1] (by decide) rfl
  exact W.iret (v := m_thrownAt) hx hb hr (fun t ht hW => ⟨⟨m_thrownAt, (), rfl, trivial, by rw [ht]; exact hP9, va_K.moved hW.alike hK, hD9⟩, hS.F ht⟩) hS.2.2 dX4_where_7
