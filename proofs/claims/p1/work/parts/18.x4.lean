def w_X4_programChanged : List Cond := .code yX4_programChanged cX4_programChanged 1 none :: ([.fieldLink RX4 19 "ArraySegments" "flow" "LArraySegments$Flow;", .fieldLink RX4 191 "ArraySegments$Flow" "isOld" "Z", .fieldLink RX4 26 "ArraySegments" "machine" "LArraySegments$Machine;", .methodLink RX4 194 yX2_forget, .instanceMethod yX2_forget, .selects RX2 yX2_forget yX2_forget, .initialized RX2, .code yX2_forget cX2_forget 2 none, .fieldLink RX2 9 "ArraySegments$Machine" "hasRun" "Z", .fieldLink RX2 15 "ArraySegments$Machine" "thrown" "I", .fieldLink RX2 19 "ArraySegments$Machine" "thrownAt" "I", .fieldLink RX2 26 "ArraySegments$Machine" "meant" "[I", .fieldLink RX2 22 "ArraySegments$Machine" "values" "[I"] ++ wsX40 ++ wsX10 ++ wsX20)
theorem inc_X4_programChanged_X1 : ∀ w ∈ wsX10, w ∈ w_X4_programChanged := fun _ h => List.mem_cons_of_mem _ (List.mem_append_left _ (List.mem_append_right _ h))
theorem inc_X4_programChanged_X4 : ∀ w ∈ wsX40, w ∈ w_X4_programChanged := fun _ h => List.mem_cons_of_mem _ (List.mem_append_left _ (List.mem_append_left _ (List.mem_append_right _ h)))
set_option maxRecDepth 20000 in
theorem g_X4_programChanged_X2_forget_194 : GoodIn w_X4_programChanged (wsV RX4 194 RX2 yX2_forget w_X2_forget) := goodIn_r _ [4, 5, 6, 7, 8, 9, 10, 11, 12, 13, 26, 27, 28, 29, 30, 31, 32, 33, 34] (by decide +kernel) (by decide +kernel)
abbrev pw_X4_programChanged (cI cJ cZ : ClassId) (xh : Nat) (xv_lastStatus : Value) (ph : Nat) (lh : Nat) (lq_now : Value) (lq_ahead : Value) (lq_isOld : Value) (lq_isReached : Value) (lq_mayThrow : Value) (lq_gatheredAny : Value) (lq_gatheredLeast : Value) (lq_gatheredGreatest : Value) (mh : Nat) (m1 : Nat) (m2 : Nat) (mv_hasRun : Value) (mv_thrown : Value) (mv_thrownAt : Value) (mv_lanes : Value) (mv_lengths : Value) (mv_cells : Value) (mv_state : Value) (mf1 : Nat → Int32) (mf2 : Nat → Int32) : va_W := [(xh, .inr (4, [.ref ph, .ref lh, .ref mh, xv_lastStatus])), (lh, .inr (1, [lq_now, lq_ahead, lq_isOld, lq_isReached, lq_mayThrow, lq_gatheredAny, lq_gatheredLeast, lq_gatheredGreatest])), (mh, .inr (2, [mv_hasRun, mv_thrown, mv_thrownAt, .ref m1, .ref m2, mv_lanes, mv_lengths, mv_cells, mv_state])), (m1, .inl (cI, 6, .inl mf1)), (m2, .inl (cI, 6, .inl mf2))]
set_option maxHeartbeats 4000000 in
set_option maxRecDepth 100000 in
theorem c_X4_programChanged (l : Launch) (dC : Nat → ClassId) (dI : Nat → Nat → Nat) (cI cJ cZ : ClassId) (xh : Nat) (xv_lastStatus : Value) (ph : Nat) (lh : Nat) (lq_now : Value) (lq_ahead : Value) (lq_isOld : Value) (lq_isReached : Value) (lq_mayThrow : Value) (lq_gatheredAny : Value) (lq_gatheredLeast : Value) (lq_gatheredGreatest : Value) (mh : Nat) (m1 : Nat) (m2 : Nat) (mv_hasRun : Value) (mv_thrown : Value) (mv_thrownAt : Value) (mv_lanes : Value) (mv_lengths : Value) (mv_cells : Value) (mv_state : Value) (mf1 : Nat → Int32) (mf2 : Nat → Int32) (sz : Nat) : Met l yX4_programChanged w_X4_programChanged ({ frames := 1, cells := 0, slots := 0, locals := 21 }) (va_Pc [.ref xh] (cPre dC dI cI cJ cZ sz (pw_X4_programChanged cI cJ cZ xh xv_lastStatus ph lh lq_now lq_ahead lq_isOld lq_isReached lq_mayThrow lq_gatheredAny lq_gatheredLeast lq_gatheredGreatest mh m1 m2 mv_hasRun mv_thrown mv_thrownAt mv_lanes mv_lengths mv_cells mv_state mf1 mf2))) (va_Qv (fun (u : Nat → Nat) => True) (fun (u : Nat → Nat) => cPost dC dI cI cJ cZ (va_A (pw_X4_programChanged cI cJ cZ xh xv_lastStatus ph lh lq_now lq_ahead lq_isOld lq_isReached lq_mayThrow lq_gatheredAny lq_gatheredLeast lq_gatheredGreatest mh m1 m2 mv_hasRun mv_thrown mv_thrownAt mv_lanes mv_lengths mv_cells mv_state mf1 mf2) sz) [(xh, .inr (4, [.ref ph, .ref lh, .ref mh, xv_lastStatus])), (lh, .inr (1, [lq_now, lq_ahead, .int 1, lq_isReached, lq_mayThrow, lq_gatheredAny, lq_gatheredLeast, lq_gatheredGreatest])), (mh, .inr (2, [.int 0, .int 0, .int (-1), .ref m1, .ref m2, mv_lanes, mv_lengths, mv_cells, mv_state])), (m1, .inl (cI, 6, .inl (ov mf1 6 0))), (m2, .inl (cI, 6, .inl (ov mf2 6 (-1))))]) (va_A (pw_X4_programChanged cI cJ cZ xh xv_lastStatus ph lh lq_now lq_ahead lq_isOld lq_isReached lq_mayThrow lq_gatheredAny lq_gatheredLeast lq_gatheredGreatest mh m1 m2 mv_hasRun mv_thrown mv_thrownAt mv_lanes mv_lengths mv_cells mv_state mf1 mf2) sz)) 0 0 (va_A (pw_X4_programChanged cI cJ cZ xh xv_lastStatus ph lh lq_now lq_ahead lq_isOld lq_isReached lq_mayThrow lq_gatheredAny lq_gatheredLeast lq_gatheredGreatest mh m1 m2 mv_hasRun mv_thrown mv_thrownAt mv_lanes mv_lengths mv_cells mv_state mf1 mf2) sz) := by
  refine Met.ofW (cc := cX4_programChanged) (maxL := 1) (ret := none) (by decide) rfl ?_
  intro p e s m args below meth c s₁ B hml hv
  obtain ⟨rfl, hsz, hP, hK, hD0, hN⟩ := hv
  have hx := B.exec
  have hb := B.bytes
  have hr := B.returns
  have hts := atoms_spec (ws := w_X4_programChanged) B.pre
  have hown : s.vm.findClass RX4 = some m.cls := findClass_of_methodNamed B.named
  have hlocks := B.notSynchronized
  subst hsz
  have hD := hD0.self (sz := s.heap.size)
  generalize hAe : va_A (pw_X4_programChanged cI cJ cZ xh xv_lastStatus ph lh lq_now lq_ahead lq_isOld lq_isReached lq_mayThrow lq_gatheredAny lq_gatheredLeast lq_gatheredGreatest mh m1 m2 mv_hasRun mv_thrown mv_thrownAt mv_lanes mv_lengths mv_cells mv_state mf1 mf2) s.heap.size = A at hD ⊢
  have hA : ∀ q : Nat, s.heap.size ≤ q → A q := fun q h => by rw [← hAe]; exact Or.inr h
  clear hAe hD0
  have hS : va_S A s.heap s.heap [] := va_S.rf
  replace hP : va_P (dC, dI) vwCl [(xh, .inr (4, [.ref ph, .ref lh, .ref mh, xv_lastStatus])), (lh, .inr (1, [lq_now, lq_ahead, lq_isOld, lq_isReached, lq_mayThrow, lq_gatheredAny, lq_gatheredLeast, lq_gatheredGreatest])), (mh, .inr (2, [mv_hasRun, mv_thrown, mv_thrownAt, .ref m1, .ref m2, mv_lanes, mv_lengths, mv_cells, mv_state])), (m1, .inl (cI, 6, .inl mf1)), (m2, .inl (cI, 6, .inl mf2))] s.heap := hP
  replace hD : va_D A [(xh, .inr (4, [.ref ph, .ref lh, .ref mh, xv_lastStatus])), (lh, .inr (1, [lq_now, lq_ahead, lq_isOld, lq_isReached, lq_mayThrow, lq_gatheredAny, lq_gatheredLeast, lq_gatheredGreatest])), (mh, .inr (2, [mv_hasRun, mv_thrown, mv_thrownAt, .ref m1, .ref m2, mv_lanes, mv_lengths, mv_cells, mv_state])), (m1, .inl (cI, 6, .inl mf1)), (m2, .inl (cI, 6, .inl mf2))] := hD
  have hl := lv_entry ([.ref xh]) (n := 1) (Nat.le_of_ble_eq_true rfl)
  rw [lg_entry_eq]
  generalize (lg_sl ([.ref xh]) ++ List.replicate (1 - (lg_sl ([.ref xh])).length) Slot.unset).toArray = ls at hl ⊢
  replace hl : lv_has ls 1 [(0, .ref xh)] := hl
  refine lv_aload_n hx hb dX4_programChanged_0 rfl (lv_at hl 0 rfl) ?_
  refine va_get (D := (dC, dI)) (ci := 4) (v := .ref lh) (C := RX4) (T := TX4) (N := 4) hx hb hts inc_X4_programChanged_X4 hown hK hP 0 rfl rfl 1 (by decide) (hts (.fieldLink RX4 19 "ArraySegments" "flow" "LArraySegments$Flow;") (List.mem_of_getElem? (i := 1) rfl)) (fun _ h9 => h9) rfl dX4_programChanged_1 ?_
  refine lv_iconst (v := 1) hx hb dX4_programChanged_4 (by decide) ?_
  refine va_put (D := (dC, dI)) (ci := 1) (v := .int 1) (ty := .boolean) (C := RX1) (T := TX1) (N := 8) hx hb hts inc_X4_programChanged_X1 tyX1 tyX1_ok nmX1 hown hK hP hD hS 1 rfl rfl 2 (by decide) (hts (.fieldLink RX4 191 "ArraySegments$Flow" "isOld" "Z") (List.mem_of_getElem? (i := 2) rfl)) (fun _ h9 => h9) rfl (by decide +kernel) rfl rfl (Nat.le_of_ble_eq_true rfl) dX4_programChanged_5 (fun H_1 locs_1 hP1 hD1 hS1 => ?_)
  replace hP : va_P (dC, dI) vwCl [(xh, .inr (4, [.ref ph, .ref lh, .ref mh, xv_lastStatus])), (lh, .inr (1, [lq_now, lq_ahead, .int 1, lq_isReached, lq_mayThrow, lq_gatheredAny, lq_gatheredLeast, lq_gatheredGreatest])), (mh, .inr (2, [mv_hasRun, mv_thrown, mv_thrownAt, .ref m1, .ref m2, mv_lanes, mv_lengths, mv_cells, mv_state])), (m1, .inl (cI, 6, .inl mf1)), (m2, .inl (cI, 6, .inl mf2))] H_1 := hP1
  replace hD : va_D A [(xh, .inr (4, [.ref ph, .ref lh, .ref mh, xv_lastStatus])), (lh, .inr (1, [lq_now, lq_ahead, .int 1, lq_isReached, lq_mayThrow, lq_gatheredAny, lq_gatheredLeast, lq_gatheredGreatest])), (mh, .inr (2, [mv_hasRun, mv_thrown, mv_thrownAt, .ref m1, .ref m2, mv_lanes, mv_lengths, mv_cells, mv_state])), (m1, .inl (cI, 6, .inl mf1)), (m2, .inl (cI, 6, .inl mf2))] := hD1
  replace hS := hS1
  clear hP1 hD1 hS1
  refine lv_aload_n hx hb dX4_programChanged_8 rfl (lv_at hl 0 rfl) ?_
  refine va_get (D := (dC, dI)) (ci := 4) (v := .ref mh) (C := RX4) (T := TX4) (N := 4) hx hb hts inc_X4_programChanged_X4 hown hK hP 0 rfl rfl 2 (by decide) (hts (.fieldLink RX4 26 "ArraySegments" "machine" "LArraySegments$Machine;") (List.mem_of_getElem? (i := 3) rfl)) (fun _ h9 => h9) rfl dX4_programChanged_9 ?_
  have hPc := hP.sub (ws' := [(mh, .inr (2, [mv_hasRun, mv_thrown, mv_thrownAt, .ref m1, .ref m2, mv_lanes, mv_lengths, mv_cells, mv_state])), (m1, .inl (cI, 6, .inl mf1)), (m2, .inl (cI, 6, .inl mf2))]) [2, 3, 4] rfl
  have hDc := hD.sub (ws' := [(mh, .inr (2, [mv_hasRun, mv_thrown, mv_thrownAt, .ref m1, .ref m2, mv_lanes, mv_lengths, mv_cells, mv_state])), (m1, .inl (cI, 6, .inl mf1)), (m2, .inl (cI, 6, .inl mf2))]) [2, 3, 4] (by decide) rfl
  have hFc := va_free (wc := [(mh, .inr (2, [mv_hasRun, mv_thrown, mv_thrownAt, .ref m1, .ref m2, mv_lanes, mv_lengths, mv_cells, mv_state])), (m1, .inl (cI, 6, .inl mf1)), (m2, .inl (cI, 6, .inl mf2))]) hD hS hA [2, 3, 4] rfl
  refine va_callv (va_runV (As := []) (rest := []) ⟨hx, hb, hml, hown, hts⟩ (c_X2_forget l dC dI cI cJ cZ mh m1 m2 mv_hasRun mv_thrown mv_thrownAt mv_lanes mv_lengths mv_cells mv_state mf1 mf2 H_1.size) (cwV 0 hts g_X4_programChanged_X2_forget_194 rfl rfl rfl (by decide +kernel) ⟨Nat.le_of_ble_eq_true rfl, Nat.le_of_ble_eq_true rfl⟩) ⟨cPre_blind, va_recv hK hPc (ci := 2) (q0 := 0) rfl rfl, cPre_of hK hN hPc hDc⟩ rfl rfl hl.1 rfl (lv_room (Nat.le_of_ble_eq_true rfl)) dX4_programChanged_12 ⟨Nat.le_of_ble_eq_true rfl, Nat.le_of_ble_eq_true rfl⟩) hS (fun q _ h => hFc q h) hFc (fun u_2 t_2 H_2 locs_2 ht hvm hw_2 hB hz1 hk1 hS1 => ?_)
  obtain ⟨hP1, hK1, hD1⟩ := hB
  rw [ht] at hP1
  obtain ⟨hP2, hD2⟩ := va_join (wr := [(xh, .inr (4, [.ref ph, .ref lh, .ref mh, xv_lastStatus])), (lh, .inr (1, [lq_now, lq_ahead, .int 1, lq_isReached, lq_mayThrow, lq_gatheredAny, lq_gatheredLeast, lq_gatheredGreatest]))]) (w1 := [(mh, .inr (2, [.int 0, .int 0, .int (-1), .ref m1, .ref m2, mv_lanes, mv_lengths, mv_cells, mv_state])), (m1, .inl (cI, 6, .inl (ov mf1 6 0))), (m2, .inl (cI, 6, .inl (ov mf2 6 (-1))))]) hP hD [2, 3, 4] [0, 1] rfl rfl (by decide) (by decide) hk1 hFc hP1 hD1
  clear hPc hDc hFc hP1 hD1 hK1 hk1 hz1 hvm ht
  replace hP : va_P (dC, dI) vwCl [(xh, .inr (4, [.ref ph, .ref lh, .ref mh, xv_lastStatus])), (lh, .inr (1, [lq_now, lq_ahead, .int 1, lq_isReached, lq_mayThrow, lq_gatheredAny, lq_gatheredLeast, lq_gatheredGreatest])), (mh, .inr (2, [.int 0, .int 0, .int (-1), .ref m1, .ref m2, mv_lanes, mv_lengths, mv_cells, mv_state])), (m1, .inl (cI, 6, .inl (ov mf1 6 0))), (m2, .inl (cI, 6, .inl (ov mf2 6 (-1))))] H_2 := hP2
  replace hD : va_D A [(xh, .inr (4, [.ref ph, .ref lh, .ref mh, xv_lastStatus])), (lh, .inr (1, [lq_now, lq_ahead, .int 1, lq_isReached, lq_mayThrow, lq_gatheredAny, lq_gatheredLeast, lq_gatheredGreatest])), (mh, .inr (2, [.int 0, .int 0, .int (-1), .ref m1, .ref m2, mv_lanes, mv_lengths, mv_cells, mv_state])), (m1, .inl (cI, 6, .inl (ov mf1 6 0))), (m2, .inl (cI, 6, .inl (ov mf2 6 (-1))))] := hD2
  replace hS := hS1
  clear hP2 hD2 hS1
  have hP9 := hP.sub (ws' := [(xh, .inr (4, [.ref ph, .ref lh, .ref mh, xv_lastStatus])), (lh, .inr (1, [lq_now, lq_ahead, .int 1, lq_isReached, lq_mayThrow, lq_gatheredAny, lq_gatheredLeast, lq_gatheredGreatest])), (mh, .inr (2, [.int 0, .int 0, .int (-1), .ref m1, .ref m2, mv_lanes, mv_lengths, mv_cells, mv_state])), (m1, .inl (cI, 6, .inl (ov mf1 6 0))), (m2, .inl (cI, 6, .inl (ov mf2 6 (-1))))]) [0, 1, 2, 3, 4] rfl
  have hD9 := hD.sub (ws' := [(xh, .inr (4, [.ref ph, .ref lh, .ref mh, xv_lastStatus])), (lh, .inr (1, [lq_now, lq_ahead, .int 1, lq_isReached, lq_mayThrow, lq_gatheredAny, lq_gatheredLeast, lq_gatheredGreatest])), (mh, .inr (2, [.int 0, .int 0, .int (-1), .ref m1, .ref m2, mv_lanes, mv_lengths, mv_cells, mv_state])), (m1, .inl (cI, 6, .inl (ov mf1 6 0))), (m2, .inl (cI, 6, .inl (ov mf2 6 (-1))))]) [0, 1, 2, 3, 4] (by decide) rfl
  exact W.vret hx hb hr (fun t ht hW => ⟨⟨(fun _ => 0), rfl, trivial, by rw [ht]; exact hP9, va_K.moved hW.alike hK, hD9⟩, hS.F ht⟩) hS.2.2 dX4_programChanged_15

def w_X4_clear : List Cond := .code yX4_clear cX4_clear 2 (some .int) :: ([.fieldLink RX4 10 "ArraySegments" "program" "LArraySegments$Program;", .fieldLink RX4 34 "ArraySegments$Program" "count" "I", .methodLink RX4 37 yX3_removeAll, .instanceMethod yX3_removeAll, .selects RX3 yX3_removeAll yX3_removeAll, .initialized RX3, .code yX3_removeAll cX3_removeAll 1 none, .fieldLink RX3 19 "ArraySegments$Program" "count" "I", .methodLink RX4 40 yX4_programChanged, .instanceMethod yX4_programChanged, .selects RX4 yX4_programChanged yX4_programChanged, .initialized RX4, .code yX4_programChanged cX4_programChanged 1 none, .fieldLink RX4 19 "ArraySegments" "flow" "LArraySegments$Flow;", .fieldLink RX4 191 "ArraySegments$Flow" "isOld" "Z", .fieldLink RX4 26 "ArraySegments" "machine" "LArraySegments$Machine;", .methodLink RX4 194 yX2_forget, .instanceMethod yX2_forget, .selects RX2 yX2_forget yX2_forget, .initialized RX2, .code yX2_forget cX2_forget 2 none, .fieldLink RX2 9 "ArraySegments$Machine" "hasRun" "Z", .fieldLink RX2 15 "ArraySegments$Machine" "thrown" "I", .fieldLink RX2 19 "ArraySegments$Machine" "thrownAt" "I", .fieldLink RX2 26 "ArraySegments$Machine" "meant" "[I", .fieldLink RX2 22 "ArraySegments$Machine" "values" "[I"] ++ wsX40 ++ wsX30 ++ wsX10 ++ wsX20)
theorem inc_X4_clear_X3 : ∀ w ∈ wsX30, w ∈ w_X4_clear := fun _ h => List.mem_cons_of_mem _ (List.mem_append_left _ (List.mem_append_left _ (List.mem_append_right _ h)))
theorem inc_X4_clear_X4 : ∀ w ∈ wsX40, w ∈ w_X4_clear := fun _ h => List.mem_cons_of_mem _ (List.mem_append_left _ (List.mem_append_left _ (List.mem_append_left _ (List.mem_append_right _ h))))
set_option maxRecDepth 20000 in
theorem g_X4_clear_X3_removeAll_37 : GoodIn w_X4_clear (wsV RX4 37 RX3 yX3_removeAll w_X3_removeAll) := goodIn_r _ [3, 4, 5, 6, 7, 8, 31, 32, 33] (by decide +kernel) (by decide +kernel)
set_option maxRecDepth 20000 in
theorem g_X4_clear_X4_programChanged_40 : GoodIn w_X4_clear (wsV RX4 40 RX4 yX4_programChanged w_X4_programChanged) := goodIn_r _ [9, 10, 11, 12, 13, 14, 15, 16, 17, 18, 19, 20, 21, 22, 23, 24, 25, 26, 27, 28, 29, 30, 34, 35, 36, 37, 38, 39, 40, 41, 42, 43, 44, 45, 46, 47, 48, 49, 50] (by decide +kernel) (by decide +kernel)
abbrev pw_X4_clear (cI cJ cZ : ClassId) (xh : Nat) (xv_lastStatus : Value) (ph : Nat) (pv_rows : Value) (pv_dropped : Value) (lh : Nat) (lq_now : Value) (lq_ahead : Value) (lq_isOld : Value) (lq_isReached : Value) (lq_mayThrow : Value) (lq_gatheredAny : Value) (lq_gatheredLeast : Value) (lq_gatheredGreatest : Value) (mh : Nat) (m1 : Nat) (m2 : Nat) (mv_hasRun : Value) (mv_thrown : Value) (mv_thrownAt : Value) (mv_lanes : Value) (mv_lengths : Value) (mv_cells : Value) (mv_state : Value) (mf1 : Nat → Int32) (mf2 : Nat → Int32) : va_W := [(xh, .inr (4, [.ref ph, .ref lh, .ref mh, xv_lastStatus])), (ph, .inr (3, [pv_rows, pv_dropped, .int 0])), (lh, .inr (1, [lq_now, lq_ahead, lq_isOld, lq_isReached, lq_mayThrow, lq_gatheredAny, lq_gatheredLeast, lq_gatheredGreatest])), (mh, .inr (2, [mv_hasRun, mv_thrown, mv_thrownAt, .ref m1, .ref m2, mv_lanes, mv_lengths, mv_cells, mv_state])), (m1, .inl (cI, 6, .inl mf1)), (m2, .inl (cI, 6, .inl mf2))]
set_option maxHeartbeats 4000000 in
set_option maxRecDepth 100000 in
theorem c_X4_clear (l : Launch) (dC : Nat → ClassId) (dI : Nat → Nat → Nat) (cI cJ cZ : ClassId) (xh : Nat) (xv_lastStatus : Value) (ph : Nat) (pv_rows : Value) (pv_dropped : Value) (lh : Nat) (lq_now : Value) (lq_ahead : Value) (lq_isOld : Value) (lq_isReached : Value) (lq_mayThrow : Value) (lq_gatheredAny : Value) (lq_gatheredLeast : Value) (lq_gatheredGreatest : Value) (mh : Nat) (m1 : Nat) (m2 : Nat) (mv_hasRun : Value) (mv_thrown : Value) (mv_thrownAt : Value) (mv_lanes : Value) (mv_lengths : Value) (mv_cells : Value) (mv_state : Value) (mf1 : Nat → Int32) (mf2 : Nat → Int32) (sz : Nat) : Met l yX4_clear w_X4_clear ({ frames := 2, cells := 0, slots := 0, locals := 41 }) (va_Pc [.ref xh] (cPre dC dI cI cJ cZ sz (pw_X4_clear cI cJ cZ xh xv_lastStatus ph pv_rows pv_dropped lh lq_now lq_ahead lq_isOld lq_isReached lq_mayThrow lq_gatheredAny lq_gatheredLeast lq_gatheredGreatest mh m1 m2 mv_hasRun mv_thrown mv_thrownAt mv_lanes mv_lengths mv_cells mv_state mf1 mf2))) (va_Qi (fun (r : Int32) (u : Nat → Nat) => r = 0) (fun (u : Nat → Nat) => cPost dC dI cI cJ cZ (va_A (pw_X4_clear cI cJ cZ xh xv_lastStatus ph pv_rows pv_dropped lh lq_now lq_ahead lq_isOld lq_isReached lq_mayThrow lq_gatheredAny lq_gatheredLeast lq_gatheredGreatest mh m1 m2 mv_hasRun mv_thrown mv_thrownAt mv_lanes mv_lengths mv_cells mv_state mf1 mf2) sz) []) (va_A (pw_X4_clear cI cJ cZ xh xv_lastStatus ph pv_rows pv_dropped lh lq_now lq_ahead lq_isOld lq_isReached lq_mayThrow lq_gatheredAny lq_gatheredLeast lq_gatheredGreatest mh m1 m2 mv_hasRun mv_thrown mv_thrownAt mv_lanes mv_lengths mv_cells mv_state mf1 mf2) sz)) 0 0 (va_A (pw_X4_clear cI cJ cZ xh xv_lastStatus ph pv_rows pv_dropped lh lq_now lq_ahead lq_isOld lq_isReached lq_mayThrow lq_gatheredAny lq_gatheredLeast lq_gatheredGreatest mh m1 m2 mv_hasRun mv_thrown mv_thrownAt mv_lanes mv_lengths mv_cells mv_state mf1 mf2) sz) := by
  refine Met.ofW (cc := cX4_clear) (maxL := 2) (ret := (some .int)) (by decide) rfl ?_
  intro p e s m args below meth c s₁ B hml hv
  obtain ⟨rfl, hsz, hP, hK, hD0, hN⟩ := hv
  have hx := B.exec
  have hb := B.bytes
  have hr := B.returns
  have hts := atoms_spec (ws := w_X4_clear) B.pre
  have hown : s.vm.findClass RX4 = some m.cls := findClass_of_methodNamed B.named
  have hlocks := B.notSynchronized
  subst hsz
  have hD := hD0.self (sz := s.heap.size)
  generalize hAe : va_A (pw_X4_clear cI cJ cZ xh xv_lastStatus ph pv_rows pv_dropped lh lq_now lq_ahead lq_isOld lq_isReached lq_mayThrow lq_gatheredAny lq_gatheredLeast lq_gatheredGreatest mh m1 m2 mv_hasRun mv_thrown mv_thrownAt mv_lanes mv_lengths mv_cells mv_state mf1 mf2) s.heap.size = A at hD ⊢
  have hA : ∀ q : Nat, s.heap.size ≤ q → A q := fun q h => by rw [← hAe]; exact Or.inr h
  clear hAe hD0
  have hS : va_S A s.heap s.heap [] := va_S.rf
  replace hP : va_P (dC, dI) vwCl [(xh, .inr (4, [.ref ph, .ref lh, .ref mh, xv_lastStatus])), (ph, .inr (3, [pv_rows, pv_dropped, .int 0])), (lh, .inr (1, [lq_now, lq_ahead, lq_isOld, lq_isReached, lq_mayThrow, lq_gatheredAny, lq_gatheredLeast, lq_gatheredGreatest])), (mh, .inr (2, [mv_hasRun, mv_thrown, mv_thrownAt, .ref m1, .ref m2, mv_lanes, mv_lengths, mv_cells, mv_state])), (m1, .inl (cI, 6, .inl mf1)), (m2, .inl (cI, 6, .inl mf2))] s.heap := hP
  replace hD : va_D A [(xh, .inr (4, [.ref ph, .ref lh, .ref mh, xv_lastStatus])), (ph, .inr (3, [pv_rows, pv_dropped, .int 0])), (lh, .inr (1, [lq_now, lq_ahead, lq_isOld, lq_isReached, lq_mayThrow, lq_gatheredAny, lq_gatheredLeast, lq_gatheredGreatest])), (mh, .inr (2, [mv_hasRun, mv_thrown, mv_thrownAt, .ref m1, .ref m2, mv_lanes, mv_lengths, mv_cells, mv_state])), (m1, .inl (cI, 6, .inl mf1)), (m2, .inl (cI, 6, .inl mf2))] := hD
  have hl := lv_entry ([.ref xh]) (n := 2) (Nat.le_of_ble_eq_true rfl)
  rw [lg_entry_eq]
  generalize (lg_sl ([.ref xh]) ++ List.replicate (2 - (lg_sl ([.ref xh])).length) Slot.unset).toArray = ls at hl ⊢
  replace hl : lv_has ls 2 [(0, .ref xh)] := hl
  refine lv_aload_n hx hb dX4_clear_0 rfl (lv_at hl 0 rfl) ?_
  refine va_get (D := (dC, dI)) (ci := 4) (v := .ref ph) (C := RX4) (T := TX4) (N := 4) hx hb hts inc_X4_clear_X4 hown hK hP 0 rfl rfl 0 (by decide) (hts (.fieldLink RX4 10 "ArraySegments" "program" "LArraySegments$Program;") (List.mem_of_getElem? (i := 1) rfl)) (fun _ h9 => h9) rfl dX4_clear_1 ?_
  refine va_get (D := (dC, dI)) (ci := 3) (v := .int 0) (C := RX3) (T := TX3) (N := 3) hx hb hts inc_X4_clear_X3 hown hK hP 1 rfl rfl 2 (by decide) (hts (.fieldLink RX4 34 "ArraySegments$Program" "count" "I") (List.mem_of_getElem? (i := 2) rfl)) (fun _ h9 => h9) rfl dX4_clear_4 ?_
  refine lv_istore_n (lv' := [(1, .int 0), (0, .ref xh)]) hx hb dX4_clear_7 rfl hl (by decide) rfl (fun ls1 hl1 => ?_)
  replace hl := hl1; clear hl1
  refine lv_aload_n hx hb dX4_clear_8 rfl (lv_at hl 1 rfl) ?_
  refine va_get (D := (dC, dI)) (ci := 4) (v := .ref ph) (C := RX4) (T := TX4) (N := 4) hx hb hts inc_X4_clear_X4 hown hK hP 0 rfl rfl 0 (by decide) (hts (.fieldLink RX4 10 "ArraySegments" "program" "LArraySegments$Program;") (List.mem_of_getElem? (i := 1) rfl)) (fun _ h9 => h9) rfl dX4_clear_9 ?_
  have hPc := hP.sub (ws' := [(ph, .inr (3, [pv_rows, pv_dropped, .int 0]))]) [1] rfl
  have hDc := hD.sub (ws' := [(ph, .inr (3, [pv_rows, pv_dropped, .int 0]))]) [1] (by decide) rfl
  have hFc := va_free (wc := [(ph, .inr (3, [pv_rows, pv_dropped, .int 0]))]) hD hS hA [1] rfl
  refine va_callv (va_runV (As := []) (rest := []) ⟨hx, hb, hml, hown, hts⟩ (c_X3_removeAll l dC dI cI cJ cZ ph pv_rows pv_dropped s.heap.size) (cwV 0 hts g_X4_clear_X3_removeAll_37 rfl rfl rfl (by decide +kernel) ⟨Nat.le_of_ble_eq_true rfl, Nat.le_of_ble_eq_true rfl⟩) ⟨cPre_blind, va_recv hK hPc (ci := 3) (q0 := 0) rfl rfl, cPre_of hK hN hPc hDc⟩ rfl rfl hl.1 rfl (lv_room (Nat.le_of_ble_eq_true rfl)) dX4_clear_12 ⟨Nat.le_of_ble_eq_true rfl, Nat.le_of_ble_eq_true rfl⟩) hS (fun q _ h => hFc q h) hFc (fun u_1 t_1 H_1 locs_1 ht hvm hw_1 hB hz1 hk1 hS1 => ?_)
  obtain ⟨hP1, hK1, hD1⟩ := hB
  rw [ht] at hP1
  obtain ⟨hP2, hD2⟩ := va_join (wr := [(xh, .inr (4, [.ref ph, .ref lh, .ref mh, xv_lastStatus])), (lh, .inr (1, [lq_now, lq_ahead, lq_isOld, lq_isReached, lq_mayThrow, lq_gatheredAny, lq_gatheredLeast, lq_gatheredGreatest])), (mh, .inr (2, [mv_hasRun, mv_thrown, mv_thrownAt, .ref m1, .ref m2, mv_lanes, mv_lengths, mv_cells, mv_state])), (m1, .inl (cI, 6, .inl mf1)), (m2, .inl (cI, 6, .inl mf2))]) (w1 := [(ph, .inr (3, [pv_rows, pv_dropped, .int 0]))]) hP hD [1] [0, 2, 3, 4, 5] rfl rfl (by decide) (by decide) hk1 hFc hP1 hD1
  clear hPc hDc hFc hP1 hD1 hK1 hk1 hz1 hvm ht
  replace hP : va_P (dC, dI) vwCl [(xh, .inr (4, [.ref ph, .ref lh, .ref mh, xv_lastStatus])), (lh, .inr (1, [lq_now, lq_ahead, lq_isOld, lq_isReached, lq_mayThrow, lq_gatheredAny, lq_gatheredLeast, lq_gatheredGreatest])), (mh, .inr (2, [mv_hasRun, mv_thrown, mv_thrownAt, .ref m1, .ref m2, mv_lanes, mv_lengths, mv_cells, mv_state])), (m1, .inl (cI, 6, .inl mf1)), (m2, .inl (cI, 6, .inl mf2)), (ph, .inr (3, [pv_rows, pv_dropped, .int 0]))] H_1 := hP2
  replace hD : va_D A [(xh, .inr (4, [.ref ph, .ref lh, .ref mh, xv_lastStatus])), (lh, .inr (1, [lq_now, lq_ahead, lq_isOld, lq_isReached, lq_mayThrow, lq_gatheredAny, lq_gatheredLeast, lq_gatheredGreatest])), (mh, .inr (2, [mv_hasRun, mv_thrown, mv_thrownAt, .ref m1, .ref m2, mv_lanes, mv_lengths, mv_cells, mv_state])), (m1, .inl (cI, 6, .inl mf1)), (m2, .inl (cI, 6, .inl mf2)), (ph, .inr (3, [pv_rows, pv_dropped, .int 0]))] := hD2
  replace hS := hS1
  clear hP2 hD2 hS1
  refine lv_aload_n hx hb dX4_clear_15 rfl (lv_at hl 1 rfl) ?_
  have hPc := hP.sub (ws' := [(xh, .inr (4, [.ref ph, .ref lh, .ref mh, xv_lastStatus])), (lh, .inr (1, [lq_now, lq_ahead, lq_isOld, lq_isReached, lq_mayThrow, lq_gatheredAny, lq_gatheredLeast, lq_gatheredGreatest])), (mh, .inr (2, [mv_hasRun, mv_thrown, mv_thrownAt, .ref m1, .ref m2, mv_lanes, mv_lengths, mv_cells, mv_state])), (m1, .inl (cI, 6, .inl mf1)), (m2, .inl (cI, 6, .inl mf2))]) [0, 1, 2, 3, 4] rfl
  have hDc := hD.sub (ws' := [(xh, .inr (4, [.ref ph, .ref lh, .ref mh, xv_lastStatus])), (lh, .inr (1, [lq_now, lq_ahead, lq_isOld, lq_isReached, lq_mayThrow, lq_gatheredAny, lq_gatheredLeast, lq_gatheredGreatest])), (mh, .inr (2, [mv_hasRun, mv_thrown, mv_thrownAt, .ref m1, .ref m2, mv_lanes, mv_lengths, mv_cells, mv_state])), (m1, .inl (cI, 6, .inl mf1)), (m2, .inl (cI, 6, .inl mf2))]) [0, 1, 2, 3, 4] (by decide) rfl
  have hFc := va_free (wc := [(xh, .inr (4, [.ref ph, .ref lh, .ref mh, xv_lastStatus])), (lh, .inr (1, [lq_now, lq_ahead, lq_isOld, lq_isReached, lq_mayThrow, lq_gatheredAny, lq_gatheredLeast, lq_gatheredGreatest])), (mh, .inr (2, [mv_hasRun, mv_thrown, mv_thrownAt, .ref m1, .ref m2, mv_lanes, mv_lengths, mv_cells, mv_state])), (m1, .inl (cI, 6, .inl mf1)), (m2, .inl (cI, 6, .inl mf2))]) hD hS hA [0, 1, 2, 3, 4] rfl
  refine va_callv (va_runV (As := []) (rest := []) ⟨hx, hb, hml, hown, hts⟩ (c_X4_programChanged l dC dI cI cJ cZ xh xv_lastStatus ph lh lq_now lq_ahead lq_isOld lq_isReached lq_mayThrow lq_gatheredAny lq_gatheredLeast lq_gatheredGreatest mh m1 m2 mv_hasRun mv_thrown mv_thrownAt mv_lanes mv_lengths mv_cells mv_state mf1 mf2 H_1.size) (cwV 0 hts g_X4_clear_X4_programChanged_40 rfl rfl rfl (by decide +kernel) ⟨Nat.le_of_ble_eq_true rfl, Nat.le_of_ble_eq_true rfl⟩) ⟨cPre_blind, va_recv hK hPc (ci := 4) (q0 := 0) rfl rfl, cPre_of hK hN hPc hDc⟩ rfl rfl hl.1 rfl (lv_room (Nat.le_of_ble_eq_true rfl)) dX4_clear_16 ⟨Nat.le_of_ble_eq_true rfl, Nat.le_of_ble_eq_true rfl⟩) hS (fun q _ h => hFc q h) hFc (fun u_2 t_2 H_2 locs_2 ht hvm hw_2 hB hz1 hk1 hS1 => ?_)
  obtain ⟨hP1, hK1, hD1⟩ := hB
  rw [ht] at hP1
  obtain ⟨hP2, hD2⟩ := va_join (wr := [(ph, .inr (3, [pv_rows, pv_dropped, .int 0]))]) (w1 := [(xh, .inr (4, [.ref ph, .ref lh, .ref mh, xv_lastStatus])), (lh, .inr (1, [lq_now, lq_ahead, .int 1, lq_isReached, lq_mayThrow, lq_gatheredAny, lq_gatheredLeast, lq_gatheredGreatest])), (mh, .inr (2, [.int 0, .int 0, .int (-1), .ref m1, .ref m2, mv_lanes, mv_lengths, mv_cells, mv_state])), (m1, .inl (cI, 6, .inl (ov mf1 6 0))), (m2, .inl (cI, 6, .inl (ov mf2 6 (-1))))]) hP hD [0, 1, 2, 3, 4] [5] rfl rfl (by decide) (by decide) hk1 hFc hP1 hD1
  clear hPc hDc hFc hP1 hD1 hK1 hk1 hz1 hvm ht
  replace hP : va_P (dC, dI) vwCl [(ph, .inr (3, [pv_rows, pv_dropped, .int 0])), (xh, .inr (4, [.ref ph, .ref lh, .ref mh, xv_lastStatus])), (lh, .inr (1, [lq_now, lq_ahead, .int 1, lq_isReached, lq_mayThrow, lq_gatheredAny, lq_gatheredLeast, lq_gatheredGreatest])), (mh, .inr (2, [.int 0, .int 0, .int (-1), .ref m1, .ref m2, mv_lanes, mv_lengths, mv_cells, mv_state])), (m1, .inl (cI, 6, .inl (ov mf1 6 0))), (m2, .inl (cI, 6, .inl (ov mf2 6 (-1))))] H_2 := hP2
  replace hD : va_D A [(ph, .inr (3, [pv_rows, pv_dropped, .int 0])), (xh, .inr (4, [.ref ph, .ref lh, .ref mh, xv_lastStatus])), (lh, .inr (1, [lq_now, lq_ahead, .int 1, lq_isReached, lq_mayThrow, lq_gatheredAny, lq_gatheredLeast, lq_gatheredGreatest])), (mh, .inr (2, [.int 0, .int 0, .int (-1), .ref m1, .ref m2, mv_lanes, mv_lengths, mv_cells, mv_state])), (m1, .inl (cI, 6, .inl (ov mf1 6 0))), (m2, .inl (cI, 6, .inl (ov mf2 6 (-1))))] := hD2
  replace hS := hS1
  clear hP2 hD2 hS1
  refine lv_iload_n hx hb dX4_clear_19 rfl (lv_at hl 0 rfl) ?_
  have hP9 := hP.sub (ws' := []) [] rfl
  have hD9 := hD.sub (ws' := []) [] (by decide) rfl
  exact W.iret (v := 0) hx hb hr (fun t ht hW => ⟨⟨0, (fun _ => 0), rfl, rfl, by rw [ht]; exact hP9, va_K.moved hW.alike hK, hD9⟩, hS.F ht⟩) hS.2.2 dX4_clear_20

def w_X4_act : List Cond := .code yX4_act cX4_act 8 (some .int) :: ([.methodLink RX4 43 yX3_isAct, .static yX3_isAct, .initialized RX3, .code yX3_isAct cX3_isAct 6 (some .boolean), .code yX4_isVariable cX4_isVariable 1 (some .boolean), .initialized RX4, .static yX4_isVariable, .code yX4_isNumber cX4_isNumber 1 (some .boolean), .constant RX4 204 (-1000000), .constant RX4 205 (1000000), .static yX4_isNumber, .code yX4_isReference cX4_isReference 1 (some .boolean), .static yX4_isReference, .code yX4_isLane cX4_isLane 1 (some .boolean), .static yX4_isLane, .fieldLink RX4 10 "ArraySegments" "program" "LArraySegments$Program;", .fieldLink RX4 34 "ArraySegments$Program" "count" "I", .methodLink RX4 47 yX3_append, .instanceMethod yX3_append, .selects RX3 yX3_append yX3_append, .code yX3_append cX3_append 8 (some .int), .fieldLink RX3 19 "ArraySegments$Program" "count" "I", .fieldLink RX3 11 "ArraySegments$Program" "rows" "[I", .fieldLink RX3 15 "ArraySegments$Program" "dropped" "[Z", .methodLink RX4 40 yX4_programChanged, .instanceMethod yX4_programChanged, .selects RX4 yX4_programChanged yX4_programChanged, .code yX4_programChanged cX4_programChanged 1 none, .fieldLink RX4 19 "ArraySegments" "flow" "LArraySegments$Flow;", .fieldLink RX4 191 "ArraySegments$Flow" "isOld" "Z", .fieldLink RX4 26 "ArraySegments" "machine" "LArraySegments$Machine;", .methodLink RX4 194 yX2_forget, .instanceMethod yX2_forget, .selects RX2 yX2_forget yX2_forget, .initialized RX2, .code yX2_forget cX2_forget 2 none, .fieldLink RX2 9 "ArraySegments$Machine" "hasRun" "Z", .fieldLink RX2 15 "ArraySegments$Machine" "thrown" "I", .fieldLink RX2 19 "ArraySegments$Machine" "thrownAt" "I", .fieldLink RX2 26 "ArraySegments$Machine" "meant" "[I", .fieldLink RX2 22 "ArraySegments$Machine" "values" "[I"] ++ wsX40 ++ wsX30 ++ wsX10 ++ wsX20)
theorem inc_X4_act_X3 : ∀ w ∈ wsX30, w ∈ w_X4_act := fun _ h => List.mem_cons_of_mem _ (List.mem_append_left _ (List.mem_append_left _ (List.mem_append_right _ h)))
theorem inc_X4_act_X4 : ∀ w ∈ wsX40, w ∈ w_X4_act := fun _ h => List.mem_cons_of_mem _ (List.mem_append_left _ (List.mem_append_left _ (List.mem_append_left _ (List.mem_append_right _ h))))
set_option maxRecDepth 20000 in
theorem g_X4_act_X3_isAct_43 : GoodIn w_X4_act (va_wsS RX4 43 yX3_isAct w_X3_isAct) := goodIn_r _ [1, 2, 3, 4, 5, 6, 7, 8, 9, 10, 11, 12, 13, 14, 15] (by decide +kernel) (by decide +kernel)
set_option maxRecDepth 20000 in
theorem g_X4_act_X3_append_47 : GoodIn w_X4_act (wsV RX4 47 RX3 yX3_append w_X3_append) := goodIn_r _ [18, 19, 20, 3, 21, 22, 23, 24, 46, 47, 48] (by decide +kernel) (by decide +kernel)
set_option maxRecDepth 20000 in
theorem g_X4_act_X4_programChanged_40 : GoodIn w_X4_act (wsV RX4 40 RX4 yX4_programChanged w_X4_programChanged) := goodIn_r _ [25, 26, 27, 6, 28, 29, 30, 31, 32, 33, 34, 35, 36, 37, 38, 39, 40, 41, 42, 43, 44, 45, 49, 50, 51, 52, 53, 54, 55, 56, 57, 58, 59, 60, 61, 62, 63, 64, 65] (by decide +kernel) (by decide +kernel)
abbrev pw_X4_act (cI cJ cZ : ClassId) (xh : Nat) (xv_lastStatus : Value) (ph : Nat) (pr : Nat) (pd : Nat) (rf : Nat → Int32) (df : Nat → Int32) (lh : Nat) (lq_now : Value) (lq_ahead : Value) (lq_isOld : Value) (lq_isReached : Value) (lq_mayThrow : Value) (lq_gatheredAny : Value) (lq_gatheredLeast : Value) (lq_gatheredGreatest : Value) (mh : Nat) (m1 : Nat) (m2 : Nat) (mv_hasRun : Value) (mv_thrown : Value) (mv_thrownAt : Value) (mv_lanes : Value) (mv_lengths : Value) (mv_cells : Value) (mv_state : Value) (mf1 : Nat → Int32) (mf2 : Nat → Int32) (ka : Int32) (aa : Int32) (ba : Int32) (ca : Int32) (da : Int32) (ea : Int32) : va_W := [(xh, .inr (4, [.ref ph, .ref lh, .ref mh, xv_lastStatus])), (ph, .inr (3, [.ref pr, .ref pd, .int 0])), (pr, .inl (cI, 240, .inl rf)), (pd, .inl (cZ, 40, .inl df)), (lh, .inr (1, [lq_now, lq_ahead, lq_isOld, lq_isReached, lq_mayThrow, lq_gatheredAny, lq_gatheredLeast, lq_gatheredGreatest])), (mh, .inr (2, [mv_hasRun, mv_thrown, mv_thrownAt, .ref m1, .ref m2, mv_lanes, mv_lengths, mv_cells, mv_state])), (m1, .inl (cI, 6, .inl mf1)), (m2, .inl (cI, 6, .inl mf2))]
set_option maxHeartbeats 4000000 in
set_option maxRecDepth 100000 in
theorem c_X4_act (l : Launch) (dC : Nat → ClassId) (dI : Nat → Nat → Nat) (cI cJ cZ : ClassId) (xh : Nat) (xv_lastStatus : Value) (ph : Nat) (pr : Nat) (pd : Nat) (rf : Nat → Int32) (df : Nat → Int32) (lh : Nat) (lq_now : Value) (lq_ahead : Value) (lq_isOld : Value) (lq_isReached : Value) (lq_mayThrow : Value) (lq_gatheredAny : Value) (lq_gatheredLeast : Value) (lq_gatheredGreatest : Value) (mh : Nat) (m1 : Nat) (m2 : Nat) (mv_hasRun : Value) (mv_thrown : Value) (mv_thrownAt : Value) (mv_lanes : Value) (mv_lengths : Value) (mv_cells : Value) (mv_state : Value) (mf1 : Nat → Int32) (mf2 : Nat → Int32) (ka : Int32) (aa : Int32) (ba : Int32) (ca : Int32) (da : Int32) (ea : Int32) (sz : Nat) : Met l yX4_act w_X4_act ({ frames := 2, cells := 0, slots := 0, locals := 45 }) (va_Pc [.ref xh, .int ka, .int aa, .int ba, .int ca, .int da, .int ea] (cPre dC dI cI cJ cZ sz (pw_X4_act cI cJ cZ xh xv_lastStatus ph pr pd rf df lh lq_now lq_ahead lq_isOld lq_isReached lq_mayThrow lq_gatheredAny lq_gatheredLeast lq_gatheredGreatest mh m1 m2 mv_hasRun mv_thrown mv_thrownAt mv_lanes mv_lengths mv_cells mv_state mf1 mf2 ka aa ba ca da ea))) (va_Qi (fun (r : Int32) (u : Nat → Nat) => two r (okP ka aa ba ca da ea) 0 (-2)) (fun (u : Nat → Nat) => cPost dC dI cI cJ cZ (va_A (pw_X4_act cI cJ cZ xh xv_lastStatus ph pr pd rf df lh lq_now lq_ahead lq_isOld lq_isReached lq_mayThrow lq_gatheredAny lq_gatheredLeast lq_gatheredGreatest mh m1 m2 mv_hasRun mv_thrown mv_thrownAt mv_lanes mv_lengths mv_cells mv_state mf1 mf2 ka aa ba ca da ea) sz) []) (va_A (pw_X4_act cI cJ cZ xh xv_lastStatus ph pr pd rf df lh lq_now lq_ahead lq_isOld lq_isReached lq_mayThrow lq_gatheredAny lq_gatheredLeast lq_gatheredGreatest mh m1 m2 mv_hasRun mv_thrown mv_thrownAt mv_lanes mv_lengths mv_cells mv_state mf1 mf2 ka aa ba ca da ea) sz)) 0 0 (va_A (pw_X4_act cI cJ cZ xh xv_lastStatus ph pr pd rf df lh lq_now lq_ahead lq_isOld lq_isReached lq_mayThrow lq_gatheredAny lq_gatheredLeast lq_gatheredGreatest mh m1 m2 mv_hasRun mv_thrown mv_thrownAt mv_lanes mv_lengths mv_cells mv_state mf1 mf2 ka aa ba ca da ea) sz) := by
  refine Met.ofW (cc := cX4_act) (maxL := 8) (ret := (some .int)) (by decide) rfl ?_
  intro p e s m args below meth c s₁ B hml hv
  obtain ⟨rfl, hsz, hP, hK, hD0, hN⟩ := hv
  have hx := B.exec
  have hb := B.bytes
  have hr := B.returns
  have hts := atoms_spec (ws := w_X4_act) B.pre
  have hown : s.vm.findClass RX4 = some m.cls := findClass_of_methodNamed B.named
  have hlocks := B.notSynchronized
  subst hsz
  have hD := hD0.self (sz := s.heap.size)
  generalize hAe : va_A (pw_X4_act cI cJ cZ xh xv_lastStatus ph pr pd rf df lh lq_now lq_ahead lq_isOld lq_isReached lq_mayThrow lq_gatheredAny lq_gatheredLeast lq_gatheredGreatest mh m1 m2 mv_hasRun mv_thrown mv_thrownAt mv_lanes mv_lengths mv_cells mv_state mf1 mf2 ka aa ba ca da ea) s.heap.size = A at hD ⊢
  have hA : ∀ q : Nat, s.heap.size ≤ q → A q := fun q h => by rw [← hAe]; exact Or.inr h
  clear hAe hD0
  have hS : va_S A s.heap s.heap [] := va_S.rf
  replace hP : va_P (dC, dI) vwCl [(xh, .inr (4, [.ref ph, .ref lh, .ref mh, xv_lastStatus])), (ph, .inr (3, [.ref pr, .ref pd, .int 0])), (pr, .inl (cI, 240, .inl rf)), (pd, .inl (cZ, 40, .inl df)), (lh, .inr (1, [lq_now, lq_ahead, lq_isOld, lq_isReached, lq_mayThrow, lq_gatheredAny, lq_gatheredLeast, lq_gatheredGreatest])), (mh, .inr (2, [mv_hasRun, mv_thrown, mv_thrownAt, .ref m1, .ref m2, mv_lanes, mv_lengths, mv_cells, mv_state])), (m1, .inl (cI, 6, .inl mf1)), (m2, .inl (cI, 6, .inl mf2))] s.heap := hP
  replace hD : va_D A [(xh, .inr (4, [.ref ph, .ref lh, .ref mh, xv_lastStatus])), (ph, .inr (3, [.ref pr, .ref pd, .int 0])), (pr, .inl (cI, 240, .inl rf)), (pd, .inl (cZ, 40, .inl df)), (lh, .inr (1, [lq_now, lq_ahead, lq_isOld, lq_isReached, lq_mayThrow, lq_gatheredAny, lq_gatheredLeast, lq_gatheredGreatest])), (mh, .inr (2, [mv_hasRun, mv_thrown, mv_thrownAt, .ref m1, .ref m2, mv_lanes, mv_lengths, mv_cells, mv_state])), (m1, .inl (cI, 6, .inl mf1)), (m2, .inl (cI, 6, .inl mf2))] := hD
  have hl := lv_entry ([.ref xh, .int ka, .int aa, .int ba, .int ca, .int da, .int ea]) (n := 8) (Nat.le_of_ble_eq_true rfl)
  rw [lg_entry_eq]
  generalize (lg_sl ([.ref xh, .int ka, .int aa, .int ba, .int ca, .int da, .int ea]) ++ List.replicate (8 - (lg_sl ([.ref xh, .int ka, .int aa, .int ba, .int ca, .int da, .int ea])).length) Slot.unset).toArray = ls at hl ⊢
  replace hl : lv_has ls 8 [(0, .ref xh), (1, .int ka), (2, .int aa), (3, .int ba), (4, .int ca), (5, .int da), (6, .int ea)] := hl
  refine lv_iload_n hx hb dX4_act_0 rfl (lv_at hl 1 rfl) ?_
  refine lv_iload_n hx hb dX4_act_1 rfl (lv_at hl 2 rfl) ?_
  refine lv_iload_n hx hb dX4_act_2 rfl (lv_at hl 3 rfl) ?_
  refine lv_iload hx hb dX4_act_3 (lv_at hl 4 rfl) ?_
  refine lv_iload hx hb dX4_act_5 (lv_at hl 5 rfl) ?_
  refine lv_iload hx hb dX4_act_7 (lv_at hl 6 rfl) ?_
  have hPc := hP.sub (ws' := []) [] rfl
  have hDc := hD.sub (ws' := []) [] (by decide) rfl
  have hFc := va_free (wc := []) hD hS hA [] rfl
  refine va_calli (va_runS (As := [.int ka, .int aa, .int ba, .int ca, .int da, .int ea]) (rest := []) ⟨hx, hb, hml, hown, hts⟩ (c_X3_isAct l dC dI cI cJ cZ ka aa ba ca da ea s.heap.size) (va_cwS 6 hts g_X4_act_X3_isAct_43 rfl rfl rfl (by decide +kernel) ⟨Nat.le_of_ble_eq_true rfl, Nat.le_of_ble_eq_true rfl⟩) ⟨cPre_blind, cPre_of hK hN hPc hDc⟩ rfl rfl hl.1 rfl (lv_room (Nat.le_of_ble_eq_true rfl)) dX4_act_9 ⟨Nat.le_of_ble_eq_true rfl, Nat.le_of_ble_eq_true rfl⟩) hS (fun q _ h => hFc q h) hFc (fun r_1 u_1 t_1 H_1 locs_1 ht hvm hw_1 hB hz1 hk1 hS1 => ?_)
  obtain ⟨hP1, hK1, hD1⟩ := hB
  rw [ht] at hP1
  obtain ⟨hP2, hD2⟩ := va_join (wr := [(xh, .inr (4, [.ref ph, .ref lh, .ref mh, xv_lastStatus])), (ph, .inr (3, [.ref pr, .ref pd, .int 0])), (pr, .inl (cI, 240, .inl rf)), (pd, .inl (cZ, 40, .inl df)), (lh, .inr (1, [lq_now, lq_ahead, lq_isOld, lq_isReached, lq_mayThrow, lq_gatheredAny, lq_gatheredLeast, lq_gatheredGreatest])), (mh, .inr (2, [mv_hasRun, mv_thrown, mv_thrownAt, .ref m1, .ref m2, mv_lanes, mv_lengths, mv_cells, mv_state])), (m1, .inl (cI, 6, .inl mf1)), (m2, .inl (cI, 6, .inl mf2))]) (w1 := []) hP hD [] [0, 1, 2, 3, 4, 5, 6, 7] rfl rfl (by decide) (by decide) hk1 hFc hP1 hD1
  clear hPc hDc hFc hP1 hD1 hK1 hk1 hz1 hvm ht
  replace hP : va_P (dC, dI) vwCl [(xh, .inr (4, [.ref ph, .ref lh, .ref mh, xv_lastStatus])), (ph, .inr (3, [.ref pr, .ref pd, .int 0])), (pr, .inl (cI, 240, .inl rf)), (pd, .inl (cZ, 40, .inl df)), (lh, .inr (1, [lq_now, lq_ahead, lq_isOld, lq_isReached, lq_mayThrow, lq_gatheredAny, lq_gatheredLeast, lq_gatheredGreatest])), (mh, .inr (2, [mv_hasRun, mv_thrown, mv_thrownAt, .ref m1, .ref m2, mv_lanes, mv_lengths, mv_cells, mv_state])), (m1, .inl (cI, 6, .inl mf1)), (m2, .inl (cI, 6, .inl mf2))] H_1 := hP2
  replace hD : va_D A [(xh, .inr (4, [.ref ph, .ref lh, .ref mh, xv_lastStatus])), (ph, .inr (3, [.ref pr, .ref pd, .int 0])), (pr, .inl (cI, 240, .inl rf)), (pd, .inl (cZ, 40, .inl df)), (lh, .inr (1, [lq_now, lq_ahead, lq_isOld, lq_isReached, lq_mayThrow, lq_gatheredAny, lq_gatheredLeast, lq_gatheredGreatest])), (mh, .inr (2, [mv_hasRun, mv_thrown, mv_thrownAt, .ref m1, .ref m2, mv_lanes, mv_lengths, mv_cells, mv_state])), (m1, .inl (cI, 6, .inl mf1)), (m2, .inl (cI, 6, .inl mf2))] := hD2
  replace hS := hS1
  clear hP2 hD2 hS1
  refine lv_if_ne (tgt := 18) hx hb dX4_act_12 (by decide) (fun c_2 => ?_) (fun c_2 => ?_)
  · -- yes
    have k_2 : okP ka aa ba ca da ea := two_nz hw_1 c_2
    refine lv_aload_n hx hb dX4_act_18 rfl (lv_at hl 0 rfl) ?_
    refine va_get (D := (dC, dI)) (ci := 4) (v := .ref ph) (C := RX4) (T := TX4) (N := 4) hx hb hts inc_X4_act_X4 hown hK hP 0 rfl rfl 0 (by decide) (hts (.fieldLink RX4 10 "ArraySegments" "program" "LArraySegments$Program;") (List.mem_of_getElem? (i := 16) rfl)) (fun _ h9 => h9) rfl dX4_act_19 ?_
    refine va_get (D := (dC, dI)) (ci := 3) (v := .int 0) (C := RX3) (T := TX3) (N := 3) hx hb hts inc_X4_act_X3 hown hK hP 1 rfl rfl 2 (by decide) (hts (.fieldLink RX4 34 "ArraySegments$Program" "count" "I") (List.mem_of_getElem? (i := 17) rfl)) (fun _ h9 => h9) rfl dX4_act_22 ?_
    refine lv_bipush (v := 40) hx hb dX4_act_25 (by decide) ?_
    refine lv_icmp_lt (tgt := 33) hx hb dX4_act_27 (by decide) (fun c_3 => ?_) (fun c_3 => ?_)
    · -- on
      refine lv_aload_n hx hb dX4_act_33 rfl (lv_at hl 0 rfl) ?_
      refine va_get (D := (dC, dI)) (ci := 4) (v := .ref ph) (C := RX4) (T := TX4) (N := 4) hx hb hts inc_X4_act_X4 hown hK hP 0 rfl rfl 0 (by decide) (hts (.fieldLink RX4 10 "ArraySegments" "program" "LArraySegments$Program;") (List.mem_of_getElem? (i := 16) rfl)) (fun _ h9 => h9) rfl dX4_act_34 ?_
      refine lv_iload_n hx hb dX4_act_37 rfl (lv_at hl 1 rfl) ?_
      refine lv_iload_n hx hb dX4_act_38 rfl (lv_at hl 2 rfl) ?_
      refine lv_iload_n hx hb dX4_act_39 rfl (lv_at hl 3 rfl) ?_
      refine lv_iload hx hb dX4_act_40 (lv_at hl 4 rfl) ?_
      refine lv_iload hx hb dX4_act_42 (lv_at hl 5 rfl) ?_
      refine lv_iload hx hb dX4_act_44 (lv_at hl 6 rfl) ?_
      have hPc := hP.sub (ws' := [(ph, .inr (3, [.ref pr, .ref pd, .int 0])), (pr, .inl (cI, 240, .inl rf)), (pd, .inl (cZ, 40, .inl df))]) [1, 2, 3] rfl
      have hDc := hD.sub (ws' := [(ph, .inr (3, [.ref pr, .ref pd, .int 0])), (pr, .inl (cI, 240, .inl rf)), (pd, .inl (cZ, 40, .inl df))]) [1, 2, 3] (by decide) rfl
      have hFc := va_free (wc := [(ph, .inr (3, [.ref pr, .ref pd, .int 0])), (pr, .inl (cI, 240, .inl rf)), (pd, .inl (cZ, 40, .inl df))]) hD hS hA [1, 2, 3] rfl
      refine va_calli (va_runV (As := [.int ka, .int aa, .int ba, .int ca, .int da, .int ea]) (rest := []) ⟨hx, hb, hml, hown, hts⟩ (c_X3_append l dC dI cI cJ cZ ph pr pd rf df ka aa ba ca da ea H_1.size) (cwV 6 hts g_X4_act_X3_append_47 rfl rfl rfl (by decide +kernel) ⟨Nat.le_of_ble_eq_true rfl, Nat.le_of_ble_eq_true rfl⟩) ⟨cPre_blind, va_recv hK hPc (ci := 3) (q0 := 0) rfl rfl, cPre_of hK hN hPc hDc⟩ rfl rfl hl.1 rfl (lv_room (Nat.le_of_ble_eq_true rfl)) dX4_act_46 ⟨Nat.le_of_ble_eq_true rfl, Nat.le_of_ble_eq_true rfl⟩) hS (fun q _ h => hFc q h) hFc (fun r_4 u_4 t_4 H_4 locs_4 ht hvm hw_4 hB hz1 hk1 hS1 => ?_)
      obtain ⟨hP1, hK1, hD1⟩ := hB
      rw [ht] at hP1
      obtain ⟨hP2, hD2⟩ := va_join (wr := [(xh, .inr (4, [.ref ph, .ref lh, .ref mh, xv_lastStatus])), (lh, .inr (1, [lq_now, lq_ahead, lq_isOld, lq_isReached, lq_mayThrow, lq_gatheredAny, lq_gatheredLeast, lq_gatheredGreatest])), (mh, .inr (2, [mv_hasRun, mv_thrown, mv_thrownAt, .ref m1, .ref m2, mv_lanes, mv_lengths, mv_cells, mv_state])), (m1, .inl (cI, 6, .inl mf1)), (m2, .inl (cI, 6, .inl mf2))]) (w1 := []) hP hD [1, 2, 3] [0, 4, 5, 6, 7] rfl rfl (by decide) (by decide) hk1 hFc hP1 hD1
      clear hPc hDc hFc hP1 hD1 hK1 hk1 hz1 hvm ht
      replace hP : va_P (dC, dI) vwCl [(xh, .inr (4, [.ref ph, .ref lh, .ref mh, xv_lastStatus])), (lh, .inr (1, [lq_now, lq_ahead, lq_isOld, lq_isReached, lq_mayThrow, lq_gatheredAny, lq_gatheredLeast, lq_gatheredGreatest])), (mh, .inr (2, [mv_hasRun, mv_thrown, mv_thrownAt, .ref m1, .ref m2, mv_lanes, mv_lengths, mv_cells, mv_state])), (m1, .inl (cI, 6, .inl mf1)), (m2, .inl (cI, 6, .inl mf2))] H_4 := hP2
      replace hD : va_D A [(xh, .inr (4, [.ref ph, .ref lh, .ref mh, xv_lastStatus])), (lh, .inr (1, [lq_now, lq_ahead, lq_isOld, lq_isReached, lq_mayThrow, lq_gatheredAny, lq_gatheredLeast, lq_gatheredGreatest])), (mh, .inr (2, [mv_hasRun, mv_thrown, mv_thrownAt, .ref m1, .ref m2, mv_lanes, mv_lengths, mv_cells, mv_state])), (m1, .inl (cI, 6, .inl mf1)), (m2, .inl (cI, 6, .inl mf2))] := hD2
      replace hS := hS1
      clear hP2 hD2 hS1
      refine my_topi (y := 0) hw_4 ?_
      refine lv_istore (lv' := [(7, .int 0), (0, .ref xh), (1, .int ka), (2, .int aa), (3, .int ba), (4, .int ca), (5, .int da), (6, .int ea)]) hx hb dX4_act_49 hl (by decide) rfl (fun ls1 hl1 => ?_)
      replace hl := hl1; clear hl1
      refine lv_aload_n hx hb dX4_act_51 rfl (lv_at hl 1 rfl) ?_
      have hPc := hP.sub (ws' := [(xh, .inr (4, [.ref ph, .ref lh, .ref mh, xv_lastStatus])), (lh, .inr (1, [lq_now, lq_ahead, lq_isOld, lq_isReached, lq_mayThrow, lq_gatheredAny, lq_gatheredLeast, lq_gatheredGreatest])), (mh, .inr (2, [mv_hasRun, mv_thrown, mv_thrownAt, .ref m1, .ref m2, mv_lanes, mv_lengths, mv_cells, mv_state])), (m1, .inl (cI, 6, .inl mf1)), (m2, .inl (cI, 6, .inl mf2))]) [0, 1, 2, 3, 4] rfl
      have hDc := hD.sub (ws' := [(xh, .inr (4, [.ref ph, .ref lh, .ref mh, xv_lastStatus])), (lh, .inr (1, [lq_now, lq_ahead, lq_isOld, lq_isReached, lq_mayThrow, lq_gatheredAny, lq_gatheredLeast, lq_gatheredGreatest])), (mh, .inr (2, [mv_hasRun, mv_thrown, mv_thrownAt, .ref m1, .ref m2, mv_lanes, mv_lengths, mv_cells, mv_state])), (m1, .inl (cI, 6, .inl mf1)), (m2, .inl (cI, 6, .inl mf2))]) [0, 1, 2, 3, 4] (by decide) rfl
      have hFc := va_free (wc := [(xh, .inr (4, [.ref ph, .ref lh, .ref mh, xv_lastStatus])), (lh, .inr (1, [lq_now, lq_ahead, lq_isOld, lq_isReached, lq_mayThrow, lq_gatheredAny, lq_gatheredLeast, lq_gatheredGreatest])), (mh, .inr (2, [mv_hasRun, mv_thrown, mv_thrownAt, .ref m1, .ref m2, mv_lanes, mv_lengths, mv_cells, mv_state])), (m1, .inl (cI, 6, .inl mf1)), (m2, .inl (cI, 6, .inl mf2))]) hD hS hA [0, 1, 2, 3, 4] rfl
      refine va_callv (va_runV (As := []) (rest := []) ⟨hx, hb, hml, hown, hts⟩ (c_X4_programChanged l dC dI cI cJ cZ xh xv_lastStatus ph lh lq_now lq_ahead lq_isOld lq_isReached lq_mayThrow lq_gatheredAny lq_gatheredLeast lq_gatheredGreatest mh m1 m2 mv_hasRun mv_thrown mv_thrownAt mv_lanes mv_lengths mv_cells mv_state mf1 mf2 H_4.size) (cwV 0 hts g_X4_act_X4_programChanged_40 rfl rfl rfl (by decide +kernel) ⟨Nat.le_of_ble_eq_true rfl, Nat.le_of_ble_eq_true rfl⟩) ⟨cPre_blind, va_recv hK hPc (ci := 4) (q0 := 0) rfl rfl, cPre_of hK hN hPc hDc⟩ rfl rfl hl.1 rfl (lv_room (Nat.le_of_ble_eq_true rfl)) dX4_act_52 ⟨Nat.le_of_ble_eq_true rfl, Nat.le_of_ble_eq_true rfl⟩) hS (fun q _ h => hFc q h) hFc (fun u_5 t_5 H_5 locs_5 ht hvm hw_5 hB hz1 hk1 hS1 => ?_)
      obtain ⟨hP1, hK1, hD1⟩ := hB
      rw [ht] at hP1
      obtain ⟨hP2, hD2⟩ := va_join (wr := []) (w1 := [(xh, .inr (4, [.ref ph, .ref lh, .ref mh, xv_lastStatus])), (lh, .inr (1, [lq_now, lq_ahead, .int 1, lq_isReached, lq_mayThrow, lq_gatheredAny, lq_gatheredLeast, lq_gatheredGreatest])), (mh, .inr (2, [.int 0, .int 0, .int (-1), .ref m1, .ref m2, mv_lanes, mv_lengths, mv_cells, mv_state])), (m1, .inl (cI, 6, .inl (ov mf1 6 0))), (m2, .inl (cI, 6, .inl (ov mf2 6 (-1))))]) hP hD [0, 1, 2, 3, 4] [] rfl rfl (by decide) (by decide) hk1 hFc hP1 hD1
      clear hPc hDc hFc hP1 hD1 hK1 hk1 hz1 hvm ht
      replace hP : va_P (dC, dI) vwCl [(xh, .inr (4, [.ref ph, .ref lh, .ref mh, xv_lastStatus])), (lh, .inr (1, [lq_now, lq_ahead, .int 1, lq_isReached, lq_mayThrow, lq_gatheredAny, lq_gatheredLeast, lq_gatheredGreatest])), (mh, .inr (2, [.int 0, .int 0, .int (-1), .ref m1, .ref m2, mv_lanes, mv_lengths, mv_cells, mv_state])), (m1, .inl (cI, 6, .inl (ov mf1 6 0))), (m2, .inl (cI, 6, .inl (ov mf2 6 (-1))))] H_5 := hP2
      replace hD : va_D A [(xh, .inr (4, [.ref ph, .ref lh, .ref mh, xv_lastStatus])), (lh, .inr (1, [lq_now, lq_ahead, .int 1, lq_isReached, lq_mayThrow, lq_gatheredAny, lq_gatheredLeast, lq_gatheredGreatest])), (mh, .inr (2, [.int 0, .int 0, .int (-1), .ref m1, .ref m2, mv_lanes, mv_lengths, mv_cells, mv_state])), (m1, .inl (cI, 6, .inl (ov mf1 6 0))), (m2, .inl (cI, 6, .inl (ov mf2 6 (-1))))] := hD2
      replace hS := hS1
      clear hP2 hD2 hS1
      refine lv_iload hx hb dX4_act_55 (lv_at hl 0 rfl) ?_
      have hP9 := hP.sub (ws' := []) [] rfl
      have hD9 := hD.sub (ws' := []) [] (by decide) rfl
      exact W.iret (v := 0) hx hb hr (fun t ht hW => ⟨⟨0, (fun _ => 0), rfl, (by refine Or.inl ⟨rfl, ?_⟩; first | assumption | omega), by rw [ht]; exact hP9, va_K.moved hW.alike hK, hD9⟩, hS.F ht⟩) hS.2.2 dX4_act_57
    · exact absurd (by decide) c_3
  · -- no
    have k_2 : ¬ (okP ka aa ba ca da ea) := two_z hw_1 c_2
    refine lv_bipush (v := (-2)) hx hb dX4_act_15 (by decide) ?_
    have hP9 := hP.sub (ws' := []) [] rfl
    have hD9 := hD.sub (ws' := []) [] (by decide) rfl
    exact W.iret (v := (-2)) hx hb hr (fun t ht hW => ⟨⟨(-2), (fun _ => 0), rfl, (by refine Or.inr ⟨rfl, ?_⟩; first | assumption | omega), by rw [ht]; exact hP9, va_K.moved hW.alike hK, hD9⟩, hS.F ht⟩) hS.2.2 dX4_act_17

def w_X4_drop : List Cond := .code yX4_drop cX4_drop 2 (some .int) :: ([.fieldLink RX4 10 "ArraySegments" "program" "LArraySegments$Program;", .methodLink RX4 51 yX3_hasAct, .instanceMethod yX3_hasAct, .selects RX3 yX3_hasAct yX3_hasAct, .initialized RX3, .code yX3_hasAct cX3_hasAct 2 (some .boolean), .fieldLink RX3 19 "ArraySegments$Program" "count" "I"] ++ wsX40 ++ wsX30)
theorem inc_X4_drop_X4 : ∀ w ∈ wsX40, w ∈ w_X4_drop := fun _ h => List.mem_cons_of_mem _ (List.mem_append_left _ (List.mem_append_right _ h))
set_option maxRecDepth 20000 in
theorem g_X4_drop_X3_hasAct_51 : GoodIn w_X4_drop (wsV RX4 51 RX3 yX3_hasAct w_X3_hasAct) := goodIn_r _ [2, 3, 4, 5, 6, 7, 12, 13, 14] (by decide +kernel) (by decide +kernel)
abbrev pw_X4_drop (cI cJ cZ : ClassId) (xh : Nat) (xp_flow : Value) (xp_machine : Value) (xp_lastStatus : Value) (ph : Nat) (pv_rows : Value) (pv_dropped : Value) (ia : Int32) : va_W := [(xh, .inr (4, [.ref ph, xp_flow, xp_machine, xp_lastStatus])), (ph, .inr (3, [pv_rows, pv_dropped, .int 0]))]
set_option maxHeartbeats 4000000 in
set_option maxRecDepth 100000 in
theorem c_X4_drop (l : Launch) (dC : Nat → ClassId) (dI : Nat → Nat → Nat) (cI cJ cZ : ClassId) (xh : Nat) (xp_flow : Value) (xp_machine : Value) (xp_lastStatus : Value) (ph : Nat) (pv_rows : Value) (pv_dropped : Value) (ia : Int32) (sz : Nat) : Met l yX4_drop w_X4_drop ({ frames := 1, cells := 0, slots := 0, locals := 21 }) (va_Pc [.ref xh, .int ia] (cPre dC dI cI cJ cZ sz (pw_X4_drop cI cJ cZ xh xp_flow xp_machine xp_lastStatus ph pv_rows pv_dropped ia))) (va_Qi (fun (r : Int32) (u : Nat → Nat) => r = (-2)) (fun (u : Nat → Nat) => cPost dC dI cI cJ cZ (va_A (pw_X4_drop cI cJ cZ xh xp_flow xp_machine xp_lastStatus ph pv_rows pv_dropped ia) sz) []) (va_A (pw_X4_drop cI cJ cZ xh xp_flow xp_machine xp_lastStatus ph pv_rows pv_dropped ia) sz)) 0 0 (va_A (pw_X4_drop cI cJ cZ xh xp_flow xp_machine xp_lastStatus ph pv_rows pv_dropped ia) sz) := by
  refine Met.ofW (cc := cX4_drop) (maxL := 2) (ret := (some .int)) (by decide) rfl ?_
  intro p e s m args below meth c s₁ B hml hv
  obtain ⟨rfl, hsz, hP, hK, hD0, hN⟩ := hv
  have hx := B.exec
  have hb := B.bytes
  have hr := B.returns
  have hts := atoms_spec (ws := w_X4_drop) B.pre
  have hown : s.vm.findClass RX4 = some m.cls := findClass_of_methodNamed B.named
  have hlocks := B.notSynchronized
  subst hsz
  have hD := hD0.self (sz := s.heap.size)
  generalize hAe : va_A (pw_X4_drop cI cJ cZ xh xp_flow xp_machine xp_lastStatus ph pv_rows pv_dropped ia) s.heap.size = A at hD ⊢
  have hA : ∀ q : Nat, s.heap.size ≤ q → A q := fun q h => by rw [← hAe]; exact Or.inr h
  clear hAe hD0
  have hS : va_S A s.heap s.heap [] := va_S.rf
  replace hP : va_P (dC, dI) vwCl [(xh, .inr (4, [.ref ph, xp_flow, xp_machine, xp_lastStatus])), (ph, .inr (3, [pv_rows, pv_dropped, .int 0]))] s.heap := hP
  replace hD : va_D A [(xh, .inr (4, [.ref ph, xp_flow, xp_machine, xp_lastStatus])), (ph, .inr (3, [pv_rows, pv_dropped, .int 0]))] := hD
  have hl := lv_entry ([.ref xh, .int ia]) (n := 2) (Nat.le_of_ble_eq_true rfl)
  rw [lg_entry_eq]
  generalize (lg_sl ([.ref xh, .int ia]) ++ List.replicate (2 - (lg_sl ([.ref xh, .int ia])).length) Slot.unset).toArray = ls at hl ⊢
  replace hl : lv_has ls 2 [(0, .ref xh), (1, .int ia)] := hl
  refine lv_aload_n hx hb dX4_drop_0 rfl (lv_at hl 0 rfl) ?_
  refine va_get (D := (dC, dI)) (ci := 4) (v := .ref ph) (C := RX4) (T := TX4) (N := 4) hx hb hts inc_X4_drop_X4 hown hK hP 0 rfl rfl 0 (by decide) (hts (.fieldLink RX4 10 "ArraySegments" "program" "LArraySegments$Program;") (List.mem_of_getElem? (i := 1) rfl)) (fun _ h9 => h9) rfl dX4_drop_1 ?_
  refine lv_iload_n hx hb dX4_drop_4 rfl (lv_at hl 1 rfl) ?_
  have hPc := hP.sub (ws' := [(ph, .inr (3, [pv_rows, pv_dropped, .int 0]))]) [1] rfl
  have hDc := hD.sub (ws' := [(ph, .inr (3, [pv_rows, pv_dropped, .int 0]))]) [1] (by decide) rfl
  have hFc := va_free (wc := [(ph, .inr (3, [pv_rows, pv_dropped, .int 0]))]) hD hS hA [1] rfl
  refine va_calli (va_runV (As := [.int ia]) (rest := []) ⟨hx, hb, hml, hown, hts⟩ (c_X3_hasAct l dC dI cI cJ cZ ph pv_rows pv_dropped ia s.heap.size) (cwV 1 hts g_X4_drop_X3_hasAct_51 rfl rfl rfl (by decide +kernel) ⟨Nat.le_of_ble_eq_true rfl, Nat.le_of_ble_eq_true rfl⟩) ⟨cPre_blind, va_recv hK hPc (ci := 3) (q0 := 0) rfl rfl, cPre_of hK hN hPc hDc⟩ rfl rfl hl.1 rfl (lv_room (Nat.le_of_ble_eq_true rfl)) dX4_drop_5 ⟨Nat.le_of_ble_eq_true rfl, Nat.le_of_ble_eq_true rfl⟩) hS (fun q _ h => hFc q h) hFc (fun r_1 u_1 t_1 H_1 locs_1 ht hvm hw_1 hB hz1 hk1 hS1 => ?_)
  obtain ⟨hP1, hK1, hD1⟩ := hB
  rw [ht] at hP1
  obtain ⟨hP2, hD2⟩ := va_join (wr := [(xh, .inr (4, [.ref ph, xp_flow, xp_machine, xp_lastStatus]))]) (w1 := [(ph, .inr (3, [pv_rows, pv_dropped, .int 0]))]) hP hD [1] [0] rfl rfl (by decide) (by decide) hk1 hFc hP1 hD1
  clear hPc hDc hFc hP1 hD1 hK1 hk1 hz1 hvm ht
  replace hP : va_P (dC, dI) vwCl [(xh, .inr (4, [.ref ph, xp_flow, xp_machine, xp_lastStatus])), (ph, .inr (3, [pv_rows, pv_dropped, .int 0]))] H_1 := hP2
  replace hD : va_D A [(xh, .inr (4, [.ref ph, xp_flow, xp_machine, xp_lastStatus])), (ph, .inr (3, [pv_rows, pv_dropped, .int 0]))] := hD2
  replace hS := hS1
  clear hP2 hD2 hS1
  refine my_topi (y := 0) hw_1 ?_
  refine lv_if_ne (tgt := 14) hx hb dX4_drop_8 (by decide) (fun c_2 => ?_) (fun c_2 => ?_)
  · exact absurd (by decide) c_2
  · -- on
    refine lv_bipush (v := (-2)) hx hb dX4_drop_11 (by decide) ?_
    have hP9 := hP.sub (ws' := []) [] rfl
    have hD9 := hD.sub (ws' := []) [] (by decide) rfl
    exact W.iret (v := (-2)) hx hb hr (fun t ht hW => ⟨⟨(-2), (fun _ => 0), rfl, rfl, by rw [ht]; exact hP9, va_K.moved hW.alike hK, hD9⟩, hS.F ht⟩) hS.2.2 dX4_drop_13

def w_X4_reached : List Cond := .code yX4_reached cX4_reached 2 (some .int) :: ([.fieldLink RX4 10 "ArraySegments" "program" "LArraySegments$Program;", .methodLink RX4 51 yX3_hasAct, .instanceMethod yX3_hasAct, .selects RX3 yX3_hasAct yX3_hasAct, .initialized RX3, .code yX3_hasAct cX3_hasAct 2 (some .boolean), .fieldLink RX3 19 "ArraySegments$Program" "count" "I"] ++ wsX40 ++ wsX30)
theorem inc_X4_reached_X4 : ∀ w ∈ wsX40, w ∈ w_X4_reached := fun _ h => List.mem_cons_of_mem _ (List.mem_append_left _ (List.mem_append_right _ h))
set_option maxRecDepth 20000 in
theorem g_X4_reached_X3_hasAct_51 : GoodIn w_X4_reached (wsV RX4 51 RX3 yX3_hasAct w_X3_hasAct) := goodIn_r _ [2, 3, 4, 5, 6, 7, 12, 13, 14] (by decide +kernel) (by decide +kernel)
abbrev pw_X4_reached (cI cJ cZ : ClassId) (xh : Nat) (xp_flow : Value) (xp_machine : Value) (xp_lastStatus : Value) (ph : Nat) (pv_rows : Value) (pv_dropped : Value) (ia : Int32) : va_W := [(xh, .inr (4, [.ref ph, xp_flow, xp_machine, xp_lastStatus])), (ph, .inr (3, [pv_rows, pv_dropped, .int 0]))]
set_option maxHeartbeats 4000000 in
set_option maxRecDepth 100000 in
theorem c_X4_reached (l : Launch) (dC : Nat → ClassId) (dI : Nat → Nat → Nat) (cI cJ cZ : ClassId) (xh : Nat) (xp_flow : Value) (xp_machine : Value) (xp_lastStatus : Value) (ph : Nat) (pv_rows : Value) (pv_dropped : Value) (ia : Int32) (sz : Nat) : Met l yX4_reached w_X4_reached ({ frames := 1, cells := 0, slots := 0, locals := 21 }) (va_Pc [.ref xh, .int ia] (cPre dC dI cI cJ cZ sz (pw_X4_reached cI cJ cZ xh xp_flow xp_machine xp_lastStatus ph pv_rows pv_dropped ia))) (va_Qi (fun (r : Int32) (u : Nat → Nat) => r = (-2)) (fun (u : Nat → Nat) => cPost dC dI cI cJ cZ (va_A (pw_X4_reached cI cJ cZ xh xp_flow xp_machine xp_lastStatus ph pv_rows pv_dropped ia) sz) []) (va_A (pw_X4_reached cI cJ cZ xh xp_flow xp_machine xp_lastStatus ph pv_rows pv_dropped ia) sz)) 0 0 (va_A (pw_X4_reached cI cJ cZ xh xp_flow xp_machine xp_lastStatus ph pv_rows pv_dropped ia) sz) := by
  refine Met.ofW (cc := cX4_reached) (maxL := 2) (ret := (some .int)) (by decide) rfl ?_
  intro p e s m args below meth c s₁ B hml hv
  obtain ⟨rfl, hsz, hP, hK, hD0, hN⟩ := hv
  have hx := B.exec
  have hb := B.bytes
  have hr := B.returns
  have hts := atoms_spec (ws := w_X4_reached) B.pre
  have hown : s.vm.findClass RX4 = some m.cls := findClass_of_methodNamed B.named
  have hlocks := B.notSynchronized
  subst hsz
  have hD := hD0.self (sz := s.heap.size)
  generalize hAe : va_A (pw_X4_reached cI cJ cZ xh xp_flow xp_machine xp_lastStatus ph pv_rows pv_dropped ia) s.heap.size = A at hD ⊢
  have hA : ∀ q : Nat, s.heap.size ≤ q → A q := fun q h => by rw [← hAe]; exact Or.inr h
  clear hAe hD0
  have hS : va_S A s.heap s.heap [] := va_S.rf
  replace hP : va_P (dC, dI) vwCl [(xh, .inr (4, [.ref ph, xp_flow, xp_machine, xp_lastStatus])), (ph, .inr (3, [pv_rows, pv_dropped, .int 0]))] s.heap := hP
  replace hD : va_D A [(xh, .inr (4, [.ref ph, xp_flow, xp_machine, xp_lastStatus])), (ph, .inr (3, [pv_rows, pv_dropped, .int 0]))] := hD
  have hl := lv_entry ([.ref xh, .int ia]) (n := 2) (Nat.le_of_ble_eq_true rfl)
  rw [lg_entry_eq]
  generalize (lg_sl ([.ref xh, .int ia]) ++ List.replicate (2 - (lg_sl ([.ref xh, .int ia])).length) Slot.unset).toArray = ls at hl ⊢
  replace hl : lv_has ls 2 [(0, .ref xh), (1, .int ia)] := hl
  refine lv_aload_n hx hb dX4_reached_0 rfl (lv_at hl 0 rfl) ?_
  refine va_get (D := (dC, dI)) (ci := 4) (v := .ref ph) (C := RX4) (T := TX4) (N := 4) hx hb hts inc_X4_reached_X4 hown hK hP 0 rfl rfl 0 (by decide) (hts (.fieldLink RX4 10 "ArraySegments" "program" "LArraySegments$Program;") (List.mem_of_getElem? (i := 1) rfl)) (fun _ h9 => h9) rfl dX4_reached_1 ?_
  refine lv_iload_n hx hb dX4_reached_4 rfl (lv_at hl 1 rfl) ?_
  have hPc := hP.sub (ws' := [(ph, .inr (3, [pv_rows, pv_dropped, .int 0]))]) [1] rfl
  have hDc := hD.sub (ws' := [(ph, .inr (3, [pv_rows, pv_dropped, .int 0]))]) [1] (by decide) rfl
  have hFc := va_free (wc := [(ph, .inr (3, [pv_rows, pv_dropped, .int 0]))]) hD hS hA [1] rfl
  refine va_calli (va_runV (As := [.int ia]) (rest := []) ⟨hx, hb, hml, hown, hts⟩ (c_X3_hasAct l dC dI cI cJ cZ ph pv_rows pv_dropped ia s.heap.size) (cwV 1 hts g_X4_reached_X3_hasAct_51 rfl rfl rfl (by decide +kernel) ⟨Nat.le_of_ble_eq_true rfl, Nat.le_of_ble_eq_true rfl⟩) ⟨cPre_blind, va_recv hK hPc (ci := 3) (q0 := 0) rfl rfl, cPre_of hK hN hPc hDc⟩ rfl rfl hl.1 rfl (lv_room (Nat.le_of_ble_eq_true rfl)) dX4_reached_5 ⟨Nat.le_of_ble_eq_true rfl, Nat.le_of_ble_eq_true rfl⟩) hS (fun q _ h => hFc q h) hFc (fun r_1 u_1 t_1 H_1 locs_1 ht hvm hw_1 hB hz1 hk1 hS1 => ?_)
  obtain ⟨hP1, hK1, hD1⟩ := hB
  rw [ht] at hP1
  obtain ⟨hP2, hD2⟩ := va_join (wr := [(xh, .inr (4, [.ref ph, xp_flow, xp_machine, xp_lastStatus]))]) (w1 := [(ph, .inr (3, [pv_rows, pv_dropped, .int 0]))]) hP hD [1] [0] rfl rfl (by decide) (by decide) hk1 hFc hP1 hD1
  clear hPc hDc hFc hP1 hD1 hK1 hk1 hz1 hvm ht
  replace hP : va_P (dC, dI) vwCl [(xh, .inr (4, [.ref ph, xp_flow, xp_machine, xp_lastStatus])), (ph, .inr (3, [pv_rows, pv_dropped, .int 0]))] H_1 := hP2
  replace hD : va_D A [(xh, .inr (4, [.ref ph, xp_flow, xp_machine, xp_lastStatus])), (ph, .inr (3, [pv_rows, pv_dropped, .int 0]))] := hD2
  replace hS := hS1
  clear hP2 hD2 hS1
  refine my_topi (y := 0) hw_1 ?_
  refine lv_if_ne (tgt := 14) hx hb dX4_reached_8 (by decide) (fun c_2 => ?_) (fun c_2 => ?_)
  · exact absurd (by decide) c_2
  · -- on
    refine lv_bipush (v := (-2)) hx hb dX4_reached_11 (by decide) ?_
    have hP9 := hP.sub (ws' := []) [] rfl
    have hD9 := hD.sub (ws' := []) [] (by decide) rfl
    exact W.iret (v := (-2)) hx hb hr (fun t ht hW => ⟨⟨(-2), (fun _ => 0), rfl, rfl, by rw [ht]; exact hP9, va_K.moved hW.alike hK, hD9⟩, hS.F ht⟩) hS.2.2 dX4_reached_13

def w_X4_throwsAt : List Cond := .code yX4_throwsAt cX4_throwsAt 2 (some .int) :: ([.fieldLink RX4 10 "ArraySegments" "program" "LArraySegments$Program;", .methodLink RX4 51 yX3_hasAct, .instanceMethod yX3_hasAct, .selects RX3 yX3_hasAct yX3_hasAct, .initialized RX3, .code yX3_hasAct cX3_hasAct 2 (some .boolean), .fieldLink RX3 19 "ArraySegments$Program" "count" "I"] ++ wsX40 ++ wsX30)
theorem inc_X4_throwsAt_X4 : ∀ w ∈ wsX40, w ∈ w_X4_throwsAt := fun _ h => List.mem_cons_of_mem _ (List.mem_append_left _ (List.mem_append_right _ h))
set_option maxRecDepth 20000 in
theorem g_X4_throwsAt_X3_hasAct_51 : GoodIn w_X4_throwsAt (wsV RX4 51 RX3 yX3_hasAct w_X3_hasAct) := goodIn_r _ [2, 3, 4, 5, 6, 7, 12, 13, 14] (by decide +kernel) (by decide +kernel)
abbrev pw_X4_throwsAt (cI cJ cZ : ClassId) (xh : Nat) (xp_flow : Value) (xp_machine : Value) (xp_lastStatus : Value) (ph : Nat) (pv_rows : Value) (pv_dropped : Value) (ia : Int32) : va_W := [(xh, .inr (4, [.ref ph, xp_flow, xp_machine, xp_lastStatus])), (ph, .inr (3, [pv_rows, pv_dropped, .int 0]))]
set_option maxHeartbeats 4000000 in
set_option maxRecDepth 100000 in
theorem c_X4_throwsAt (l : Launch) (dC : Nat → ClassId) (dI : Nat → Nat → Nat) (cI cJ cZ : ClassId) (xh : Nat) (xp_flow : Value) (xp_machine : Value) (xp_lastStatus : Value) (ph : Nat) (pv_rows : Value) (pv_dropped : Value) (ia : Int32) (sz : Nat) : Met l yX4_throwsAt w_X4_throwsAt ({ frames := 1, cells := 0, slots := 0, locals := 21 }) (va_Pc [.ref xh, .int ia] (cPre dC dI cI cJ cZ sz (pw_X4_throwsAt cI cJ cZ xh xp_flow xp_machine xp_lastStatus ph pv_rows pv_dropped ia))) (va_Qi (fun (r : Int32) (u : Nat → Nat) => r = (-2)) (fun (u : Nat → Nat) => cPost dC dI cI cJ cZ (va_A (pw_X4_throwsAt cI cJ cZ xh xp_flow xp_machine xp_lastStatus ph pv_rows pv_dropped ia) sz) []) (va_A (pw_X4_throwsAt cI cJ cZ xh xp_flow xp_machine xp_lastStatus ph pv_rows pv_dropped ia) sz)) 0 0 (va_A (pw_X4_throwsAt cI cJ cZ xh xp_flow xp_machine xp_lastStatus ph pv_rows pv_dropped ia) sz) := by
  refine Met.ofW (cc := cX4_throwsAt) (maxL := 2) (ret := (some .int)) (by decide) rfl ?_
  intro p e s m args below meth c s₁ B hml hv
  obtain ⟨rfl, hsz, hP, hK, hD0, hN⟩ := hv
  have hx := B.exec
  have hb := B.bytes
  have hr := B.returns
  have hts := atoms_spec (ws := w_X4_throwsAt) B.pre
  have hown : s.vm.findClass RX4 = some m.cls := findClass_of_methodNamed B.named
  have hlocks := B.notSynchronized
  subst hsz
  have hD := hD0.self (sz := s.heap.size)
  generalize hAe : va_A (pw_X4_throwsAt cI cJ cZ xh xp_flow xp_machine xp_lastStatus ph pv_rows pv_dropped ia) s.heap.size = A at hD ⊢
  have hA : ∀ q : Nat, s.heap.size ≤ q → A q := fun q h => by rw [← hAe]; exact Or.inr h
  clear hAe hD0
  have hS : va_S A s.heap s.heap [] := va_S.rf
  replace hP : va_P (dC, dI) vwCl [(xh, .inr (4, [.ref ph, xp_flow, xp_machine, xp_lastStatus])), (ph, .inr (3, [pv_rows, pv_dropped, .int 0]))] s.heap := hP
  replace hD : va_D A [(xh, .inr (4, [.ref ph, xp_flow, xp_machine, xp_lastStatus])), (ph, .inr (3, [pv_rows, pv_dropped, .int 0]))] := hD
  have hl := lv_entry ([.ref xh, .int ia]) (n := 2) (Nat.le_of_ble_eq_true rfl)
  rw [lg_entry_eq]
  generalize (lg_sl ([.ref xh, .int ia]) ++ List.replicate (2 - (lg_sl ([.ref xh, .int ia])).length) Slot.unset).toArray = ls at hl ⊢
  replace hl : lv_has ls 2 [(0, .ref xh), (1, .int ia)] := hl
  refine lv_aload_n hx hb dX4_throwsAt_0 rfl (lv_at hl 0 rfl) ?_
  refine va_get (D := (dC, dI)) (ci := 4) (v := .ref ph) (C := RX4) (T := TX4) (N := 4) hx hb hts inc_X4_throwsAt_X4 hown hK hP 0 rfl rfl 0 (by decide) (hts (.fieldLink RX4 10 "ArraySegments" "program" "LArraySegments$Program;") (List.mem_of_getElem? (i := 1) rfl)) (fun _ h9 => h9) rfl dX4_throwsAt_1 ?_
  refine lv_iload_n hx hb dX4_throwsAt_4 rfl (lv_at hl 1 rfl) ?_
  have hPc := hP.sub (ws' := [(ph, .inr (3, [pv_rows, pv_dropped, .int 0]))]) [1] rfl
  have hDc := hD.sub (ws' := [(ph, .inr (3, [pv_rows, pv_dropped, .int 0]))]) [1] (by decide) rfl
  have hFc := va_free (wc := [(ph, .inr (3, [pv_rows, pv_dropped, .int 0]))]) hD hS hA [1] rfl
  refine va_calli (va_runV (As := [.int ia]) (rest := []) ⟨hx, hb, hml, hown, hts⟩ (c_X3_hasAct l dC dI cI cJ cZ ph pv_rows pv_dropped ia s.heap.size) (cwV 1 hts g_X4_throwsAt_X3_hasAct_51 rfl rfl rfl (by decide +kernel) ⟨Nat.le_of_ble_eq_true rfl, Nat.le_of_ble_eq_true rfl⟩) ⟨cPre_blind, va_recv hK hPc (ci := 3) (q0 := 0) rfl rfl, cPre_of hK hN hPc hDc⟩ rfl rfl hl.1 rfl (lv_room (Nat.le_of_ble_eq_true rfl)) dX4_throwsAt_5 ⟨Nat.le_of_ble_eq_true rfl, Nat.le_of_ble_eq_true rfl⟩) hS (fun q _ h => hFc q h) hFc (fun r_1 u_1 t_1 H_1 locs_1 ht hvm hw_1 hB hz1 hk1 hS1 => ?_)
  obtain ⟨hP1, hK1, hD1⟩ := hB
  rw [ht] at hP1
  obtain ⟨hP2, hD2⟩ := va_join (wr := [(xh, .inr (4, [.ref ph, xp_flow, xp_machine, xp_lastStatus]))]) (w1 := [(ph, .inr (3, [pv_rows, pv_dropped, .int 0]))]) hP hD [1] [0] rfl rfl (by decide) (by decide) hk1 hFc hP1 hD1
  clear hPc hDc hFc hP1 hD1 hK1 hk1 hz1 hvm ht
  replace hP : va_P (dC, dI) vwCl [(xh, .inr (4, [.ref ph, xp_flow, xp_machine, xp_lastStatus])), (ph, .inr (3, [pv_rows, pv_dropped, .int 0]))] H_1 := hP2
  replace hD : va_D A [(xh, .inr (4, [.ref ph, xp_flow, xp_machine, xp_lastStatus])), (ph, .inr (3, [pv_rows, pv_dropped, .int 0]))] := hD2
  replace hS := hS1
  clear hP2 hD2 hS1
  refine my_topi (y := 0) hw_1 ?_
  refine lv_if_ne (tgt := 14) hx hb dX4_throwsAt_8 (by decide) (fun c_2 => ?_) (fun c_2 => ?_)
  · exact absurd (by decide) c_2
  · -- on
    refine lv_bipush (v := (-2)) hx hb dX4_throwsAt_11 (by decide) ?_
    have hP9 := hP.sub (ws' := []) [] rfl
    have hD9 := hD.sub (ws' := []) [] (by decide) rfl
    exact W.iret (v := (-2)) hx hb hr (fun t ht hW => ⟨⟨(-2), (fun _ => 0), rfl, rfl, by rw [ht]; exact hP9, va_K.moved hW.alike hK, hD9⟩, hS.F ht⟩) hS.2.2 dX4_throwsAt_13

def w_X4_refuse : List Cond := .code yX4_refuse cX4_refuse 2 (some .int) :: ([.fieldLink RX4 30 "ArraySegments" "lastStatus" "I"] ++ wsX40)
theorem inc_X4_refuse_X4 : ∀ w ∈ wsX40, w ∈ w_X4_refuse := fun _ h => List.mem_cons_of_mem _ (List.mem_append_right _ h)
abbrev pw_X4_refuse (cI cJ cZ : ClassId) (xh : Nat) (xw_program : Value) (xw_flow : Value) (xw_machine : Value) (xw_lastStatus : Value) (va : Int32) : va_W := [(xh, .inr (4, [xw_program, xw_flow, xw_machine, xw_lastStatus]))]
set_option maxHeartbeats 4000000 in
set_option maxRecDepth 100000 in
theorem c_X4_refuse (l : Launch) (dC : Nat → ClassId) (dI : Nat → Nat → Nat) (cI cJ cZ : ClassId) (xh : Nat) (xw_program : Value) (xw_flow : Value) (xw_machine : Value) (xw_lastStatus : Value) (va : Int32) (sz : Nat) : Met l yX4_refuse w_X4_refuse ({ frames := 0, cells := 0, slots := 0, locals := 0 }) (va_Pc [.ref xh, .int va] (cPre dC dI cI cJ cZ sz (pw_X4_refuse cI cJ cZ xh xw_program xw_flow xw_machine xw_lastStatus va))) (va_Qi (fun (r : Int32) (u : Nat → Nat) => r = va) (fun (u : Nat → Nat) => cPost dC dI cI cJ cZ (va_A (pw_X4_refuse cI cJ cZ xh xw_program xw_flow xw_machine xw_lastStatus va) sz) [(xh, .inr (4, [xw_program, xw_flow, xw_machine, .int va]))]) (va_A (pw_X4_refuse cI cJ cZ xh xw_program xw_flow xw_machine xw_lastStatus va) sz)) 0 0 (va_A (pw_X4_refuse cI cJ cZ xh xw_program xw_flow xw_machine xw_lastStatus va) sz) := by
  refine Met.ofW (cc := cX4_refuse) (maxL := 2) (ret := (some .int)) (by decide) rfl ?_
  intro p e s m args below meth c s₁ B hml hv
  obtain ⟨rfl, hsz, hP, hK, hD0, hN⟩ := hv
  have hx := B.exec
  have hb := B.bytes
  have hr := B.returns
  have hts := atoms_spec (ws := w_X4_refuse) B.pre
  have hown : s.vm.findClass RX4 = some m.cls := findClass_of_methodNamed B.named
  have hlocks := B.notSynchronized
  subst hsz
  have hD := hD0.self (sz := s.heap.size)
  generalize hAe : va_A (pw_X4_refuse cI cJ cZ xh xw_program xw_flow xw_machine xw_lastStatus va) s.heap.size = A at hD ⊢
  have hA : ∀ q : Nat, s.heap.size ≤ q → A q := fun q h => by rw [← hAe]; exact Or.inr h
  clear hAe hD0
  have hS : va_S A s.heap s.heap [] := va_S.rf
  replace hP : va_P (dC, dI) vwCl [(xh, .inr (4, [xw_program, xw_flow, xw_machine, xw_lastStatus]))] s.heap := hP
  replace hD : va_D A [(xh, .inr (4, [xw_program, xw_flow, xw_machine, xw_lastStatus]))] := hD
  have hl := lv_entry ([.ref xh, .int va]) (n := 2) (Nat.le_of_ble_eq_true rfl)
  rw [lg_entry_eq]
  generalize (lg_sl ([.ref xh, .int va]) ++ List.replicate (2 - (lg_sl ([.ref xh, .int va])).length) Slot.unset).toArray = ls at hl ⊢
  replace hl : lv_has ls 2 [(0, .ref xh), (1, .int va)] := hl
  refine lv_aload_n hx hb dX4_refuse_0 rfl (lv_at hl 0 rfl) ?_
  refine lv_iload_n hx hb dX4_refuse_1 rfl (lv_at hl 1 rfl) ?_
  refine va_put (D := (dC, dI)) (ci := 4) (v := .int va) (ty := .int) (C := RX4) (T := TX4) (N := 4) hx hb hts inc_X4_refuse_X4 tyX4 tyX4_ok nmX4 hown hK hP hD hS 0 rfl rfl 3 (by decide) (hts (.fieldLink RX4 30 "ArraySegments" "lastStatus" "I") (List.mem_of_getElem? (i := 1) rfl)) (fun _ h9 => h9) rfl (by decide +kernel) rfl rfl (Nat.le_of_ble_eq_true rfl) dX4_refuse_2 (fun H_1 locs_1 hP1 hD1 hS1 => ?_)
  replace hP : va_P (dC, dI) vwCl [(xh, .inr (4, [xw_program, xw_flow, xw_machine, .int va]))] H_1 := hP1
  replace hD : va_D A [(xh, .inr (4, [xw_program, xw_flow, xw_machine, .int va]))] := hD1
  replace hS := hS1
  clear hP1 hD1 hS1
  refine lv_iload_n hx hb dX4_refuse_5 rfl (lv_at hl 1 rfl) ?_
  have hP9 := hP.sub (ws' := [(xh, .inr (4, [xw_program, xw_flow, xw_machine, .int va]))]) [0] rfl
  have hD9 := hD.sub (ws' := [(xh, .inr (4, [xw_program, xw_flow, xw_machine, .int va]))]) [0] (by decide) rfl
  exact W.iret (v := va) hx hb hr (fun t ht hW => ⟨⟨va, (fun _ => 0), rfl, rfl, by rw [ht]; exact hP9, va_K.moved hW.alike hK, hD9⟩, hS.F ht⟩) hS.2.2 dX4_refuse_6

def w_X4_tell : List Cond := .code yX4_tell cX4_tell 2 (some .int) :: ([.fieldLink RX4 30 "ArraySegments" "lastStatus" "I"] ++ wsX40)
theorem inc_X4_tell_X4 : ∀ w ∈ wsX40, w ∈ w_X4_tell := fun _ h => List.mem_cons_of_mem _ (List.mem_append_right _ h)
abbrev pw_X4_tell (cI cJ cZ : ClassId) (xh : Nat) (xw_program : Value) (xw_flow : Value) (xw_machine : Value) (xw_lastStatus : Value) (va : Int32) : va_W := [(xh, .inr (4, [xw_program, xw_flow, xw_machine, xw_lastStatus]))]
set_option maxHeartbeats 4000000 in
set_option maxRecDepth 100000 in
theorem c_X4_tell (l : Launch) (dC : Nat → ClassId) (dI : Nat → Nat → Nat) (cI cJ cZ : ClassId) (xh : Nat) (xw_program : Value) (xw_flow : Value) (xw_machine : Value) (xw_lastStatus : Value) (va : Int32) (sz : Nat) : Met l yX4_tell w_X4_tell ({ frames := 0, cells := 0, slots := 0, locals := 0 }) (va_Pc [.ref xh, .int va] (cPre dC dI cI cJ cZ sz (pw_X4_tell cI cJ cZ xh xw_program xw_flow xw_machine xw_lastStatus va))) (va_Qi (fun (r : Int32) (u : Nat → Nat) => r = va) (fun (u : Nat → Nat) => cPost dC dI cI cJ cZ (va_A (pw_X4_tell cI cJ cZ xh xw_program xw_flow xw_machine xw_lastStatus va) sz) [(xh, .inr (4, [xw_program, xw_flow, xw_machine, .int 0]))]) (va_A (pw_X4_tell cI cJ cZ xh xw_program xw_flow xw_machine xw_lastStatus va) sz)) 0 0 (va_A (pw_X4_tell cI cJ cZ xh xw_program xw_flow xw_machine xw_lastStatus va) sz) := by
  refine Met.ofW (cc := cX4_tell) (maxL := 2) (ret := (some .int)) (by decide) rfl ?_
  intro p e s m args below meth c s₁ B hml hv
  obtain ⟨rfl, hsz, hP, hK, hD0, hN⟩ := hv
  have hx := B.exec
  have hb := B.bytes
  have hr := B.returns
  have hts := atoms_spec (ws := w_X4_tell) B.pre
  have hown : s.vm.findClass RX4 = some m.cls := findClass_of_methodNamed B.named
  have hlocks := B.notSynchronized
  subst hsz
  have hD := hD0.self (sz := s.heap.size)
  generalize hAe : va_A (pw_X4_tell cI cJ cZ xh xw_program xw_flow xw_machine xw_lastStatus va) s.heap.size = A at hD ⊢
  have hA : ∀ q : Nat, s.heap.size ≤ q → A q := fun q h => by rw [← hAe]; exact Or.inr h
  clear hAe hD0
  have hS : va_S A s.heap s.heap [] := va_S.rf
  replace hP : va_P (dC, dI) vwCl [(xh, .inr (4, [xw_program, xw_flow, xw_machine, xw_lastStatus]))] s.heap := hP
  replace hD : va_D A [(xh, .inr (4, [xw_program, xw_flow, xw_machine, xw_lastStatus]))] := hD
  have hl := lv_entry ([.ref xh, .int va]) (n := 2) (Nat.le_of_ble_eq_true rfl)
  rw [lg_entry_eq]
  generalize (lg_sl ([.ref xh, .int va]) ++ List.replicate (2 - (lg_sl ([.ref xh, .int va])).length) Slot.unset).toArray = ls at hl ⊢
  replace hl : lv_has ls 2 [(0, .ref xh), (1, .int va)] := hl
  refine lv_aload_n hx hb dX4_tell_0 rfl (lv_at hl 0 rfl) ?_
  refine lv_iconst (v := 0) hx hb dX4_tell_1 (by decide) ?_
  refine va_put (D := (dC, dI)) (ci := 4) (v := .int 0) (ty := .int) (C := RX4) (T := TX4) (N := 4) hx hb hts inc_X4_tell_X4 tyX4 tyX4_ok nmX4 hown hK hP hD hS 0 rfl rfl 3 (by decide) (hts (.fieldLink RX4 30 "ArraySegments" "lastStatus" "I") (List.mem_of_getElem? (i := 1) rfl)) (fun _ h9 => h9) rfl (by decide +kernel) rfl rfl (Nat.le_of_ble_eq_true rfl) dX4_tell_2 (fun H_1 locs_1 hP1 hD1 hS1 => ?_)
  replace hP : va_P (dC, dI) vwCl [(xh, .inr (4, [xw_program, xw_flow, xw_machine, .int 0]))] H_1 := hP1
  replace hD : va_D A [(xh, .inr (4, [xw_program, xw_flow, xw_machine, .int 0]))] := hD1
  replace hS := hS1
  clear hP1 hD1 hS1
  refine lv_iload_n hx hb dX4_tell_5 rfl (lv_at hl 1 rfl) ?_
  have hP9 := hP.sub (ws' := [(xh, .inr (4, [xw_program, xw_flow, xw_machine, .int 0]))]) [0] rfl
  have hD9 := hD.sub (ws' := [(xh, .inr (4, [xw_program, xw_flow, xw_machine, .int 0]))]) [0] (by decide) rfl
  exact W.iret (v := va) hx hb hr (fun t ht hW => ⟨⟨va, (fun _ => 0), rfl, rfl, by rw [ht]; exact hP9, va_K.moved hW.alike hK, hD9⟩, hS.F ht⟩) hS.2.2 dX4_tell_6

def w_X4_ends : List Cond := .code yX4_ends cX4_ends 1 (some .int) :: ([.fieldLink RX4 19 "ArraySegments" "flow" "LArraySegments$Flow;", .fieldLink RX4 10 "ArraySegments" "program" "LArraySegments$Program;", .methodLink RX4 59 yX1_follow, .instanceMethod yX1_follow, .selects RX1 yX1_follow yX1_follow, .initialized RX1, .code yX1_follow cX1_follow 5 none, .fieldLink RX1 21 "ArraySegments$Flow" "isOld" "Z", .fieldLink RX1 12 "ArraySegments$Flow" "now" "LArraySegments$Facts;", .methodLink RX1 43 yX0_begin, .instanceMethod yX0_begin, .selects RX0 yX0_begin yX0_begin, .initialized RX0, .code yX0_begin cX0_begin 2 none, .fieldLink RX0 9 "ArraySegments$Facts" "isReached" "Z", .fieldLink RX0 30 "ArraySegments$Facts" "known" "[Z", .fieldLink RX0 22 "ArraySegments$Facts" "sites" "[J", .fieldLink RX0 26 "ArraySegments$Facts" "maybeNull" "[Z", .methodLink RX0 48 yX0_setSpan, .instanceMethod yX0_setSpan, .selects RX0 yX0_setSpan yX0_setSpan, .code yX0_setSpan cX0_setSpan 4 none, .fieldLink RX0 15 "ArraySegments$Facts" "least" "[I", .fieldLink RX0 19 "ArraySegments$Facts" "greatest" "[I", .methodLink RX1 46 yX3_hasAct, .instanceMethod yX3_hasAct, .selects RX3 yX3_hasAct yX3_hasAct, .initialized RX3, .code yX3_hasAct cX3_hasAct 2 (some .boolean), .fieldLink RX3 19 "ArraySegments$Program" "count" "I", .fieldLink RX1 25 "ArraySegments$Flow" "isReached" "[Z", .fieldLink RX1 29 "ArraySegments$Flow" "mayThrow" "[I", .fieldLink RX4 70 "ArraySegments$Flow" "now" "LArraySegments$Facts;", .fieldLink RX4 74 "ArraySegments$Facts" "isReached" "Z"] ++ wsX40 ++ wsX10 ++ wsX00 ++ wsX30)
theorem inc_X4_ends_X0 : ∀ w ∈ wsX00, w ∈ w_X4_ends := fun _ h => List.mem_cons_of_mem _ (List.mem_append_left _ (List.mem_append_right _ h))
theorem inc_X4_ends_X1 : ∀ w ∈ wsX10, w ∈ w_X4_ends := fun _ h => List.mem_cons_of_mem _ (List.mem_append_left _ (List.mem_append_left _ (List.mem_append_right _ h)))
theorem inc_X4_ends_X4 : ∀ w ∈ wsX40, w ∈ w_X4_ends := fun _ h => List.mem_cons_of_mem _ (List.mem_append_left _ (List.mem_append_left _ (List.mem_append_left _ (List.mem_append_right _ h))))
set_option maxRecDepth 20000 in
theorem g_X4_ends_X1_follow_59 : GoodIn w_X4_ends (wsV RX4 59 RX1 yX1_follow w_X1_follow) := goodIn_r _ [3, 4, 5, 6, 7, 8, 9, 10, 11, 12, 13, 14, 15, 16, 17, 18, 19, 20, 21, 22, 23, 24, 25, 26, 27, 28, 29, 30, 31, 32, 39, 40, 41, 42, 43, 44, 45, 46, 47, 48, 49, 50, 51, 52, 53, 54, 55, 56, 57, 58, 59, 60] (by decide +kernel) (by decide +kernel)
abbrev pw_X4_ends (cI cJ cZ : ClassId) (xh : Nat) (ph : Nat) (xf_machine : Value) (xf_lastStatus : Value) (lh : Nat) (l3 : Nat) (l4 : Nat) (lv_ahead : Value) (lv_gatheredAny : Value) (lv_gatheredLeast : Value) (lv_gatheredGreatest : Value) (fh : Nat) (f1 : Nat) (f2 : Nat) (f3 : Nat) (f4 : Nat) (f5 : Nat) (fr : Int32) (fw_lanes : Value) (fw_shortest : Value) (fw_longest : Value) (fw_leastAt : Value) (fw_greatestAt : Value) (fl : Nat → Int32) (fg : Nat → Int32) (fs : Nat → Int64) (fm : Nat → Int32) (fk : Nat → Int32) (lr : Nat → Int32) (lm : Nat → Int32) (pv_rows : Value) (pv_dropped : Value) : va_W := [(xh, .inr (4, [.ref ph, .ref lh, xf_machine, xf_lastStatus])), (lh, .inr (1, [.ref fh, lv_ahead, .int 1, .ref l3, .ref l4, lv_gatheredAny, lv_gatheredLeast, lv_gatheredGreatest])), (fh, .inr (0, [.int fr, .ref f1, .ref f2, .ref f3, .ref f4, .ref f5, fw_lanes, fw_shortest, fw_longest, fw_leastAt, fw_greatestAt])), (f1, .inl (cI, 6, .inl fl)), (f2, .inl (cI, 6, .inl fg)), (f3, .inl (cJ, 6, .inr (.inl fs))), (f4, .inl (cZ, 6, .inl fm)), (f5, .inl (cZ, 40, .inl fk)), (l3, .inl (cZ, 40, .inl lr)), (l4, .inl (cI, 40, .inl lm)), (ph, .inr (3, [pv_rows, pv_dropped, .int 0]))]
set_option maxHeartbeats 4000000 in
set_option maxRecDepth 100000 in
theorem c_X4_ends (l : Launch) (dC : Nat → ClassId) (dI : Nat → Nat → Nat) (cI cJ cZ : ClassId) (xh : Nat) (ph : Nat) (xf_machine : Value) (xf_lastStatus : Value) (lh : Nat) (l3 : Nat) (l4 : Nat) (lv_ahead : Value) (lv_gatheredAny : Value) (lv_gatheredLeast : Value) (lv_gatheredGreatest : Value) (fh : Nat) (f1 : Nat) (f2 : Nat) (f3 : Nat) (f4 : Nat) (f5 : Nat) (fr : Int32) (fw_lanes : Value) (fw_shortest : Value) (fw_longest : Value) (fw_leastAt : Value) (fw_greatestAt : Value) (fl : Nat → Int32) (fg : Nat → Int32) (fs : Nat → Int64) (fm : Nat → Int32) (fk : Nat → Int32) (lr : Nat → Int32) (lm : Nat → Int32) (pv_rows : Value) (pv_dropped : Value) (sz : Nat) : Met l yX4_ends w_X4_ends ({ frames := 3, cells := 0, slots := 0, locals := 68 }) (va_Pc [.ref xh] (cPre dC dI cI cJ cZ sz (pw_X4_ends cI cJ cZ xh ph xf_machine xf_lastStatus lh l3 l4 lv_ahead lv_gatheredAny lv_gatheredLeast lv_gatheredGreatest fh f1 f2 f3 f4 f5 fr fw_lanes fw_shortest fw_longest fw_leastAt fw_greatestAt fl fg fs fm fk lr lm pv_rows pv_dropped))) (va_Qi (fun (r : Int32) (u : Nat → Nat) => r = 1) (fun (u : Nat → Nat) => cPost dC dI cI cJ cZ (va_A (pw_X4_ends cI cJ cZ xh ph xf_machine xf_lastStatus lh l3 l4 lv_ahead lv_gatheredAny lv_gatheredLeast lv_gatheredGreatest fh f1 f2 f3 f4 f5 fr fw_lanes fw_shortest fw_longest fw_leastAt fw_greatestAt fl fg fs fm fk lr lm pv_rows pv_dropped) sz) []) (va_A (pw_X4_ends cI cJ cZ xh ph xf_machine xf_lastStatus lh l3 l4 lv_ahead lv_gatheredAny lv_gatheredLeast lv_gatheredGreatest fh f1 f2 f3 f4 f5 fr fw_lanes fw_shortest fw_longest fw_leastAt fw_greatestAt fl fg fs fm fk lr lm pv_rows pv_dropped) sz)) 0 0 (va_A (pw_X4_ends cI cJ cZ xh ph xf_machine xf_lastStatus lh l3 l4 lv_ahead lv_gatheredAny lv_gatheredLeast lv_gatheredGreatest fh f1 f2 f3 f4 f5 fr fw_lanes fw_shortest fw_longest fw_leastAt fw_greatestAt fl fg fs fm fk lr lm pv_rows pv_dropped) sz) := by
  refine Met.ofW (cc := cX4_ends) (maxL := 1) (ret := (some .int)) (by decide) rfl ?_
  intro p e s m args below meth c s₁ B hml hv
  obtain ⟨rfl, hsz, hP, hK, hD0, hN⟩ := hv
  have hx := B.exec
  have hb := B.bytes
  have hr := B.returns
  have hts := atoms_spec (ws := w_X4_ends) B.pre
  have hown : s.vm.findClass RX4 = some m.cls := findClass_of_methodNamed B.named
  have hlocks := B.notSynchronized
  subst hsz
  have hD := hD0.self (sz := s.heap.size)
  generalize hAe : va_A (pw_X4_ends cI cJ cZ xh ph xf_machine xf_lastStatus lh l3 l4 lv_ahead lv_gatheredAny lv_gatheredLeast lv_gatheredGreatest fh f1 f2 f3 f4 f5 fr fw_lanes fw_shortest fw_longest fw_leastAt fw_greatestAt fl fg fs fm fk lr lm pv_rows pv_dropped) s.heap.size = A at hD ⊢
  have hA : ∀ q : Nat, s.heap.size ≤ q → A q := fun q h => by rw [← hAe]; exact Or.inr h
  clear hAe hD0
  have hS : va_S A s.heap s.heap [] := va_S.rf
  replace hP : va_P (dC, dI) vwCl [(xh, .inr (4, [.ref ph, .ref lh, xf_machine, xf_lastStatus])), (lh, .inr (1, [.ref fh, lv_ahead, .int 1, .ref l3, .ref l4, lv_gatheredAny, lv_gatheredLeast, lv_gatheredGreatest])), (fh, .inr (0, [.int fr, .ref f1, .ref f2, .ref f3, .ref f4, .ref f5, fw_lanes, fw_shortest, fw_longest, fw_leastAt, fw_greatestAt])), (f1, .inl (cI, 6, .inl fl)), (f2, .inl (cI, 6, .inl fg)), (f3, .inl (cJ, 6, .inr (.inl fs))), (f4, .inl (cZ, 6, .inl fm)), (f5, .inl (cZ, 40, .inl fk)), (l3, .inl (cZ, 40, .inl lr)), (l4, .inl (cI, 40, .inl lm)), (ph, .inr (3, [pv_rows, pv_dropped, .int 0]))] s.heap := hP
  replace hD : va_D A [(xh, .inr (4, [.ref ph, .ref lh, xf_machine, xf_lastStatus])), (lh, .inr (1, [.ref fh, lv_ahead, .int 1, .ref l3, .ref l4, lv_gatheredAny, lv_gatheredLeast, lv_gatheredGreatest])), (fh, .inr (0, [.int fr, .ref f1, .ref f2, .ref f3, .ref f4, .ref f5, fw_lanes, fw_shortest, fw_longest, fw_leastAt, fw_greatestAt])), (f1, .inl (cI, 6, .inl fl)), (f2, .inl (cI, 6, .inl fg)), (f3, .inl (cJ, 6, .inr (.inl fs))), (f4, .inl (cZ, 6, .inl fm)), (f5, .inl (cZ, 40, .inl fk)), (l3, .inl (cZ, 40, .inl lr)), (l4, .inl (cI, 40, .inl lm)), (ph, .inr (3, [pv_rows, pv_dropped, .int 0]))] := hD
  have hl := lv_entry ([.ref xh]) (n := 1) (Nat.le_of_ble_eq_true rfl)
  rw [lg_entry_eq]
  generalize (lg_sl ([.ref xh]) ++ List.replicate (1 - (lg_sl ([.ref xh])).length) Slot.unset).toArray = ls at hl ⊢
  replace hl : lv_has ls 1 [(0, .ref xh)] := hl
  refine lv_aload_n hx hb dX4_ends_0 rfl (lv_at hl 0 rfl) ?_
  refine va_get (D := (dC, dI)) (ci := 4) (v := .ref lh) (C := RX4) (T := TX4) (N := 4) hx hb hts inc_X4_ends_X4 hown hK hP 0 rfl rfl 1 (by decide) (hts (.fieldLink RX4 19 "ArraySegments" "flow" "LArraySegments$Flow;") (List.mem_of_getElem? (i := 1) rfl)) (fun _ h9 => h9) rfl dX4_ends_1 ?_
  refine lv_aload_n hx hb dX4_ends_4 rfl (lv_at hl 0 rfl) ?_
  refine va_get (D := (dC, dI)) (ci := 4) (v := .ref ph) (C := RX4) (T := TX4) (N := 4) hx hb hts inc_X4_ends_X4 hown hK hP 0 rfl rfl 0 (by decide) (hts (.fieldLink RX4 10 "ArraySegments" "program" "LArraySegments$Program;") (List.mem_of_getElem? (i := 2) rfl)) (fun _ h9 => h9) rfl dX4_ends_5 ?_
  have hPc := hP.sub (ws' := [(lh, .inr (1, [.ref fh, lv_ahead, .int 1, .ref l3, .ref l4, lv_gatheredAny, lv_gatheredLeast, lv_gatheredGreatest])), (fh, .inr (0, [.int fr, .ref f1, .ref f2, .ref f3, .ref f4, .ref f5, fw_lanes, fw_shortest, fw_longest, fw_leastAt, fw_greatestAt])), (f1, .inl (cI, 6, .inl fl)), (f2, .inl (cI, 6, .inl fg)), (f3, .inl (cJ, 6, .inr (.inl fs))), (f4, .inl (cZ, 6, .inl fm)), (f5, .inl (cZ, 40, .inl fk)), (l3, .inl (cZ, 40, .inl lr)), (l4, .inl (cI, 40, .inl lm)), (ph, .inr (3, [pv_rows, pv_dropped, .int 0]))]) [1, 2, 3, 4, 5, 6, 7, 8, 9, 10] rfl
  have hDc := hD.sub (ws' := [(lh, .inr (1, [.ref fh, lv_ahead, .int 1, .ref l3, .ref l4, lv_gatheredAny, lv_gatheredLeast, lv_gatheredGreatest])), (fh, .inr (0, [.int fr, .ref f1, .ref f2, .ref f3, .ref f4, .ref f5, fw_lanes, fw_shortest, fw_longest, fw_leastAt, fw_greatestAt])), (f1, .inl (cI, 6, .inl fl)), (f2, .inl (cI, 6, .inl fg)), (f3, .inl (cJ, 6, .inr (.inl fs))), (f4, .inl (cZ, 6, .inl fm)), (f5, .inl (cZ, 40, .inl fk)), (l3, .inl (cZ, 40, .inl lr)), (l4, .inl (cI, 40, .inl lm)), (ph, .inr (3, [pv_rows, pv_dropped, .int 0]))]) [1, 2, 3, 4, 5, 6, 7, 8, 9, 10] (by decide) rfl
  have hFc := va_free (wc := [(lh, .inr (1, [.ref fh, lv_ahead, .int 1, .ref l3, .ref l4, lv_gatheredAny, lv_gatheredLeast, lv_gatheredGreatest])), (fh, .inr (0, [.int fr, .ref f1, .ref f2, .ref f3, .ref f4, .ref f5, fw_lanes, fw_shortest, fw_longest, fw_leastAt, fw_greatestAt])), (f1, .inl (cI, 6, .inl fl)), (f2, .inl (cI, 6, .inl fg)), (f3, .inl (cJ, 6, .inr (.inl fs))), (f4, .inl (cZ, 6, .inl fm)), (f5, .inl (cZ, 40, .inl fk)), (l3, .inl (cZ, 40, .inl lr)), (l4, .inl (cI, 40, .inl lm)), (ph, .inr (3, [pv_rows, pv_dropped, .int 0]))]) hD hS hA [1, 2, 3, 4, 5, 6, 7, 8, 9, 10] rfl
  refine va_callv (va_runV (As := [.ref ph]) (rest := []) ⟨hx, hb, hml, hown, hts⟩ (c_X1_follow l dC dI cI cJ cZ lh l3 l4 lv_ahead lv_gatheredAny lv_gatheredLeast lv_gatheredGreatest fh f1 f2 f3 f4 f5 fr fw_lanes fw_shortest fw_longest fw_leastAt fw_greatestAt fl fg fs fm fk lr lm ph pv_rows pv_dropped s.heap.size) (cwV 1 hts g_X4_ends_X1_follow_59 rfl rfl rfl (by decide +kernel) ⟨Nat.le_of_ble_eq_true rfl, Nat.le_of_ble_eq_true rfl⟩) ⟨cPre_blind, va_recv hK hPc (ci := 1) (q0 := 0) rfl rfl, cPre_of hK hN hPc hDc⟩ rfl rfl hl.1 rfl (lv_room (Nat.le_of_ble_eq_true rfl)) dX4_ends_8 ⟨Nat.le_of_ble_eq_true rfl, Nat.le_of_ble_eq_true rfl⟩) hS (fun q _ h => hFc q h) hFc (fun u_1 t_1 H_1 locs_1 ht hvm hw_1 hB hz1 hk1 hS1 => ?_)
  obtain ⟨hP1, hK1, hD1⟩ := hB
  rw [ht] at hP1
  obtain ⟨hP2, hD2⟩ := va_join (wr := [(xh, .inr (4, [.ref ph, .ref lh, xf_machine, xf_lastStatus]))]) (w1 := [(lh, .inr (1, [.ref fh, lv_ahead, .int 0, .ref l3, .ref l4, lv_gatheredAny, lv_gatheredLeast, lv_gatheredGreatest])), (fh, .inr (0, [.int 1, .ref f1, .ref f2, .ref f3, .ref f4, .ref f5, fw_lanes, fw_shortest, fw_longest, fw_leastAt, fw_greatestAt])), (f1, .inl (cI, 6, .inl (ov fl 6 0))), (f2, .inl (cI, 6, .inl (ov fg 6 0))), (f3, .inl (cJ, 6, .inr (.inl (ovL fs 6 0)))), (f4, .inl (cZ, 6, .inl (ov fm 6 1))), (f5, .inl (cZ, 40, .inl (ov fk 40 0))), (l3, .inl (cZ, 40, .inl (ov lr 40 0))), (l4, .inl (cI, 40, .inl (ov lm 40 0))), (ph, .inr (3, [pv_rows, pv_dropped, .int 0]))]) hP hD [1, 2, 3, 4, 5, 6, 7, 8, 9, 10] [0] rfl rfl (by decide) (by decide) hk1 hFc hP1 hD1
  clear hPc hDc hFc hP1 hD1 hK1 hk1 hz1 hvm ht
  replace hP : va_P (dC, dI) vwCl [(xh, .inr (4, [.ref ph, .ref lh, xf_machine, xf_lastStatus])), (lh, .inr (1, [.ref fh, lv_ahead, .int 0, .ref l3, .ref l4, lv_gatheredAny, lv_gatheredLeast, lv_gatheredGreatest])), (fh, .inr (0, [.int 1, .ref f1, .ref f2, .ref f3, .ref f4, .ref f5, fw_lanes, fw_shortest, fw_longest, fw_leastAt, fw_greatestAt])), (f1, .inl (cI, 6, .inl (ov fl 6 0))), (f2, .inl (cI, 6, .inl (ov fg 6 0))), (f3, .inl (cJ, 6, .inr (.inl (ovL fs 6 0)))), (f4, .inl (cZ, 6, .inl (ov fm 6 1))), (f5, .inl (cZ, 40, .inl (ov fk 40 0))), (l3, .inl (cZ, 40, .inl (ov lr 40 0))), (l4, .inl (cI, 40, .inl (ov lm 40 0))), (ph, .inr (3, [pv_rows, pv_dropped, .int 0]))] H_1 := hP2
  replace hD : va_D A [(xh, .inr (4, [.ref ph, .ref lh, xf_machine, xf_lastStatus])), (lh, .inr (1, [.ref fh, lv_ahead, .int 0, .ref l3, .ref l4, lv_gatheredAny, lv_gatheredLeast, lv_gatheredGreatest])), (fh, .inr (0, [.int 1, .ref f1, .ref f2, .ref f3, .ref f4, .ref f5, fw_lanes, fw_shortest, fw_longest, fw_leastAt, fw_greatestAt])), (f1, .inl (cI, 6, .inl (ov fl 6 0))), (f2, .inl (cI, 6, .inl (ov fg 6 0))), (f3, .inl (cJ, 6, .inr (.inl (ovL fs 6 0)))), (f4, .inl (cZ, 6, .inl (ov fm 6 1))), (f5, .inl (cZ, 40, .inl (ov fk 40 0))), (l3, .inl (cZ, 40, .inl (ov lr 40 0))), (l4, .inl (cI, 40, .inl (ov lm 40 0))), (ph, .inr (3, [pv_rows, pv_dropped, .int 0]))] := hD2
  replace hS := hS1
  clear hP2 hD2 hS1
  refine lv_aload_n hx hb dX4_ends_11 rfl (lv_at hl 0 rfl) ?_
  refine va_get (D := (dC, dI)) (ci := 4) (v := .ref lh) (C := RX4) (T := TX4) (N := 4) hx hb hts inc_X4_ends_X4 hown hK hP 0 rfl rfl 1 (by decide) (hts (.fieldLink RX4 19 "ArraySegments" "flow" "LArraySegments$Flow;") (List.mem_of_getElem? (i := 1) rfl)) (fun _ h9 => h9) rfl dX4_ends_12 ?_
  refine va_get (D := (dC, dI)) (ci := 1) (v := .ref fh) (C := RX1) (T := TX1) (N := 8) hx hb hts inc_X4_ends_X1 hown hK hP 1 rfl rfl 0 (by decide) (hts (.fieldLink RX4 70 "ArraySegments$Flow" "now" "LArraySegments$Facts;") (List.mem_of_getElem? (i := 33) rfl)) (fun _ h9 => h9) rfl dX4_ends_15 ?_
  refine va_get (D := (dC, dI)) (ci := 0) (v := .int 1) (C := RX0) (T := TX0) (N := 11) hx hb hts inc_X4_ends_X0 hown hK hP 2 rfl rfl 0 (by decide) (hts (.fieldLink RX4 74 "ArraySegments$Facts" "isReached" "Z") (List.mem_of_getElem? (i := 34) rfl)) (fun _ h9 => h9) rfl dX4_ends_18 ?_
  refine lv_if_eq (tgt := 28) hx hb dX4_ends_21 (by decide) (fun c_2 => ?_) (fun c_2 => ?_)
  · exact absurd c_2 (by decide)
  · -- on
    refine lv_iconst (v := 1) hx hb dX4_ends_24 (by decide) ?_
    refine lv_goto (tgt := 29) hx hb dX4_ends_25 (by decide) ?_
    have hP9 := hP.sub (ws' := []) [] rfl
    have hD9 := hD.sub (ws' := []) [] (by decide) rfl
    exact W.iret (v := 1) hx hb hr (fun t ht hW => ⟨⟨1, (fun _ => 0), rfl, rfl, by rw [ht]; exact hP9, va_K.moved hW.alike hK, hD9⟩, hS.F ht⟩) hS.2.2 dX4_ends_29

def w_X4_variable : List Cond := .code yX4_variable cX4_variable 3 (some .int) :: ([.methodLink RX4 79 yX4_isVariable, .static yX4_isVariable, .initialized RX4, .code yX4_isVariable cX4_isVariable 1 (some .boolean), .methodLink RX4 82 yX4_refuse, .instanceMethod yX4_refuse, .selects RX4 yX4_refuse yX4_refuse, .code yX4_refuse cX4_refuse 2 (some .int), .fieldLink RX4 30 "ArraySegments" "lastStatus" "I", .fieldLink RX4 19 "ArraySegments" "flow" "LArraySegments$Flow;", .fieldLink RX4 10 "ArraySegments" "program" "LArraySegments$Program;", .methodLink RX4 59 yX1_follow, .instanceMethod yX1_follow, .selects RX1 yX1_follow yX1_follow, .initialized RX1, .code yX1_follow cX1_follow 5 none, .fieldLink RX1 21 "ArraySegments$Flow" "isOld" "Z", .fieldLink RX1 12 "ArraySegments$Flow" "now" "LArraySegments$Facts;", .methodLink RX1 43 yX0_begin, .instanceMethod yX0_begin, .selects RX0 yX0_begin yX0_begin, .initialized RX0, .code yX0_begin cX0_begin 2 none, .fieldLink RX0 9 "ArraySegments$Facts" "isReached" "Z", .fieldLink RX0 30 "ArraySegments$Facts" "known" "[Z", .fieldLink RX0 22 "ArraySegments$Facts" "sites" "[J", .fieldLink RX0 26 "ArraySegments$Facts" "maybeNull" "[Z", .methodLink RX0 48 yX0_setSpan, .instanceMethod yX0_setSpan, .selects RX0 yX0_setSpan yX0_setSpan, .code yX0_setSpan cX0_setSpan 4 none, .fieldLink RX0 15 "ArraySegments$Facts" "least" "[I", .fieldLink RX0 19 "ArraySegments$Facts" "greatest" "[I", .methodLink RX1 46 yX3_hasAct, .instanceMethod yX3_hasAct, .selects RX3 yX3_hasAct yX3_hasAct, .initialized RX3, .code yX3_hasAct cX3_hasAct 2 (some .boolean), .fieldLink RX3 19 "ArraySegments$Program" "count" "I", .fieldLink RX1 25 "ArraySegments$Flow" "isReached" "[Z", .fieldLink RX1 29 "ArraySegments$Flow" "mayThrow" "[I", .fieldLink RX4 70 "ArraySegments$Flow" "now" "LArraySegments$Facts;", .fieldLink RX4 74 "ArraySegments$Facts" "isReached" "Z", .fieldLink RX4 89 "ArraySegments$Facts" "greatest" "[I", .methodLink RX4 92 yX4_tell, .instanceMethod yX4_tell, .selects RX4 yX4_tell yX4_tell, .code yX4_tell cX4_tell 2 (some .int), .fieldLink RX4 86 "ArraySegments$Facts" "least" "[I"] ++ wsX40 ++ wsX10 ++ wsX00 ++ wsX30)
theorem inc_X4_variable_X0 : ∀ w ∈ wsX00, w ∈ w_X4_variable := fun _ h => List.mem_cons_of_mem _ (List.mem_append_left _ (List.mem_append_right _ h))
theorem inc_X4_variable_X1 : ∀ w ∈ wsX10, w ∈ w_X4_variable := fun _ h => List.mem_cons_of_mem _ (List.mem_append_left _ (List.mem_append_left _ (List.mem_append_right _ h)))
theorem inc_X4_variable_X4 : ∀ w ∈ wsX40, w ∈ w_X4_variable := fun _ h => List.mem_cons_of_mem _ (List.mem_append_left _ (List.mem_append_left _ (List.mem_append_left _ (List.mem_append_right _ h))))
set_option maxRecDepth 20000 in
theorem g_X4_variable_X4_isVariable_79 : GoodIn w_X4_variable (va_wsS RX4 79 yX4_isVariable w_X4_isVariable) := goodIn_r _ [1, 2, 3, 4] (by decide +kernel) (by decide +kernel)
set_option maxRecDepth 20000 in
theorem g_X4_variable_X4_refuse_82 : GoodIn w_X4_variable (wsV RX4 82 RX4 yX4_refuse w_X4_refuse) := goodIn_r _ [5, 6, 7, 3, 8, 9, 50, 51, 52, 53] (by decide +kernel) (by decide +kernel)
set_option maxRecDepth 20000 in
theorem g_X4_variable_X1_follow_59 : GoodIn w_X4_variable (wsV RX4 59 RX1 yX1_follow w_X1_follow) := goodIn_r _ [12, 13, 14, 15, 16, 17, 18, 19, 20, 21, 22, 23, 24, 25, 26, 27, 28, 29, 30, 31, 32, 33, 34, 35, 36, 37, 38, 39, 40, 41, 54, 55, 56, 57, 58, 59, 60, 61, 62, 63, 64, 65, 66, 67, 68, 69, 70, 71, 72, 73, 74, 75] (by decide +kernel) (by decide +kernel)
set_option maxRecDepth 20000 in
theorem g_X4_variable_X4_tell_92 : GoodIn w_X4_variable (wsV RX4 92 RX4 yX4_tell w_X4_tell) := goodIn_r _ [45, 46, 47, 3, 48, 9, 50, 51, 52, 53] (by decide +kernel) (by decide +kernel)
abbrev pw_X4_variable (cI cJ cZ : ClassId) (xh : Nat) (ph : Nat) (xf_machine : Value) (xf_lastStatus : Value) (lh : Nat) (l3 : Nat) (l4 : Nat) (lv_ahead : Value) (lv_gatheredAny : Value) (lv_gatheredLeast : Value) (lv_gatheredGreatest : Value) (fh : Nat) (f1 : Nat) (f2 : Nat) (f3 : Nat) (f4 : Nat) (f5 : Nat) (fr : Int32) (fw_lanes : Value) (fw_shortest : Value) (fw_longest : Value) (fw_leastAt : Value) (fw_greatestAt : Value) (fl : Nat → Int32) (fg : Nat → Int32) (fs : Nat → Int64) (fm : Nat → Int32) (fk : Nat → Int32) (lr : Nat → Int32) (lm : Nat → Int32) (pv_rows : Value) (pv_dropped : Value) (xa : Int32) (sa : Int32) : va_W := [(xh, .inr (4, [.ref ph, .ref lh, xf_machine, xf_lastStatus])), (lh, .inr (1, [.ref fh, lv_ahead, .int 1, .ref l3, .ref l4, lv_gatheredAny, lv_gatheredLeast, lv_gatheredGreatest])), (fh, .inr (0, [.int fr, .ref f1, .ref f2, .ref f3, .ref f4, .ref f5, fw_lanes, fw_shortest, fw_longest, fw_leastAt, fw_greatestAt])), (f1, .inl (cI, 6, .inl fl)), (f2, .inl (cI, 6, .inl fg)), (f3, .inl (cJ, 6, .inr (.inl fs))), (f4, .inl (cZ, 6, .inl fm)), (f5, .inl (cZ, 40, .inl fk)), (l3, .inl (cZ, 40, .inl lr)), (l4, .inl (cI, 40, .inl lm)), (ph, .inr (3, [pv_rows, pv_dropped, .int 0]))]
set_option maxHeartbeats 4000000 in
set_option maxRecDepth 100000 in
theorem c_X4_variable (l : Launch) (dC : Nat → ClassId) (dI : Nat → Nat → Nat) (cI cJ cZ : ClassId) (xh : Nat) (ph : Nat) (xf_machine : Value) (xf_lastStatus : Value) (lh : Nat) (l3 : Nat) (l4 : Nat) (lv_ahead : Value) (lv_gatheredAny : Value) (lv_gatheredLeast : Value) (lv_gatheredGreatest : Value) (fh : Nat) (f1 : Nat) (f2 : Nat) (f3 : Nat) (f4 : Nat) (f5 : Nat) (fr : Int32) (fw_lanes : Value) (fw_shortest : Value) (fw_longest : Value) (fw_leastAt : Value) (fw_greatestAt : Value) (fl : Nat → Int32) (fg : Nat → Int32) (fs : Nat → Int64) (fm : Nat → Int32) (fk : Nat → Int32) (lr : Nat → Int32) (lm : Nat → Int32) (pv_rows : Value) (pv_dropped : Value) (xa : Int32) (sa : Int32) (sz : Nat) : Met l yX4_variable w_X4_variable ({ frames := 3, cells := 0, slots := 0, locals := 68 }) (va_Pc [.ref xh, .int xa, .int sa] (cPre dC dI cI cJ cZ sz (pw_X4_variable cI cJ cZ xh ph xf_machine xf_lastStatus lh l3 l4 lv_ahead lv_gatheredAny lv_gatheredLeast lv_gatheredGreatest fh f1 f2 f3 f4 f5 fr fw_lanes fw_shortest fw_longest fw_leastAt fw_greatestAt fl fg fs fm fk lr lm pv_rows pv_dropped xa sa))) (va_Qi (fun (r : Int32) (u : Nat → Nat) => two r (V6 xa ∧ 0 ≤ sa.toInt ∧ sa.toInt ≤ 1) 0 (-2)) (fun (u : Nat → Nat) => cPost dC dI cI cJ cZ (va_A (pw_X4_variable cI cJ cZ xh ph xf_machine xf_lastStatus lh l3 l4 lv_ahead lv_gatheredAny lv_gatheredLeast lv_gatheredGreatest fh f1 f2 f3 f4 f5 fr fw_lanes fw_shortest fw_longest fw_leastAt fw_greatestAt fl fg fs fm fk lr lm pv_rows pv_dropped xa sa) sz) []) (va_A (pw_X4_variable cI cJ cZ xh ph xf_machine xf_lastStatus lh l3 l4 lv_ahead lv_gatheredAny lv_gatheredLeast lv_gatheredGreatest fh f1 f2 f3 f4 f5 fr fw_lanes fw_shortest fw_longest fw_leastAt fw_greatestAt fl fg fs fm fk lr lm pv_rows pv_dropped xa sa) sz)) 0 0 (va_A (pw_X4_variable cI cJ cZ xh ph xf_machine xf_lastStatus lh l3 l4 lv_ahead lv_gatheredAny lv_gatheredLeast lv_gatheredGreatest fh f1 f2 f3 f4 f5 fr fw_lanes fw_shortest fw_longest fw_leastAt fw_greatestAt fl fg fs fm fk lr lm pv_rows pv_dropped xa sa) sz) := by
  refine Met.ofW (cc := cX4_variable) (maxL := 3) (ret := (some .int)) (by decide) rfl ?_
  intro p e s m args below meth c s₁ B hml hv
  obtain ⟨rfl, hsz, hP, hK, hD0, hN⟩ := hv
  have hx := B.exec
  have hb := B.bytes
  have hr := B.returns
  have hts := atoms_spec (ws := w_X4_variable) B.pre
  have hown : s.vm.findClass RX4 = some m.cls := findClass_of_methodNamed B.named
  have hlocks := B.notSynchronized
  subst hsz
  have hD := hD0.self (sz := s.heap.size)
  generalize hAe : va_A (pw_X4_variable cI cJ cZ xh ph xf_machine xf_lastStatus lh l3 l4 lv_ahead lv_gatheredAny lv_gatheredLeast lv_gatheredGreatest fh f1 f2 f3 f4 f5 fr fw_lanes fw_shortest fw_longest fw_leastAt fw_greatestAt fl fg fs fm fk lr lm pv_rows pv_dropped xa sa) s.heap.size = A at hD ⊢
  have hA : ∀ q : Nat, s.heap.size ≤ q → A q := fun q h => by rw [← hAe]; exact Or.inr h
  clear hAe hD0
  have hS : va_S A s.heap s.heap [] := va_S.rf
  replace hP : va_P (dC, dI) vwCl [(xh, .inr (4, [.ref ph, .ref lh, xf_machine, xf_lastStatus])), (lh, .inr (1, [.ref fh, lv_ahead, .int 1, .ref l3, .ref l4, lv_gatheredAny, lv_gatheredLeast, lv_gatheredGreatest])), (fh, .inr (0, [.int fr, .ref f1, .ref f2, .ref f3, .ref f4, .ref f5, fw_lanes, fw_shortest, fw_longest, fw_leastAt, fw_greatestAt])), (f1, .inl (cI, 6, .inl fl)), (f2, .inl (cI, 6, .inl fg)), (f3, .inl (cJ, 6, .inr (.inl fs))), (f4, .inl (cZ, 6, .inl fm)), (f5, .inl (cZ, 40, .inl fk)), (l3, .inl (cZ, 40, .inl lr)), (l4, .inl (cI, 40, .inl lm)), (ph, .inr (3, [pv_rows, pv_dropped, .int 0]))] s.heap := hP
  replace hD : va_D A [(xh, .inr (4, [.ref ph, .ref lh, xf_machine, xf_lastStatus])), (lh, .inr (1, [.ref fh, lv_ahead, .int 1, .ref l3, .ref l4, lv_gatheredAny, lv_gatheredLeast, lv_gatheredGreatest])), (fh, .inr (0, [.int fr, .ref f1, .ref f2, .ref f3, .ref f4, .ref f5, fw_lanes, fw_shortest, fw_longest, fw_leastAt, fw_greatestAt])), (f1, .inl (cI, 6, .inl fl)), (f2, .inl (cI, 6, .inl fg)), (f3, .inl (cJ, 6, .inr (.inl fs))), (f4, .inl (cZ, 6, .inl fm)), (f5, .inl (cZ, 40, .inl fk)), (l3, .inl (cZ, 40, .inl lr)), (l4, .inl (cI, 40, .inl lm)), (ph, .inr (3, [pv_rows, pv_dropped, .int 0]))] := hD
  have hl := lv_entry ([.ref xh, .int xa, .int sa]) (n := 3) (Nat.le_of_ble_eq_true rfl)
  rw [lg_entry_eq]
  generalize (lg_sl ([.ref xh, .int xa, .int sa]) ++ List.replicate (3 - (lg_sl ([.ref xh, .int xa, .int sa])).length) Slot.unset).toArray = ls at hl ⊢
  replace hl : lv_has ls 3 [(0, .ref xh), (1, .int xa), (2, .int sa)] := hl
  refine lv_iload_n hx hb dX4_variable_0 rfl (lv_at hl 1 rfl) ?_
  refine vp_callSi (va_runS (As := [.int xa]) (rest := []) ⟨hx, hb, hml, hown, hts⟩ (c_X4_isVariable l xa) (va_cwS 1 hts g_X4_variable_X4_isVariable_79 rfl rfl rfl (by decide +kernel) ⟨Nat.le_of_ble_eq_true rfl, Nat.le_of_ble_eq_true rfl⟩) ⟨fun _ _ _ _ q => q, fun _ _ _ => ⟨rfl, trivial⟩⟩ rfl rfl hl.1 rfl (lv_room (Nat.le_of_ble_eq_true rfl)) dX4_variable_1 ⟨Nat.le_of_ble_eq_true rfl, Nat.le_of_ble_eq_true rfl⟩).run (fun r_1 hw_1 => ?_)
  refine lv_if_eq (tgt := 16) hx hb dX4_variable_4 (by decide) (fun c_2 => ?_) (fun c_2 => ?_)
  · -- yes
    have k_2 : ¬ (V6 xa) := two_z hw_1 c_2
    refine lv_aload_n hx hb dX4_variable_16 rfl (lv_at hl 0 rfl) ?_
    refine lv_bipush (v := (-2)) hx hb dX4_variable_17 (by decide) ?_
    have hPc := hP.sub (ws' := [(xh, .inr (4, [.ref ph, .ref lh, xf_machine, xf_lastStatus]))]) [0] rfl
    have hDc := hD.sub (ws' := [(xh, .inr (4, [.ref ph, .ref lh, xf_machine, xf_lastStatus]))]) [0] (by decide) rfl
    have hFc := va_free (wc := [(xh, .inr (4, [.ref ph, .ref lh, xf_machine, xf_lastStatus]))]) hD hS hA [0] rfl
    refine va_calli (va_runV (As := [.int (-2)]) (rest := []) ⟨hx, hb, hml, hown, hts⟩ (c_X4_refuse l dC dI cI cJ cZ xh (.ref ph) (.ref lh) xf_machine xf_lastStatus (-2) s.heap.size) (cwV 1 hts g_X4_variable_X4_refuse_82 rfl rfl rfl (by decide +kernel) ⟨Nat.le_of_ble_eq_true rfl, Nat.le_of_ble_eq_true rfl⟩) ⟨cPre_blind, va_recv hK hPc (ci := 4) (q0 := 0) rfl rfl, cPre_of hK hN hPc hDc⟩ rfl rfl hl.1 rfl (lv_room (Nat.le_of_ble_eq_true rfl)) dX4_variable_19 ⟨Nat.le_of_ble_eq_true rfl, Nat.le_of_ble_eq_true rfl⟩) hS (fun q _ h => hFc q h) hFc (fun r_3 u_3 t_3 H_3 locs_3 ht hvm hw_3 hB hz1 hk1 hS1 => ?_)
    obtain ⟨hP1, hK1, hD1⟩ := hB
    rw [ht] at hP1
    obtain ⟨hP2, hD2⟩ := va_join (wr := [(lh, .inr (1, [.ref fh, lv_ahead, .int 1, .ref l3, .ref l4, lv_gatheredAny, lv_gatheredLeast, lv_gatheredGreatest])), (fh, .inr (0, [.int fr, .ref f1, .ref f2, .ref f3, .ref f4, .ref f5, fw_lanes, fw_shortest, fw_longest, fw_leastAt, fw_greatestAt])), (f1, .inl (cI, 6, .inl fl)), (f2, .inl (cI, 6, .inl fg)), (f3, .inl (cJ, 6, .inr (.inl fs))), (f4, .inl (cZ, 6, .inl fm)), (f5, .inl (cZ, 40, .inl fk)), (l3, .inl (cZ, 40, .inl lr)), (l4, .inl (cI, 40, .inl lm)), (ph, .inr (3, [pv_rows, pv_dropped, .int 0]))]) (w1 := [(xh, .inr (4, [.ref ph, .ref lh, xf_machine, .int (-2)]))]) hP hD [0] [1, 2, 3, 4, 5, 6, 7, 8, 9, 10] rfl rfl (by decide) (by decide) hk1 hFc hP1 hD1
    clear hPc hDc hFc hP1 hD1 hK1 hk1 hz1 hvm ht
    replace hP : va_P (dC, dI) vwCl [(lh, .inr (1, [.ref fh, lv_ahead, .int 1, .ref l3, .ref l4, lv_gatheredAny, lv_gatheredLeast, lv_gatheredGreatest])), (fh, .inr (0, [.int fr, .ref f1, .ref f2, .ref f3, .ref f4, .ref f5, fw_lanes, fw_shortest, fw_longest, fw_leastAt, fw_greatestAt])), (f1, .inl (cI, 6, .inl fl)), (f2, .inl (cI, 6, .inl fg)), (f3, .inl (cJ, 6, .inr (.inl fs))), (f4, .inl (cZ, 6, .inl fm)), (f5, .inl (cZ, 40, .inl fk)), (l3, .inl (cZ, 40, .inl lr)), (l4, .inl (cI, 40, .inl lm)), (ph, .inr (3, [pv_rows, pv_dropped, .int 0])), (xh, .inr (4, [.ref ph, .ref lh, xf_machine, .int (-2)]))] H_3 := hP2
    replace hD : va_D A [(lh, .inr (1, [.ref fh, lv_ahead, .int 1, .ref l3, .ref l4, lv_gatheredAny, lv_gatheredLeast, lv_gatheredGreatest])), (fh, .inr (0, [.int fr, .ref f1, .ref f2, .ref f3, .ref f4, .ref f5, fw_lanes, fw_shortest, fw_longest, fw_leastAt, fw_greatestAt])), (f1, .inl (cI, 6, .inl fl)), (f2, .inl (cI, 6, .inl fg)), (f3, .inl (cJ, 6, .inr (.inl fs))), (f4, .inl (cZ, 6, .inl fm)), (f5, .inl (cZ, 40, .inl fk)), (l3, .inl (cZ, 40, .inl lr)), (l4, .inl (cI, 40, .inl lm)), (ph, .inr (3, [pv_rows, pv_dropped, .int 0])), (xh, .inr (4, [.ref ph, .ref lh, xf_machine, .int (-2)]))] := hD2
    replace hS := hS1
    clear hP2 hD2 hS1
    refine my_topi (y := (-2)) hw_3 ?_
    have hP9 := hP.sub (ws' := []) [] rfl
    have hD9 := hD.sub (ws' := []) [] (by decide) rfl
    exact W.iret (v := (-2)) hx hb hr (fun t ht hW => ⟨⟨(-2), (fun _ => 0), rfl, (by refine Or.inr ⟨rfl, ?_⟩; first | assumption | omega), by rw [ht]; exact hP9, va_K.moved hW.alike hK, hD9⟩, hS.F ht⟩) hS.2.2 dX4_variable_22
  · -- no
    have k_2 : V6 xa := two_nz hw_1 c_2
    refine lv_iload_n hx hb dX4_variable_7 rfl (lv_at hl 2 rfl) ?_
    refine lv_if_lt (tgt := 16) hx hb dX4_variable_8 (by decide) (fun c_4 => ?_) (fun c_4 => ?_)
    · -- yes
      have k_4 : (sa.toInt : Int) < (0 : Int) := by first | exact lt_i c_4 | simpa using lt_i c_4
      refine lv_aload_n hx hb dX4_variable_16 rfl (lv_at hl 0 rfl) ?_
      refine lv_bipush (v := (-2)) hx hb dX4_variable_17 (by decide) ?_
      have hPc := hP.sub (ws' := [(xh, .inr (4, [.ref ph, .ref lh, xf_machine, xf_lastStatus]))]) [0] rfl
      have hDc := hD.sub (ws' := [(xh, .inr (4, [.ref ph, .ref lh, xf_machine, xf_lastStatus]))]) [0] (by decide) rfl
      have hFc := va_free (wc := [(xh, .inr (4, [.ref ph, .ref lh, xf_machine, xf_lastStatus]))]) hD hS hA [0] rfl
      refine va_calli (va_runV (As := [.int (-2)]) (rest := []) ⟨hx, hb, hml, hown, hts⟩ (c_X4_refuse l dC dI cI cJ cZ xh (.ref ph) (.ref lh) xf_machine xf_lastStatus (-2) s.heap.size) (cwV 1 hts g_X4_variable_X4_refuse_82 rfl rfl rfl (by decide +kernel) ⟨Nat.le_of_ble_eq_true rfl, Nat.le_of_ble_eq_true rfl⟩) ⟨cPre_blind, va_recv hK hPc (ci := 4) (q0 := 0) rfl rfl, cPre_of hK hN hPc hDc⟩ rfl rfl hl.1 rfl (lv_room (Nat.le_of_ble_eq_true rfl)) dX4_variable_19 ⟨Nat.le_of_ble_eq_true rfl, Nat.le_of_ble_eq_true rfl⟩) hS (fun q _ h => hFc q h) hFc (fun r_5 u_5 t_5 H_5 locs_5 ht hvm hw_5 hB hz1 hk1 hS1 => ?_)
      obtain ⟨hP1, hK1, hD1⟩ := hB
      rw [ht] at hP1
      obtain ⟨hP2, hD2⟩ := va_join (wr := [(lh, .inr (1, [.ref fh, lv_ahead, .int 1, .ref l3, .ref l4, lv_gatheredAny, lv_gatheredLeast, lv_gatheredGreatest])), (fh, .inr (0, [.int fr, .ref f1, .ref f2, .ref f3, .ref f4, .ref f5, fw_lanes, fw_shortest, fw_longest, fw_leastAt, fw_greatestAt])), (f1, .inl (cI, 6, .inl fl)), (f2, .inl (cI, 6, .inl fg)), (f3, .inl (cJ, 6, .inr (.inl fs))), (f4, .inl (cZ, 6, .inl fm)), (f5, .inl (cZ, 40, .inl fk)), (l3, .inl (cZ, 40, .inl lr)), (l4, .inl (cI, 40, .inl lm)), (ph, .inr (3, [pv_rows, pv_dropped, .int 0]))]) (w1 := [(xh, .inr (4, [.ref ph, .ref lh, xf_machine, .int (-2)]))]) hP hD [0] [1, 2, 3, 4, 5, 6, 7, 8, 9, 10] rfl rfl (by decide) (by decide) hk1 hFc hP1 hD1
      clear hPc hDc hFc hP1 hD1 hK1 hk1 hz1 hvm ht
      replace hP : va_P (dC, dI) vwCl [(lh, .inr (1, [.ref fh, lv_ahead, .int 1, .ref l3, .ref l4, lv_gatheredAny, lv_gatheredLeast, lv_gatheredGreatest])), (fh, .inr (0, [.int fr, .ref f1, .ref f2, .ref f3, .ref f4, .ref f5, fw_lanes, fw_shortest, fw_longest, fw_leastAt, fw_greatestAt])), (f1, .inl (cI, 6, .inl fl)), (f2, .inl (cI, 6, .inl fg)), (f3, .inl (cJ, 6, .inr (.inl fs))), (f4, .inl (cZ, 6, .inl fm)), (f5, .inl (cZ, 40, .inl fk)), (l3, .inl (cZ, 40, .inl lr)), (l4, .inl (cI, 40, .inl lm)), (ph, .inr (3, [pv_rows, pv_dropped, .int 0])), (xh, .inr (4, [.ref ph, .ref lh, xf_machine, .int (-2)]))] H_5 := hP2
      replace hD : va_D A [(lh, .inr (1, [.ref fh, lv_ahead, .int 1, .ref l3, .ref l4, lv_gatheredAny, lv_gatheredLeast, lv_gatheredGreatest])), (fh, .inr (0, [.int fr, .ref f1, .ref f2, .ref f3, .ref f4, .ref f5, fw_lanes, fw_shortest, fw_longest, fw_leastAt, fw_greatestAt])), (f1, .inl (cI, 6, .inl fl)), (f2, .inl (cI, 6, .inl fg)), (f3, .inl (cJ, 6, .inr (.inl fs))), (f4, .inl (cZ, 6, .inl fm)), (f5, .inl (cZ, 40, .inl fk)), (l3, .inl (cZ, 40, .inl lr)), (l4, .inl (cI, 40, .inl lm)), (ph, .inr (3, [pv_rows, pv_dropped, .int 0])), (xh, .inr (4, [.ref ph, .ref lh, xf_machine, .int (-2)]))] := hD2
      replace hS := hS1
      clear hP2 hD2 hS1
      refine my_topi (y := (-2)) hw_5 ?_
      have hP9 := hP.sub (ws' := []) [] rfl
      have hD9 := hD.sub (ws' := []) [] (by decide) rfl
      exact W.iret (v := (-2)) hx hb hr (fun t ht hW => ⟨⟨(-2), (fun _ => 0), rfl, (by refine Or.inr ⟨rfl, ?_⟩; first | assumption | omega), by rw [ht]; exact hP9, va_K.moved hW.alike hK, hD9⟩, hS.F ht⟩) hS.2.2 dX4_variable_22
    · -- no
      have k_4 : (0 : Int) ≤ (sa.toInt : Int) := by first | exact nlt_i c_4 | simpa using nlt_i c_4
      refine lv_iload_n hx hb dX4_variable_11 rfl (lv_at hl 2 rfl) ?_
      refine lv_iconst (v := 1) hx hb dX4_variable_12 (by decide) ?_
      refine lv_icmp_le (tgt := 23) hx hb dX4_variable_13 (by decide) (fun c_6 => ?_) (fun c_6 => ?_)
      · -- yes
        have k_6 : (sa.toInt : Int) ≤ (1 : Int) := by first | exact le_i c_6 | simpa using le_i c_6
        refine lv_aload_n hx hb dX4_variable_23 rfl (lv_at hl 0 rfl) ?_
        refine va_get (D := (dC, dI)) (ci := 4) (v := .ref lh) (C := RX4) (T := TX4) (N := 4) hx hb hts inc_X4_variable_X4 hown hK hP 0 rfl rfl 1 (by decide) (hts (.fieldLink RX4 19 "ArraySegments" "flow" "LArraySegments$Flow;") (List.mem_of_getElem? (i := 10) rfl)) (fun _ h9 => h9) rfl dX4_variable_24 ?_
        refine lv_aload_n hx hb dX4_variable_27 rfl (lv_at hl 0 rfl) ?_
        refine va_get (D := (dC, dI)) (ci := 4) (v := .ref ph) (C := RX4) (T := TX4) (N := 4) hx hb hts inc_X4_variable_X4 hown hK hP 0 rfl rfl 0 (by decide) (hts (.fieldLink RX4 10 "ArraySegments" "program" "LArraySegments$Program;") (List.mem_of_getElem? (i := 11) rfl)) (fun _ h9 => h9) rfl dX4_variable_28 ?_
        have hPc := hP.sub (ws' := [(lh, .inr (1, [.ref fh, lv_ahead, .int 1, .ref l3, .ref l4, lv_gatheredAny, lv_gatheredLeast, lv_gatheredGreatest])), (fh, .inr (0, [.int fr, .ref f1, .ref f2, .ref f3, .ref f4, .ref f5, fw_lanes, fw_shortest, fw_longest, fw_leastAt, fw_greatestAt])), (f1, .inl (cI, 6, .inl fl)), (f2, .inl (cI, 6, .inl fg)), (f3, .inl (cJ, 6, .inr (.inl fs))), (f4, .inl (cZ, 6, .inl fm)), (f5, .inl (cZ, 40, .inl fk)), (l3, .inl (cZ, 40, .inl lr)), (l4, .inl (cI, 40, .inl lm)), (ph, .inr (3, [pv_rows, pv_dropped, .int 0]))]) [1, 2, 3, 4, 5, 6, 7, 8, 9, 10] rfl
        have hDc := hD.sub (ws' := [(lh, .inr (1, [.ref fh, lv_ahead, .int 1, .ref l3, .ref l4, lv_gatheredAny, lv_gatheredLeast, lv_gatheredGreatest])), (fh, .inr (0, [.int fr, .ref f1, .ref f2, .ref f3, .ref f4, .ref f5, fw_lanes, fw_shortest, fw_longest, fw_leastAt, fw_greatestAt])), (f1, .inl (cI, 6, .inl fl)), (f2, .inl (cI, 6, .inl fg)), (f3, .inl (cJ, 6, .inr (.inl fs))), (f4, .inl (cZ, 6, .inl fm)), (f5, .inl (cZ, 40, .inl fk)), (l3, .inl (cZ, 40, .inl lr)), (l4, .inl (cI, 40, .inl lm)), (ph, .inr (3, [pv_rows, pv_dropped, .int 0]))]) [1, 2, 3, 4, 5, 6, 7, 8, 9, 10] (by decide) rfl
        have hFc := va_free (wc := [(lh, .inr (1, [.ref fh, lv_ahead, .int 1, .ref l3, .ref l4, lv_gatheredAny, lv_gatheredLeast, lv_gatheredGreatest])), (fh, .inr (0, [.int fr, .ref f1, .ref f2, .ref f3, .ref f4, .ref f5, fw_lanes, fw_shortest, fw_longest, fw_leastAt, fw_greatestAt])), (f1, .inl (cI, 6, .inl fl)), (f2, .inl (cI, 6, .inl fg)), (f3, .inl (cJ, 6, .inr (.inl fs))), (f4, .inl (cZ, 6, .inl fm)), (f5, .inl (cZ, 40, .inl fk)), (l3, .inl (cZ, 40, .inl lr)), (l4, .inl (cI, 40, .inl lm)), (ph, .inr (3, [pv_rows, pv_dropped, .int 0]))]) hD hS hA [1, 2, 3, 4, 5, 6, 7, 8, 9, 10] rfl
        refine va_callv (va_runV (As := [.ref ph]) (rest := []) ⟨hx, hb, hml, hown, hts⟩ (c_X1_follow l dC dI cI cJ cZ lh l3 l4 lv_ahead lv_gatheredAny lv_gatheredLeast lv_gatheredGreatest fh f1 f2 f3 f4 f5 fr fw_lanes fw_shortest fw_longest fw_leastAt fw_greatestAt fl fg fs fm fk lr lm ph pv_rows pv_dropped s.heap.size) (cwV 1 hts g_X4_variable_X1_follow_59 rfl rfl rfl (by decide +kernel) ⟨Nat.le_of_ble_eq_true rfl, Nat.le_of_ble_eq_true rfl⟩) ⟨cPre_blind, va_recv hK hPc (ci := 1) (q0 := 0) rfl rfl, cPre_of hK hN hPc hDc⟩ rfl rfl hl.1 rfl (lv_room (Nat.le_of_ble_eq_true rfl)) dX4_variable_31 ⟨Nat.le_of_ble_eq_true rfl, Nat.le_of_ble_eq_true rfl⟩) hS (fun q _ h => hFc q h) hFc (fun u_7 t_7 H_7 locs_7 ht hvm hw_7 hB hz1 hk1 hS1 => ?_)
        obtain ⟨hP1, hK1, hD1⟩ := hB
        rw [ht] at hP1
        obtain ⟨hP2, hD2⟩ := va_join (wr := [(xh, .inr (4, [.ref ph, .ref lh, xf_machine, xf_lastStatus]))]) (w1 := [(lh, .inr (1, [.ref fh, lv_ahead, .int 0, .ref l3, .ref l4, lv_gatheredAny, lv_gatheredLeast, lv_gatheredGreatest])), (fh, .inr (0, [.int 1, .ref f1, .ref f2, .ref f3, .ref f4, .ref f5, fw_lanes, fw_shortest, fw_longest, fw_leastAt, fw_greatestAt])), (f1, .inl (cI, 6, .inl (ov fl 6 0))), (f2, .inl (cI, 6, .inl (ov fg 6 0))), (f3, .inl (cJ, 6, .inr (.inl (ovL fs 6 0)))), (f4, .inl (cZ, 6, .inl (ov fm 6 1))), (f5, .inl (cZ, 40, .inl (ov fk 40 0))), (l3, .inl (cZ, 40, .inl (ov lr 40 0))), (l4, .inl (cI, 40, .inl (ov lm 40 0))), (ph, .inr (3, [pv_rows, pv_dropped, .int 0]))]) hP hD [1, 2, 3, 4, 5, 6, 7, 8, 9, 10] [0] rfl rfl (by decide) (by decide) hk1 hFc hP1 hD1
        clear hPc hDc hFc hP1 hD1 hK1 hk1 hz1 hvm ht
        replace hP : va_P (dC, dI) vwCl [(xh, .inr (4, [.ref ph, .ref lh, xf_machine, xf_lastStatus])), (lh, .inr (1, [.ref fh, lv_ahead, .int 0, .ref l3, .ref l4, lv_gatheredAny, lv_gatheredLeast, lv_gatheredGreatest])), (fh, .inr (0, [.int 1, .ref f1, .ref f2, .ref f3, .ref f4, .ref f5, fw_lanes, fw_shortest, fw_longest, fw_leastAt, fw_greatestAt])), (f1, .inl (cI, 6, .inl (ov fl 6 0))), (f2, .inl (cI, 6, .inl (ov fg 6 0))), (f3, .inl (cJ, 6, .inr (.inl (ovL fs 6 0)))), (f4, .inl (cZ, 6, .inl (ov fm 6 1))), (f5, .inl (cZ, 40, .inl (ov fk 40 0))), (l3, .inl (cZ, 40, .inl (ov lr 40 0))), (l4, .inl (cI, 40, .inl (ov lm 40 0))), (ph, .inr (3, [pv_rows, pv_dropped, .int 0]))] H_7 := hP2
        replace hD : va_D A [(xh, .inr (4, [.ref ph, .ref lh, xf_machine, xf_lastStatus])), (lh, .inr (1, [.ref fh, lv_ahead, .int 0, .ref l3, .ref l4, lv_gatheredAny, lv_gatheredLeast, lv_gatheredGreatest])), (fh, .inr (0, [.int 1, .ref f1, .ref f2, .ref f3, .ref f4, .ref f5, fw_lanes, fw_shortest, fw_longest, fw_leastAt, fw_greatestAt])), (f1, .inl (cI, 6, .inl (ov fl 6 0))), (f2, .inl (cI, 6, .inl (ov fg 6 0))), (f3, .inl (cJ, 6, .inr (.inl (ovL fs 6 0)))), (f4, .inl (cZ, 6, .inl (ov fm 6 1))), (f5, .inl (cZ, 40, .inl (ov fk 40 0))), (l3, .inl (cZ, 40, .inl (ov lr 40 0))), (l4, .inl (cI, 40, .inl (ov lm 40 0))), (ph, .inr (3, [pv_rows, pv_dropped, .int 0]))] := hD2
        replace hS := hS1
        clear hP2 hD2 hS1
        refine lv_aload_n hx hb dX4_variable_34 rfl (lv_at hl 0 rfl) ?_
        refine va_get (D := (dC, dI)) (ci := 4) (v := .ref lh) (C := RX4) (T := TX4) (N := 4) hx hb hts inc_X4_variable_X4 hown hK hP 0 rfl rfl 1 (by decide) (hts (.fieldLink RX4 19 "ArraySegments" "flow" "LArraySegments$Flow;") (List.mem_of_getElem? (i := 10) rfl)) (fun _ h9 => h9) rfl dX4_variable_35 ?_
        refine va_get (D := (dC, dI)) (ci := 1) (v := .ref fh) (C := RX1) (T := TX1) (N := 8) hx hb hts inc_X4_variable_X1 hown hK hP 1 rfl rfl 0 (by decide) (hts (.fieldLink RX4 70 "ArraySegments$Flow" "now" "LArraySegments$Facts;") (List.mem_of_getElem? (i := 42) rfl)) (fun _ h9 => h9) rfl dX4_variable_38 ?_
        refine va_get (D := (dC, dI)) (ci := 0) (v := .int 1) (C := RX0) (T := TX0) (N := 11) hx hb hts inc_X4_variable_X0 hown hK hP 2 rfl rfl 0 (by decide) (hts (.fieldLink RX4 74 "ArraySegments$Facts" "isReached" "Z") (List.mem_of_getElem? (i := 43) rfl)) (fun _ h9 => h9) rfl dX4_variable_41 ?_
        refine lv_if_ne (tgt := 54) hx hb dX4_variable_44 (by decide) (fun c_8 => ?_) (fun c_8 => ?_)
        · -- on
          refine lv_aload_n hx hb dX4_variable_54 rfl (lv_at hl 0 rfl) ?_
          refine lv_iload_n hx hb dX4_variable_55 rfl (lv_at hl 2 rfl) ?_
          refine lv_if_ne (tgt := 74) hx hb dX4_variable_56 (by decide) (fun c_9 => ?_) (fun c_9 => ?_)
          · -- yes
            refine lv_aload_n hx hb dX4_variable_74 rfl (lv_at hl 0 rfl) ?_
            refine va_get (D := (dC, dI)) (ci := 4) (v := .ref lh) (C := RX4) (T := TX4) (N := 4) hx hb hts inc_X4_variable_X4 hown hK hP 0 rfl rfl 1 (by decide) (hts (.fieldLink RX4 19 "ArraySegments" "flow" "LArraySegments$Flow;") (List.mem_of_getElem? (i := 10) rfl)) (fun _ h9 => h9) rfl dX4_variable_75 ?_
            refine va_get (D := (dC, dI)) (ci := 1) (v := .ref fh) (C := RX1) (T := TX1) (N := 8) hx hb hts inc_X4_variable_X1 hown hK hP 1 rfl rfl 0 (by decide) (hts (.fieldLink RX4 70 "ArraySegments$Flow" "now" "LArraySegments$Facts;") (List.mem_of_getElem? (i := 42) rfl)) (fun _ h9 => h9) rfl dX4_variable_78 ?_
            refine va_get (D := (dC, dI)) (ci := 0) (v := .ref f2) (C := RX0) (T := TX0) (N := 11) hx hb hts inc_X4_variable_X0 hown hK hP 2 rfl rfl 2 (by decide) (hts (.fieldLink RX4 89 "ArraySegments$Facts" "greatest" "[I") (List.mem_of_getElem? (i := 44) rfl)) (fun _ h9 => h9) rfl dX4_variable_81 ?_
            refine lv_iload_n hx hb dX4_variable_84 rfl (lv_at hl 1 rfl) ?_
            refine va_iald hx hb hK hP 4 0 rfl rfl (v6_in k_2) dX4_variable_85 ?_
            refine my_topi (y := 0) (ov_v6 fg 0 k_2) ?_
            have hPc := hP.sub (ws' := [(xh, .inr (4, [.ref ph, .ref lh, xf_machine, xf_lastStatus]))]) [0] rfl
            have hDc := hD.sub (ws' := [(xh, .inr (4, [.ref ph, .ref lh, xf_machine, xf_lastStatus]))]) [0] (by decide) rfl
            have hFc := va_free (wc := [(xh, .inr (4, [.ref ph, .ref lh, xf_machine, xf_lastStatus]))]) hD hS hA [0] rfl
            refine va_calli (va_runV (As := [.int 0]) (rest := []) ⟨hx, hb, hml, hown, hts⟩ (c_X4_tell l dC dI cI cJ cZ xh (.ref ph) (.ref lh) xf_machine xf_lastStatus 0 H_7.size) (cwV 1 hts g_X4_variable_X4_tell_92 rfl rfl rfl (by decide +kernel) ⟨Nat.le_of_ble_eq_true rfl, Nat.le_of_ble_eq_true rfl⟩) ⟨cPre_blind, va_recv hK hPc (ci := 4) (q0 := 0) rfl rfl, cPre_of hK hN hPc hDc⟩ rfl rfl hl.1 rfl (lv_room (Nat.le_of_ble_eq_true rfl)) dX4_variable_86 ⟨Nat.le_of_ble_eq_true rfl, Nat.le_of_ble_eq_true rfl⟩) hS (fun q _ h => hFc q h) hFc (fun r_10 u_10 t_10 H_10 locs_10 ht hvm hw_10 hB hz1 hk1 hS1 => ?_)
            obtain ⟨hP1, hK1, hD1⟩ := hB
            rw [ht] at hP1
            obtain ⟨hP2, hD2⟩ := va_join (wr := [(lh, .inr (1, [.ref fh, lv_ahead, .int 0, .ref l3, .ref l4, lv_gatheredAny, lv_gatheredLeast, lv_gatheredGreatest])), (fh, .inr (0, [.int 1, .ref f1, .ref f2, .ref f3, .ref f4, .ref f5, fw_lanes, fw_shortest, fw_longest, fw_leastAt, fw_greatestAt])), (f1, .inl (cI, 6, .inl (ov fl 6 0))), (f2, .inl (cI, 6, .inl (ov fg 6 0))), (f3, .inl (cJ, 6, .inr (.inl (ovL fs 6 0)))), (f4, .inl (cZ, 6, .inl (ov fm 6 1))), (f5, .inl (cZ, 40, .inl (ov fk 40 0))), (l3, .inl (cZ, 40, .inl (ov lr 40 0))), (l4, .inl (cI, 40, .inl (ov lm 40 0))), (ph, .inr (3, [pv_rows, pv_dropped, .int 0]))]) (w1 := [(xh, .inr (4, [.ref ph, .ref lh, xf_machine, .int 0]))]) hP hD [0] [1, 2, 3, 4, 5, 6, 7, 8, 9, 10] rfl rfl (by decide) (by decide) hk1 hFc hP1 hD1
            clear hPc hDc hFc hP1 hD1 hK1 hk1 hz1 hvm ht
            replace hP : va_P (dC, dI) vwCl [(lh, .inr (1, [.ref fh, lv_ahead, .int 0, .ref l3, .ref l4, lv_gatheredAny, lv_gatheredLeast, lv_gatheredGreatest])), (fh, .inr (0, [.int 1, .ref f1, .ref f2, .ref f3, .ref f4, .ref f5, fw_lanes, fw_shortest, fw_longest, fw_leastAt, fw_greatestAt])), (f1, .inl (cI, 6, .inl (ov fl 6 0))), (f2, .inl (cI, 6, .inl (ov fg 6 0))), (f3, .inl (cJ, 6, .inr (.inl (ovL fs 6 0)))), (f4, .inl (cZ, 6, .inl (ov fm 6 1))), (f5, .inl (cZ, 40, .inl (ov fk 40 0))), (l3, .inl (cZ, 40, .inl (ov lr 40 0))), (l4, .inl (cI, 40, .inl (ov lm 40 0))), (ph, .inr (3, [pv_rows, pv_dropped, .int 0])), (xh, .inr (4, [.ref ph, .ref lh, xf_machine, .int 0]))] H_10 := hP2
            replace hD : va_D A [(lh, .inr (1, [.ref fh, lv_ahead, .int 0, .ref l3, .ref l4, lv_gatheredAny, lv_gatheredLeast, lv_gatheredGreatest])), (fh, .inr (0, [.int 1, .ref f1, .ref f2, .ref f3, .ref f4, .ref f5, fw_lanes, fw_shortest, fw_longest, fw_leastAt, fw_greatestAt])), (f1, .inl (cI, 6, .inl (ov fl 6 0))), (f2, .inl (cI, 6, .inl (ov fg 6 0))), (f3, .inl (cJ, 6, .inr (.inl (ovL fs 6 0)))), (f4, .inl (cZ, 6, .inl (ov fm 6 1))), (f5, .inl (cZ, 40, .inl (ov fk 40 0))), (l3, .inl (cZ, 40, .inl (ov lr 40 0))), (l4, .inl (cI, 40, .inl (ov lm 40 0))), (ph, .inr (3, [pv_rows, pv_dropped, .int 0])), (xh, .inr (4, [.ref ph, .ref lh, xf_machine, .int 0]))] := hD2
            replace hS := hS1
            clear hP2 hD2 hS1
            refine my_topi (y := 0) hw_10 ?_
            have hP9 := hP.sub (ws' := []) [] rfl
            have hD9 := hD.sub (ws' := []) [] (by decide) rfl
            exact W.iret (v := 0) hx hb hr (fun t ht hW => ⟨⟨0, (fun _ => 0), rfl, (by refine Or.inl ⟨rfl, ?_⟩; first | assumption | omega), by rw [ht]; exact hP9, va_K.moved hW.alike hK, hD9⟩, hS.F ht⟩) hS.2.2 dX4_variable_89
          · -- no
            refine lv_aload_n hx hb dX4_variable_59 rfl (lv_at hl 0 rfl) ?_
            refine va_get (D := (dC, dI)) (ci := 4) (v := .ref lh) (C := RX4) (T := TX4) (N := 4) hx hb hts inc_X4_variable_X4 hown hK hP 0 rfl rfl 1 (by decide) (hts (.fieldLink RX4 19 "ArraySegments" "flow" "LArraySegments$Flow;") (List.mem_of_getElem? (i := 10) rfl)) (fun _ h9 => h9) rfl dX4_variable_60 ?_
            refine va_get (D := (dC, dI)) (ci := 1) (v := .ref fh) (C := RX1) (T := TX1) (N := 8) hx hb hts inc_X4_variable_X1 hown hK hP 1 rfl rfl 0 (by decide) (hts (.fieldLink RX4 70 "ArraySegments$Flow" "now" "LArraySegments$Facts;") (List.mem_of_getElem? (i := 42) rfl)) (fun _ h9 => h9) rfl dX4_variable_63 ?_
            refine va_get (D := (dC, dI)) (ci := 0) (v := .ref f1) (C := RX0) (T := TX0) (N := 11) hx hb hts inc_X4_variable_X0 hown hK hP 2 rfl rfl 1 (by decide) (hts (.fieldLink RX4 86 "ArraySegments$Facts" "least" "[I") (List.mem_of_getElem? (i := 49) rfl)) (fun _ h9 => h9) rfl dX4_variable_66 ?_
            refine lv_iload_n hx hb dX4_variable_69 rfl (lv_at hl 1 rfl) ?_
            refine va_iald hx hb hK hP 3 0 rfl rfl (v6_in k_2) dX4_variable_70 ?_
            refine my_topi (y := 0) (ov_v6 fl 0 k_2) ?_
            refine lv_goto (tgt := 86) hx hb dX4_variable_71 (by decide) ?_
            have hPc := hP.sub (ws' := [(xh, .inr (4, [.ref ph, .ref lh, xf_machine, xf_lastStatus]))]) [0] rfl
            have hDc := hD.sub (ws' := [(xh, .inr (4, [.ref ph, .ref lh, xf_machine, xf_lastStatus]))]) [0] (by decide) rfl
            have hFc := va_free (wc := [(xh, .inr (4, [.ref ph, .ref lh, xf_machine, xf_lastStatus]))]) hD hS hA [0] rfl
            refine va_calli (va_runV (As := [.int 0]) (rest := []) ⟨hx, hb, hml, hown, hts⟩ (c_X4_tell l dC dI cI cJ cZ xh (.ref ph) (.ref lh) xf_machine xf_lastStatus 0 H_7.size) (cwV 1 hts g_X4_variable_X4_tell_92 rfl rfl rfl (by decide +kernel) ⟨Nat.le_of_ble_eq_true rfl, Nat.le_of_ble_eq_true rfl⟩) ⟨cPre_blind, va_recv hK hPc (ci := 4) (q0 := 0) rfl rfl, cPre_of hK hN hPc hDc⟩ rfl rfl hl.1 rfl (lv_room (Nat.le_of_ble_eq_true rfl)) dX4_variable_86 ⟨Nat.le_of_ble_eq_true rfl, Nat.le_of_ble_eq_true rfl⟩) hS (fun q _ h => hFc q h) hFc (fun r_11 u_11 t_11 H_11 locs_11 ht hvm hw_11 hB hz1 hk1 hS1 => ?_)
            obtain ⟨hP1, hK1, hD1⟩ := hB
            rw [ht] at hP1
            obtain ⟨hP2, hD2⟩ := va_join (wr := [(lh, .inr (1, [.ref fh, lv_ahead, .int 0, .ref l3, .ref l4, lv_gatheredAny, lv_gatheredLeast, lv_gatheredGreatest])), (fh, .inr (0, [.int 1, .ref f1, .ref f2, .ref f3, .ref f4, .ref f5, fw_lanes, fw_shortest, fw_longest, fw_leastAt, fw_greatestAt])), (f1, .inl (cI, 6, .inl (ov fl 6 0))), (f2, .inl (cI, 6, .inl (ov fg 6 0))), (f3, .inl (cJ, 6, .inr (.inl (ovL fs 6 0)))), (f4, .inl (cZ, 6, .inl (ov fm 6 1))), (f5, .inl (cZ, 40, .inl (ov fk 40 0))), (l3, .inl (cZ, 40, .inl (ov lr 40 0))), (l4, .inl (cI, 40, .inl (ov lm 40 0))), (ph, .inr (3, [pv_rows, pv_dropped, .int 0]))]) (w1 := [(xh, .inr (4, [.ref ph, .ref lh, xf_machine, .int 0]))]) hP hD [0] [1, 2, 3, 4, 5, 6, 7, 8, 9, 10] rfl rfl (by decide) (by decide) hk1 hFc hP1 hD1
            clear hPc hDc hFc hP1 hD1 hK1 hk1 hz1 hvm ht
            replace hP : va_P (dC, dI) vwCl [(lh, .inr (1, [.ref fh, lv_ahead, .int 0, .ref l3, .ref l4, lv_gatheredAny, lv_gatheredLeast, lv_gatheredGreatest])), (fh, .inr (0, [.int 1, .ref f1, .ref f2, .ref f3, .ref f4, .ref f5, fw_lanes, fw_shortest, fw_longest, fw_leastAt, fw_greatestAt])), (f1, .inl (cI, 6, .inl (ov fl 6 0))), (f2, .inl (cI, 6, .inl (ov fg 6 0))), (f3, .inl (cJ, 6, .inr (.inl (ovL fs 6 0)))), (f4, .inl (cZ, 6, .inl (ov fm 6 1))), (f5, .inl (cZ, 40, .inl (ov fk 40 0))), (l3, .inl (cZ, 40, .inl (ov lr 40 0))), (l4, .inl (cI, 40, .inl (ov lm 40 0))), (ph, .inr (3, [pv_rows, pv_dropped, .int 0])), (xh, .inr (4, [.ref ph, .ref lh, xf_machine, .int 0]))] H_11 := hP2
            replace hD : va_D A [(lh, .inr (1, [.ref fh, lv_ahead, .int 0, .ref l3, .ref l4, lv_gatheredAny, lv_gatheredLeast, lv_gatheredGreatest])), (fh, .inr (0, [.int 1, .ref f1, .ref f2, .ref f3, .ref f4, .ref f5, fw_lanes, fw_shortest, fw_longest, fw_leastAt, fw_greatestAt])), (f1, .inl (cI, 6, .inl (ov fl 6 0))), (f2, .inl (cI, 6, .inl (ov fg 6 0))), (f3, .inl (cJ, 6, .inr (.inl (ovL fs 6 0)))), (f4, .inl (cZ, 6, .inl (ov fm 6 1))), (f5, .inl (cZ, 40, .inl (ov fk 40 0))), (l3, .inl (cZ, 40, .inl (ov lr 40 0))), (l4, .inl (cI, 40, .inl (ov lm 40 0))), (ph, .inr (3, [pv_rows, pv_dropped, .int 0])), (xh, .inr (4, [.ref ph, .ref lh, xf_machine, .int 0]))] := hD2
            replace hS := hS1
            clear hP2 hD2 hS1
            refine my_topi (y := 0) hw_11 ?_
            have hP9 := hP.sub (ws' := []) [] rfl
            have hD9 := hD.sub (ws' := []) [] (by decide) rfl
            exact W.iret (v := 0) hx hb hr (fun t ht hW => ⟨⟨0, (fun _ => 0), rfl, (by refine Or.inl ⟨rfl, ?_⟩; first | assumption | omega), by rw [ht]; exact hP9, va_K.moved hW.alike hK, hD9⟩, hS.F ht⟩) hS.2.2 dX4_variable_89
        · exact absurd c_8 (by decide)
      · -- no
        have k_6 : (1 : Int) < (sa.toInt : Int) := by first | exact nle_i c_6 | simpa using nle_i c_6
        refine lv_aload_n hx hb dX4_variable_16 rfl (lv_at hl 0 rfl) ?_
        refine lv_bipush (v := (-2)) hx hb dX4_variable_17 (by decide) ?_
        have hPc := hP.sub (ws' := [(xh, .inr (4, [.ref ph, .ref lh, xf_machine, xf_lastStatus]))]) [0] rfl
        have hDc := hD.sub (ws' := [(xh, .inr (4, [.ref ph, .ref lh, xf_machine, xf_lastStatus]))]) [0] (by decide) rfl
        have hFc := va_free (wc := [(xh, .inr (4, [.ref ph, .ref lh, xf_machine, xf_lastStatus]))]) hD hS hA [0] rfl
        refine va_calli (va_runV (As := [.int (-2)]) (rest := []) ⟨hx, hb, hml, hown, hts⟩ (c_X4_refuse l dC dI cI cJ cZ xh (.ref ph) (.ref lh) xf_machine xf_lastStatus (-2) s.heap.size) (cwV 1 hts g_X4_variable_X4_refuse_82 rfl rfl rfl (by decide +kernel) ⟨Nat.le_of_ble_eq_true rfl, Nat.le_of_ble_eq_true rfl⟩) ⟨cPre_blind, va_recv hK hPc (ci := 4) (q0 := 0) rfl rfl, cPre_of hK hN hPc hDc⟩ rfl rfl hl.1 rfl (lv_room (Nat.le_of_ble_eq_true rfl)) dX4_variable_19 ⟨Nat.le_of_ble_eq_true rfl, Nat.le_of_ble_eq_true rfl⟩) hS (fun q _ h => hFc q h) hFc (fun r_12 u_12 t_12 H_12 locs_12 ht hvm hw_12 hB hz1 hk1 hS1 => ?_)
        obtain ⟨hP1, hK1, hD1⟩ := hB
        rw [ht] at hP1
        obtain ⟨hP2, hD2⟩ := va_join (wr := [(lh, .inr (1, [.ref fh, lv_ahead, .int 1, .ref l3, .ref l4, lv_gatheredAny, lv_gatheredLeast, lv_gatheredGreatest])), (fh, .inr (0, [.int fr, .ref f1, .ref f2, .ref f3, .ref f4, .ref f5, fw_lanes, fw_shortest, fw_longest, fw_leastAt, fw_greatestAt])), (f1, .inl (cI, 6, .inl fl)), (f2, .inl (cI, 6, .inl fg)), (f3, .inl (cJ, 6, .inr (.inl fs))), (f4, .inl (cZ, 6, .inl fm)), (f5, .inl (cZ, 40, .inl fk)), (l3, .inl (cZ, 40, .inl lr)), (l4, .inl (cI, 40, .inl lm)), (ph, .inr (3, [pv_rows, pv_dropped, .int 0]))]) (w1 := [(xh, .inr (4, [.ref ph, .ref lh, xf_machine, .int (-2)]))]) hP hD [0] [1, 2, 3, 4, 5, 6, 7, 8, 9, 10] rfl rfl (by decide) (by decide) hk1 hFc hP1 hD1
        clear hPc hDc hFc hP1 hD1 hK1 hk1 hz1 hvm ht
        replace hP : va_P (dC, dI) vwCl [(lh, .inr (1, [.ref fh, lv_ahead, .int 1, .ref l3, .ref l4, lv_gatheredAny, lv_gatheredLeast, lv_gatheredGreatest])), (fh, .inr (0, [.int fr, .ref f1, .ref f2, .ref f3, .ref f4, .ref f5, fw_lanes, fw_shortest, fw_longest, fw_leastAt, fw_greatestAt])), (f1, .inl (cI, 6, .inl fl)), (f2, .inl (cI, 6, .inl fg)), (f3, .inl (cJ, 6, .inr (.inl fs))), (f4, .inl (cZ, 6, .inl fm)), (f5, .inl (cZ, 40, .inl fk)), (l3, .inl (cZ, 40, .inl lr)), (l4, .inl (cI, 40, .inl lm)), (ph, .inr (3, [pv_rows, pv_dropped, .int 0])), (xh, .inr (4, [.ref ph, .ref lh, xf_machine, .int (-2)]))] H_12 := hP2
        replace hD : va_D A [(lh, .inr (1, [.ref fh, lv_ahead, .int 1, .ref l3, .ref l4, lv_gatheredAny, lv_gatheredLeast, lv_gatheredGreatest])), (fh, .inr (0, [.int fr, .ref f1, .ref f2, .ref f3, .ref f4, .ref f5, fw_lanes, fw_shortest, fw_longest, fw_leastAt, fw_greatestAt])), (f1, .inl (cI, 6, .inl fl)), (f2, .inl (cI, 6, .inl fg)), (f3, .inl (cJ, 6, .inr (.inl fs))), (f4, .inl (cZ, 6, .inl fm)), (f5, .inl (cZ, 40, .inl fk)), (l3, .inl (cZ, 40, .inl lr)), (l4, .inl (cI, 40, .inl lm)), (ph, .inr (3, [pv_rows, pv_dropped, .int 0])), (xh, .inr (4, [.ref ph, .ref lh, xf_machine, .int (-2)]))] := hD2
        replace hS := hS1
        clear hP2 hD2 hS1
        refine my_topi (y := (-2)) hw_12 ?_
        have hP9 := hP.sub (ws' := []) [] rfl
        have hD9 := hD.sub (ws' := []) [] (by decide) rfl
        exact W.iret (v := (-2)) hx hb hr (fun t ht hW => ⟨⟨(-2), (fun _ => 0), rfl, (by refine Or.inr ⟨rfl, ?_⟩; first | assumption | omega), by rw [ht]; exact hP9, va_K.moved hW.alike hK, hD9⟩, hS.F ht⟩) hS.2.2 dX4_variable_22

def w_X4_reference : List Cond := .code yX4_reference cX4_reference 2 (some .int) :: ([.methodLink RX4 95 yX4_isReference, .static yX4_isReference, .initialized RX4, .code yX4_isReference cX4_isReference 1 (some .boolean), .fieldLink RX4 19 "ArraySegments" "flow" "LArraySegments$Flow;", .fieldLink RX4 10 "ArraySegments" "program" "LArraySegments$Program;", .methodLink RX4 59 yX1_follow, .instanceMethod yX1_follow, .selects RX1 yX1_follow yX1_follow, .initialized RX1, .code yX1_follow cX1_follow 5 none, .fieldLink RX1 21 "ArraySegments$Flow" "isOld" "Z", .fieldLink RX1 12 "ArraySegments$Flow" "now" "LArraySegments$Facts;", .methodLink RX1 43 yX0_begin, .instanceMethod yX0_begin, .selects RX0 yX0_begin yX0_begin, .initialized RX0, .code yX0_begin cX0_begin 2 none, .fieldLink RX0 9 "ArraySegments$Facts" "isReached" "Z", .fieldLink RX0 30 "ArraySegments$Facts" "known" "[Z", .fieldLink RX0 22 "ArraySegments$Facts" "sites" "[J", .fieldLink RX0 26 "ArraySegments$Facts" "maybeNull" "[Z", .methodLink RX0 48 yX0_setSpan, .instanceMethod yX0_setSpan, .selects RX0 yX0_setSpan yX0_setSpan, .code yX0_setSpan cX0_setSpan 4 none, .fieldLink RX0 15 "ArraySegments$Facts" "least" "[I", .fieldLink RX0 19 "ArraySegments$Facts" "greatest" "[I", .methodLink RX1 46 yX3_hasAct, .instanceMethod yX3_hasAct, .selects RX3 yX3_hasAct yX3_hasAct, .initialized RX3, .code yX3_hasAct cX3_hasAct 2 (some .boolean), .fieldLink RX3 19 "ArraySegments$Program" "count" "I", .fieldLink RX1 25 "ArraySegments$Flow" "isReached" "[Z", .fieldLink RX1 29 "ArraySegments$Flow" "mayThrow" "[I", .fieldLink RX4 70 "ArraySegments$Flow" "now" "LArraySegments$Facts;", .fieldLink RX4 74 "ArraySegments$Facts" "isReached" "Z", .fieldLink RX4 98 "ArraySegments$Facts" "sites" "[J", .methodLink RX4 102 yJ13_bitCount_95d88, .static yJ13_bitCount_95d88, .initialized RJ13, .code yJ13_bitCount_95d88 cJ13_bitCount_95d88 2 (some .int), .constantLong RJ13 314 (6148914691236517205), .constantLong RJ13 316 (3689348814741910323), .constantLong RJ13 318 (1085102592571150095), .fieldLink RX4 108 "ArraySegments$Facts" "maybeNull" "[Z"] ++ wsX40 ++ wsX10 ++ wsX00 ++ wsX30)
theorem inc_X4_reference_X0 : ∀ w ∈ wsX00, w ∈ w_X4_reference := fun _ h => List.mem_cons_of_mem _ (List.mem_append_left _ (List.mem_append_right _ h))
theorem inc_X4_reference_X1 : ∀ w ∈ wsX10, w ∈ w_X4_reference := fun _ h => List.mem_cons_of_mem _ (List.mem_append_left _ (List.mem_append_left _ (List.mem_append_right _ h)))
theorem inc_X4_reference_X4 : ∀ w ∈ wsX40, w ∈ w_X4_reference := fun _ h => List.mem_cons_of_mem _ (List.mem_append_left _ (List.mem_append_left _ (List.mem_append_left _ (List.mem_append_right _ h))))
set_option maxRecDepth 20000 in
theorem g_X4_reference_X4_isReference_95 : GoodIn w_X4_reference (va_wsS RX4 95 yX4_isReference w_X4_isReference) := goodIn_r _ [1, 2, 3, 4] (by decide +kernel) (by decide +kernel)
set_option maxRecDepth 20000 in
theorem g_X4_reference_X1_follow_59 : GoodIn w_X4_reference (wsV RX4 59 RX1 yX1_follow w_X1_follow) := goodIn_r _ [7, 8, 9, 10, 11, 12, 13, 14, 15, 16, 17, 18, 19, 20, 21, 22, 23, 24, 25, 26, 27, 28, 29, 30, 31, 32, 33, 34, 35, 36, 52, 53, 54, 55, 56, 57, 58, 59, 60, 61, 62, 63, 64, 65, 66, 67, 68, 69, 70, 71, 72, 73] (by decide +kernel) (by decide +kernel)
set_option maxRecDepth 20000 in
theorem g_X4_reference_J13_bitCount_95d88_102 : GoodIn w_X4_reference (va_wsS RX4 102 yJ13_bitCount_95d88 w_J13_bitCount_95d88) := goodIn_r _ [40, 41, 42, 43, 44, 45, 46] (by decide +kernel) (by decide +kernel)
abbrev pw_X4_reference (cI cJ cZ : ClassId) (xh : Nat) (ph : Nat) (xf_machine : Value) (xf_lastStatus : Value) (lh : Nat) (l3 : Nat) (l4 : Nat) (lv_ahead : Value) (lv_gatheredAny : Value) (lv_gatheredLeast : Value) (lv_gatheredGreatest : Value) (fh : Nat) (f1 : Nat) (f2 : Nat) (f3 : Nat) (f4 : Nat) (f5 : Nat) (fr : Int32) (fw_lanes : Value) (fw_shortest : Value) (fw_longest : Value) (fw_leastAt : Value) (fw_greatestAt : Value) (fl : Nat → Int32) (fg : Nat → Int32) (fs : Nat → Int64) (fm : Nat → Int32) (fk : Nat → Int32) (lr : Nat → Int32) (lm : Nat → Int32) (pv_rows : Value) (pv_dropped : Value) (ra : Int32) : va_W := [(xh, .inr (4, [.ref ph, .ref lh, xf_machine, xf_lastStatus])), (lh, .inr (1, [.ref fh, lv_ahead, .int 1, .ref l3, .ref l4, lv_gatheredAny, lv_gatheredLeast, lv_gatheredGreatest])), (fh, .inr (0, [.int fr, .ref f1, .ref f2, .ref f3, .ref f4, .ref f5, fw_lanes, fw_shortest, fw_longest, fw_leastAt, fw_greatestAt])), (f1, .inl (cI, 6, .inl fl)), (f2, .inl (cI, 6, .inl fg)), (f3, .inl (cJ, 6, .inr (.inl fs))), (f4, .inl (cZ, 6, .inl fm)), (f5, .inl (cZ, 40, .inl fk)), (l3, .inl (cZ, 40, .inl lr)), (l4, .inl (cI, 40, .inl lm)), (ph, .inr (3, [pv_rows, pv_dropped, .int 0]))]
set_option maxHeartbeats 4000000 in
set_option maxRecDepth 100000 in
theorem c_X4_reference (l : Launch) (dC : Nat → ClassId) (dI : Nat → Nat → Nat) (cI cJ cZ : ClassId) (xh : Nat) (ph : Nat) (xf_machine : Value) (xf_lastStatus : Value) (lh : Nat) (l3 : Nat) (l4 : Nat) (lv_ahead : Value) (lv_gatheredAny : Value) (lv_gatheredLeast : Value) (lv_gatheredGreatest : Value) (fh : Nat) (f1 : Nat) (f2 : Nat) (f3 : Nat) (f4 : Nat) (f5 : Nat) (fr : Int32) (fw_lanes : Value) (fw_shortest : Value) (fw_longest : Value) (fw_leastAt : Value) (fw_greatestAt : Value) (fl : Nat → Int32) (fg : Nat → Int32) (fs : Nat → Int64) (fm : Nat → Int32) (fk : Nat → Int32) (lr : Nat → Int32) (lm : Nat → Int32) (pv_rows : Value) (pv_dropped : Value) (ra : Int32) (sz : Nat) : Met l yX4_reference w_X4_reference ({ frames := 3, cells := 0, slots := 0, locals := 68 }) (va_Pc [.ref xh, .int ra] (cPre dC dI cI cJ cZ sz (pw_X4_reference cI cJ cZ xh ph xf_machine xf_lastStatus lh l3 l4 lv_ahead lv_gatheredAny lv_gatheredLeast lv_gatheredGreatest fh f1 f2 f3 f4 f5 fr fw_lanes fw_shortest fw_longest fw_leastAt fw_greatestAt fl fg fs fm fk lr lm pv_rows pv_dropped ra))) (va_Qi (fun (r : Int32) (u : Nat → Nat) => two r (V6 ra) 1 (-2)) (fun (u : Nat → Nat) => cPost dC dI cI cJ cZ (va_A (pw_X4_reference cI cJ cZ xh ph xf_machine xf_lastStatus lh l3 l4 lv_ahead lv_gatheredAny lv_gatheredLeast lv_gatheredGreatest fh f1 f2 f3 f4 f5 fr fw_lanes fw_shortest fw_longest fw_leastAt fw_greatestAt fl fg fs fm fk lr lm pv_rows pv_dropped ra) sz) []) (va_A (pw_X4_reference cI cJ cZ xh ph xf_machine xf_lastStatus lh l3 l4 lv_ahead lv_gatheredAny lv_gatheredLeast lv_gatheredGreatest fh f1 f2 f3 f4 f5 fr fw_lanes fw_shortest fw_longest fw_leastAt fw_greatestAt fl fg fs fm fk lr lm pv_rows pv_dropped ra) sz)) 0 0 (va_A (pw_X4_reference cI cJ cZ xh ph xf_machine xf_lastStatus lh l3 l4 lv_ahead lv_gatheredAny lv_gatheredLeast lv_gatheredGreatest fh f1 f2 f3 f4 f5 fr fw_lanes fw_shortest fw_longest fw_leastAt fw_greatestAt fl fg fs fm fk lr lm pv_rows pv_dropped ra) sz) := by
  refine Met.ofW (cc := cX4_reference) (maxL := 2) (ret := (some .int)) (by decide) rfl ?_
  intro p e s m args below meth c s₁ B hml hv
  obtain ⟨rfl, hsz, hP, hK, hD0, hN⟩ := hv
  have hx := B.exec
  have hb := B.bytes
  have hr := B.returns
  have hts := atoms_spec (ws := w_X4_reference) B.pre
  have hown : s.vm.findClass RX4 = some m.cls := findClass_of_methodNamed B.named
  have hlocks := B.notSynchronized
  subst hsz
  have hD := hD0.self (sz := s.heap.size)
  generalize hAe : va_A (pw_X4_reference cI cJ cZ xh ph xf_machine xf_lastStatus lh l3 l4 lv_ahead lv_gatheredAny lv_gatheredLeast lv_gatheredGreatest fh f1 f2 f3 f4 f5 fr fw_lanes fw_shortest fw_longest fw_leastAt fw_greatestAt fl fg fs fm fk lr lm pv_rows pv_dropped ra) s.heap.size = A at hD ⊢
  have hA : ∀ q : Nat, s.heap.size ≤ q → A q := fun q h => by rw [← hAe]; exact Or.inr h
  clear hAe hD0
  have hS : va_S A s.heap s.heap [] := va_S.rf
  replace hP : va_P (dC, dI) vwCl [(xh, .inr (4, [.ref ph, .ref lh, xf_machine, xf_lastStatus])), (lh, .inr (1, [.ref fh, lv_ahead, .int 1, .ref l3, .ref l4, lv_gatheredAny, lv_gatheredLeast, lv_gatheredGreatest])), (fh, .inr (0, [.int fr, .ref f1, .ref f2, .ref f3, .ref f4, .ref f5, fw_lanes, fw_shortest, fw_longest, fw_leastAt, fw_greatestAt])), (f1, .inl (cI, 6, .inl fl)), (f2, .inl (cI, 6, .inl fg)), (f3, .inl (cJ, 6, .inr (.inl fs))), (f4, .inl (cZ, 6, .inl fm)), (f5, .inl (cZ, 40, .inl fk)), (l3, .inl (cZ, 40, .inl lr)), (l4, .inl (cI, 40, .inl lm)), (ph, .inr (3, [pv_rows, pv_dropped, .int 0]))] s.heap := hP
  replace hD : va_D A [(xh, .inr (4, [.ref ph, .ref lh, xf_machine, xf_lastStatus])), (lh, .inr (1, [.ref fh, lv_ahead, .int 1, .ref l3, .ref l4, lv_gatheredAny, lv_gatheredLeast, lv_gatheredGreatest])), (fh, .inr (0, [.int fr, .ref f1, .ref f2, .ref f3, .ref f4, .ref f5, fw_lanes, fw_shortest, fw_longest, fw_leastAt, fw_greatestAt])), (f1, .inl (cI, 6, .inl fl)), (f2, .inl (cI, 6, .inl fg)), (f3, .inl (cJ, 6, .inr (.inl fs))), (f4, .inl (cZ, 6, .inl fm)), (f5, .inl (cZ, 40, .inl fk)), (l3, .inl (cZ, 40, .inl lr)), (l4, .inl (cI, 40, .inl lm)), (ph, .inr (3, [pv_rows, pv_dropped, .int 0]))] := hD
  have hl := lv_entry ([.ref xh, .int ra]) (n := 2) (Nat.le_of_ble_eq_true rfl)
  rw [lg_entry_eq]
  generalize (lg_sl ([.ref xh, .int ra]) ++ List.replicate (2 - (lg_sl ([.ref xh, .int ra])).length) Slot.unset).toArray = ls at hl ⊢
  replace hl : lv_has ls 2 [(0, .ref xh), (1, .int ra)] := hl
  refine lv_iload_n hx hb dX4_reference_0 rfl (lv_at hl 1 rfl) ?_
  refine vp_callSi (va_runS (As := [.int ra]) (rest := []) ⟨hx, hb, hml, hown, hts⟩ (c_X4_isReference l ra) (va_cwS 1 hts g_X4_reference_X4_isReference_95 rfl rfl rfl (by decide +kernel) ⟨Nat.le_of_ble_eq_true rfl, Nat.le_of_ble_eq_true rfl⟩) ⟨fun _ _ _ _ q => q, fun _ _ _ => ⟨rfl, trivial⟩⟩ rfl rfl hl.1 rfl (lv_room (Nat.le_of_ble_eq_true rfl)) dX4_reference_1 ⟨Nat.le_of_ble_eq_true rfl, Nat.le_of_ble_eq_true rfl⟩).run (fun r_1 hw_1 => ?_)
  refine lv_if_ne (tgt := 10) hx hb dX4_reference_4 (by decide) (fun c_2 => ?_) (fun c_2 => ?_)
  · -- yes
    have k_2 : V6 ra := two_nz hw_1 c_2
    refine lv_aload_n hx hb dX4_reference_10 rfl (lv_at hl 0 rfl) ?_
    refine va_get (D := (dC, dI)) (ci := 4) (v := .ref lh) (C := RX4) (T := TX4) (N := 4) hx hb hts inc_X4_reference_X4 hown hK hP 0 rfl rfl 1 (by decide) (hts (.fieldLink RX4 19 "ArraySegments" "flow" "LArraySegments$Flow;") (List.mem_of_getElem? (i := 5) rfl)) (fun _ h9 => h9) rfl dX4_reference_11 ?_
    refine lv_aload_n hx hb dX4_reference_14 rfl (lv_at hl 0 rfl) ?_
    refine va_get (D := (dC, dI)) (ci := 4) (v := .ref ph) (C := RX4) (T := TX4) (N := 4) hx hb hts inc_X4_reference_X4 hown hK hP 0 rfl rfl 0 (by decide) (hts (.fieldLink RX4 10 "ArraySegments" "program" "LArraySegments$Program;") (List.mem_of_getElem? (i := 6) rfl)) (fun _ h9 => h9) rfl dX4_reference_15 ?_
    have hPc := hP.sub (ws' := [(lh, .inr (1, [.ref fh, lv_ahead, .int 1, .ref l3, .ref l4, lv_gatheredAny, lv_gatheredLeast, lv_gatheredGreatest])), (fh, .inr (0, [.int fr, .ref f1, .ref f2, .ref f3, .ref f4, .ref f5, fw_lanes, fw_shortest, fw_longest, fw_leastAt, fw_greatestAt])), (f1, .inl (cI, 6, .inl fl)), (f2, .inl (cI, 6, .inl fg)), (f3, .inl (cJ, 6, .inr (.inl fs))), (f4, .inl (cZ, 6, .inl fm)), (f5, .inl (cZ, 40, .inl fk)), (l3, .inl (cZ, 40, .inl lr)), (l4, .inl (cI, 40, .inl lm)), (ph, .inr (3, [pv_rows, pv_dropped, .int 0]))]) [1, 2, 3, 4, 5, 6, 7, 8, 9, 10] rfl
    have hDc := hD.sub (ws' := [(lh, .inr (1, [.ref fh, lv_ahead, .int 1, .ref l3, .ref l4, lv_gatheredAny, lv_gatheredLeast, lv_gatheredGreatest])), (fh, .inr (0, [.int fr, .ref f1, .ref f2, .ref f3, .ref f4, .ref f5, fw_lanes, fw_shortest, fw_longest, fw_leastAt, fw_greatestAt])), (f1, .inl (cI, 6, .inl fl)), (f2, .inl (cI, 6, .inl fg)), (f3, .inl (cJ, 6, .inr (.inl fs))), (f4, .inl (cZ, 6, .inl fm)), (f5, .inl (cZ, 40, .inl fk)), (l3, .inl (cZ, 40, .inl lr)), (l4, .inl (cI, 40, .inl lm)), (ph, .inr (3, [pv_rows, pv_dropped, .int 0]))]) [1, 2, 3, 4, 5, 6, 7, 8, 9, 10] (by decide) rfl
    have hFc := va_free (wc := [(lh, .inr (1, [.ref fh, lv_ahead, .int 1, .ref l3, .ref l4, lv_gatheredAny, lv_gatheredLeast, lv_gatheredGreatest])), (fh, .inr (0, [.int fr, .ref f1, .ref f2, .ref f3, .ref f4, .ref f5, fw_lanes, fw_shortest, fw_longest, fw_leastAt, fw_greatestAt])), (f1, .inl (cI, 6, .inl fl)), (f2, .inl (cI, 6, .inl fg)), (f3, .inl (cJ, 6, .inr (.inl fs))), (f4, .inl (cZ, 6, .inl fm)), (f5, .inl (cZ, 40, .inl fk)), (l3, .inl (cZ, 40, .inl lr)), (l4, .inl (cI, 40, .inl lm)), (ph, .inr (3, [pv_rows, pv_dropped, .int 0]))]) hD hS hA [1, 2, 3, 4, 5, 6, 7, 8, 9, 10] rfl
    refine va_callv (va_runV (As := [.ref ph]) (rest := []) ⟨hx, hb, hml, hown, hts⟩ (c_X1_follow l dC dI cI cJ cZ lh l3 l4 lv_ahead lv_gatheredAny lv_gatheredLeast lv_gatheredGreatest fh f1 f2 f3 f4 f5 fr fw_lanes fw_shortest fw_longest fw_leastAt fw_greatestAt fl fg fs fm fk lr lm ph pv_rows pv_dropped s.heap.size) (cwV 1 hts g_X4_reference_X1_follow_59 rfl rfl rfl (by decide +kernel) ⟨Nat.le_of_ble_eq_true rfl, Nat.le_of_ble_eq_true rfl⟩) ⟨cPre_blind, va_recv hK hPc (ci := 1) (q0 := 0) rfl rfl, cPre_of hK hN hPc hDc⟩ rfl rfl hl.1 rfl (lv_room (Nat.le_of_ble_eq_true rfl)) dX4_reference_18 ⟨Nat.le_of_ble_eq_true rfl, Nat.le_of_ble_eq_true rfl⟩) hS (fun q _ h => hFc q h) hFc (fun u_3 t_3 H_3 locs_3 ht hvm hw_3 hB hz1 hk1 hS1 => ?_)
    obtain ⟨hP1, hK1, hD1⟩ := hB
    rw [ht] at hP1
    obtain ⟨hP2, hD2⟩ := va_join (wr := [(xh, .inr (4, [.ref ph, .ref lh, xf_machine, xf_lastStatus]))]) (w1 := [(lh, .inr (1, [.ref fh, lv_ahead, .int 0, .ref l3, .ref l4, lv_gatheredAny, lv_gatheredLeast, lv_gatheredGreatest])), (fh, .inr (0, [.int 1, .ref f1, .ref f2, .ref f3, .ref f4, .ref f5, fw_lanes, fw_shortest, fw_longest, fw_leastAt, fw_greatestAt])), (f1, .inl (cI, 6, .inl (ov fl 6 0))), (f2, .inl (cI, 6, .inl (ov fg 6 0))), (f3, .inl (cJ, 6, .inr (.inl (ovL fs 6 0)))), (f4, .inl (cZ, 6, .inl (ov fm 6 1))), (f5, .inl (cZ, 40, .inl (ov fk 40 0))), (l3, .inl (cZ, 40, .inl (ov lr 40 0))), (l4, .inl (cI, 40, .inl (ov lm 40 0))), (ph, .inr (3, [pv_rows, pv_dropped, .int 0]))]) hP hD [1, 2, 3, 4, 5, 6, 7, 8, 9, 10] [0] rfl rfl (by decide) (by decide) hk1 hFc hP1 hD1
    clear hPc hDc hFc hP1 hD1 hK1 hk1 hz1 hvm ht
    replace hP : va_P (dC, dI) vwCl [(xh, .inr (4, [.ref ph, .ref lh, xf_machine, xf_lastStatus])), (lh, .inr (1, [.ref fh, lv_ahead, .int 0, .ref l3, .ref l4, lv_gatheredAny, lv_gatheredLeast, lv_gatheredGreatest])), (fh, .inr (0, [.int 1, .ref f1, .ref f2, .ref f3, .ref f4, .ref f5, fw_lanes, fw_shortest, fw_longest, fw_leastAt, fw_greatestAt])), (f1, .inl (cI, 6, .inl (ov fl 6 0))), (f2, .inl (cI, 6, .inl (ov fg 6 0))), (f3, .inl (cJ, 6, .inr (.inl (ovL fs 6 0)))), (f4, .inl (cZ, 6, .inl (ov fm 6 1))), (f5, .inl (cZ, 40, .inl (ov fk 40 0))), (l3, .inl (cZ, 40, .inl (ov lr 40 0))), (l4, .inl (cI, 40, .inl (ov lm 40 0))), (ph, .inr (3, [pv_rows, pv_dropped, .int 0]))] H_3 := hP2
    replace hD : va_D A [(xh, .inr (4, [.ref ph, .ref lh, xf_machine, xf_lastStatus])), (lh, .inr (1, [.ref fh, lv_ahead, .int 0, .ref l3, .ref l4, lv_gatheredAny, lv_gatheredLeast, lv_gatheredGreatest])), (fh, .inr (0, [.int 1, .ref f1, .ref f2, .ref f3, .ref f4, .ref f5, fw_lanes, fw_shortest, fw_longest, fw_leastAt, fw_greatestAt])), (f1, .inl (cI, 6, .inl (ov fl 6 0))), (f2, .inl (cI, 6, .inl (ov fg 6 0))), (f3, .inl (cJ, 6, .inr (.inl (ovL fs 6 0)))), (f4, .inl (cZ, 6, .inl (ov fm 6 1))), (f5, .inl (cZ, 40, .inl (ov fk 40 0))), (l3, .inl (cZ, 40, .inl (ov lr 40 0))), (l4, .inl (cI, 40, .inl (ov lm 40 0))), (ph, .inr (3, [pv_rows, pv_dropped, .int 0]))] := hD2
    replace hS := hS1
    clear hP2 hD2 hS1
    refine lv_aload_n hx hb dX4_reference_21 rfl (lv_at hl 0 rfl) ?_
    refine va_get (D := (dC, dI)) (ci := 4) (v := .ref lh) (C := RX4) (T := TX4) (N := 4) hx hb hts inc_X4_reference_X4 hown hK hP 0 rfl rfl 1 (by decide) (hts (.fieldLink RX4 19 "ArraySegments" "flow" "LArraySegments$Flow;") (List.mem_of_getElem? (i := 5) rfl)) (fun _ h9 => h9) rfl dX4_reference_22 ?_
    refine va_get (D := (dC, dI)) (ci := 1) (v := .ref fh) (C := RX1) (T := TX1) (N := 8) hx hb hts inc_X4_reference_X1 hown hK hP 1 rfl rfl 0 (by decide) (hts (.fieldLink RX4 70 "ArraySegments$Flow" "now" "LArraySegments$Facts;") (List.mem_of_getElem? (i := 37) rfl)) (fun _ h9 => h9) rfl dX4_reference_25 ?_
    refine va_get (D := (dC, dI)) (ci := 0) (v := .int 1) (C := RX0) (T := TX0) (N := 11) hx hb hts inc_X4_reference_X0 hown hK hP 2 rfl rfl 0 (by decide) (hts (.fieldLink RX4 74 "ArraySegments$Facts" "isReached" "Z") (List.mem_of_getElem? (i := 38) rfl)) (fun _ h9 => h9) rfl dX4_reference_28 ?_
    refine lv_if_ne (tgt := 37) hx hb dX4_reference_31 (by decide) (fun c_4 => ?_) (fun c_4 => ?_)
    · -- on
      refine lv_iconst (v := 2) hx hb dX4_reference_37 (by decide) ?_
      refine lv_aload_n hx hb dX4_reference_38 rfl (lv_at hl 0 rfl) ?_
      refine va_get (D := (dC, dI)) (ci := 4) (v := .ref lh) (C := RX4) (T := TX4) (N := 4) hx hb hts inc_X4_reference_X4 hown hK hP 0 rfl rfl 1 (by decide) (hts (.fieldLink RX4 19 "ArraySegments" "flow" "LArraySegments$Flow;") (List.mem_of_getElem? (i := 5) rfl)) (fun _ h9 => h9) rfl dX4_reference_39 ?_
      refine va_get (D := (dC, dI)) (ci := 1) (v := .ref fh) (C := RX1) (T := TX1) (N := 8) hx hb hts inc_X4_reference_X1 hown hK hP 1 rfl rfl 0 (by decide) (hts (.fieldLink RX4 70 "ArraySegments$Flow" "now" "LArraySegments$Facts;") (List.mem_of_getElem? (i := 37) rfl)) (fun _ h9 => h9) rfl dX4_reference_42 ?_
      refine va_get (D := (dC, dI)) (ci := 0) (v := .ref f3) (C := RX0) (T := TX0) (N := 11) hx hb hts inc_X4_reference_X0 hown hK hP 2 rfl rfl 3 (by decide) (hts (.fieldLink RX4 98 "ArraySegments$Facts" "sites" "[J") (List.mem_of_getElem? (i := 39) rfl)) (fun _ h9 => h9) rfl dX4_reference_45 ?_
      refine lv_iload_n hx hb dX4_reference_48 rfl (lv_at hl 1 rfl) ?_
      refine va_lald hx hb hK hP 5 1 rfl rfl (v6_in k_2) dX4_reference_49 ?_
      refine my_topl (y := 0) (ovL_v6 fs 0 k_2) ?_
      refine vp_callSi (va_runS (As := [.long 0]) (rest := [.int 2]) ⟨hx, hb, hml, hown, hts⟩ (c_J13_bitCount_95d88 l ) (va_cwS 1 hts g_X4_reference_J13_bitCount_95d88_102 rfl rfl rfl (by decide +kernel) ⟨Nat.le_of_ble_eq_true rfl, Nat.le_of_ble_eq_true rfl⟩) ⟨fun _ _ _ _ q => q, fun _ _ _ => ⟨rfl, trivial⟩⟩ rfl rfl hl.1 rfl (lv_room (Nat.le_of_ble_eq_true rfl)) dX4_reference_50 ⟨Nat.le_of_ble_eq_true rfl, Nat.le_of_ble_eq_true rfl⟩).run (fun r_5 hw_5 => ?_)
      refine my_topi (y := 0) hw_5 ?_
      refine lv_imul hx hb dX4_reference_53 ?_
      refine my_topi (y := 0) (by decide) ?_
      refine lv_aload_n hx hb dX4_reference_54 rfl (lv_at hl 0 rfl) ?_
      refine va_get (D := (dC, dI)) (ci := 4) (v := .ref lh) (C := RX4) (T := TX4) (N := 4) hx hb hts inc_X4_reference_X4 hown hK hP 0 rfl rfl 1 (by decide) (hts (.fieldLink RX4 19 "ArraySegments" "flow" "LArraySegments$Flow;") (List.mem_of_getElem? (i := 5) rfl)) (fun _ h9 => h9) rfl dX4_reference_55 ?_
      refine va_get (D := (dC, dI)) (ci := 1) (v := .ref fh) (C := RX1) (T := TX1) (N := 8) hx hb hts inc_X4_reference_X1 hown hK hP 1 rfl rfl 0 (by decide) (hts (.fieldLink RX4 70 "ArraySegments$Flow" "now" "LArraySegments$Facts;") (List.mem_of_getElem? (i := 37) rfl)) (fun _ h9 => h9) rfl dX4_reference_58 ?_
      refine va_get (D := (dC, dI)) (ci := 0) (v := .ref f4) (C := RX0) (T := TX0) (N := 11) hx hb hts inc_X4_reference_X0 hown hK hP 2 rfl rfl 4 (by decide) (hts (.fieldLink RX4 108 "ArraySegments$Facts" "maybeNull" "[Z") (List.mem_of_getElem? (i := 47) rfl)) (fun _ h9 => h9) rfl dX4_reference_61 ?_
      refine lv_iload_n hx hb dX4_reference_64 rfl (lv_at hl 1 rfl) ?_
      refine va_zald hx hb hK hP 6 2 rfl rfl (v6_in k_2) dX4_reference_65 ?_
      refine my_topi (y := 1) (ov_v6 fm 1 k_2) ?_
      refine lv_if_eq (tgt := 73) hx hb dX4_reference_66 (by decide) (fun c_6 => ?_) (fun c_6 => ?_)
      · exact absurd c_6 (by decide)
      · -- on
        refine lv_iconst (v := 1) hx hb dX4_reference_69 (by decide) ?_
        refine lv_goto (tgt := 74) hx hb dX4_reference_70 (by decide) ?_
        refine lv_iadd hx hb dX4_reference_74 ?_
        refine my_topi (y := 1) (by decide) ?_
        have hP9 := hP.sub (ws' := []) [] rfl
        have hD9 := hD.sub (ws' := []) [] (by decide) rfl
        exact W.iret (v := 1) hx hb hr (fun t ht hW => ⟨⟨1, (fun _ => 0), rfl, (by refine Or.inl ⟨rfl, ?_⟩; first | assumption | omega), by rw [ht]; exact hP9, va_K.moved hW.alike hK, hD9⟩, hS.F ht⟩) hS.2.2 dX4_reference_75
    · exact absurd c_4 (by decide)
  · -- no
    have k_2 : ¬ (V6 ra) := two_z hw_1 c_2
    refine lv_bipush (v := (-2)) hx hb dX4_reference_7 (by decide) ?_
    have hP9 := hP.sub (ws' := []) [] rfl
    have hD9 := hD.sub (ws' := []) [] (by decide) rfl
    exact W.iret (v := (-2)) hx hb hr (fun t ht hW => ⟨⟨(-2), (fun _ => 0), rfl, (by refine Or.inr ⟨rfl, ?_⟩; first | assumption | omega), by rw [ht]; exact hP9, va_K.moved hW.alike hK, hD9⟩, hS.F ht⟩) hS.2.2 dX4_reference_9

def w_X4_means : List Cond := .code yX4_means cX4_means 3 (some .int) :: ([.methodLink RX4 95 yX4_isReference, .static yX4_isReference, .initialized RX4, .code yX4_isReference cX4_isReference 1 (some .boolean), .fieldLink RX4 10 "ArraySegments" "program" "LArraySegments$Program;", .methodLink RX4 51 yX3_hasAct, .instanceMethod yX3_hasAct, .selects RX3 yX3_hasAct yX3_hasAct, .initialized RX3, .code yX3_hasAct cX3_hasAct 2 (some .boolean), .fieldLink RX3 19 "ArraySegments$Program" "count" "I"] ++ wsX40 ++ wsX30)
theorem inc_X4_means_X4 : ∀ w ∈ wsX40, w ∈ w_X4_means := fun _ h => List.mem_cons_of_mem _ (List.mem_append_left _ (List.mem_append_right _ h))
set_option maxRecDepth 20000 in
theorem g_X4_means_X4_isReference_95 : GoodIn w_X4_means (va_wsS RX4 95 yX4_isReference w_X4_isReference) := goodIn_r _ [1, 2, 3, 4] (by decide +kernel) (by decide +kernel)
set_option maxRecDepth 20000 in
theorem g_X4_means_X3_hasAct_51 : GoodIn w_X4_means (wsV RX4 51 RX3 yX3_hasAct w_X3_hasAct) := goodIn_r _ [6, 7, 8, 9, 10, 11, 16, 17, 18] (by decide +kernel) (by decide +kernel)
abbrev pw_X4_means (cI cJ cZ : ClassId) (xh : Nat) (xp_flow : Value) (xp_machine : Value) (xp_lastStatus : Value) (ph : Nat) (pv_rows : Value) (pv_dropped : Value) (ra : Int32) (ia : Int32) : va_W := [(xh, .inr (4, [.ref ph, xp_flow, xp_machine, xp_lastStatus])), (ph, .inr (3, [pv_rows, pv_dropped, .int 0]))]
set_option maxHeartbeats 4000000 in
set_option maxRecDepth 100000 in
theorem c_X4_means (l : Launch) (dC : Nat → ClassId) (dI : Nat → Nat → Nat) (cI cJ cZ : ClassId) (xh : Nat) (xp_flow : Value) (xp_machine : Value) (xp_lastStatus : Value) (ph : Nat) (pv_rows : Value) (pv_dropped : Value) (ra : Int32) (ia : Int32) (sz : Nat) : Met l yX4_means w_X4_means ({ frames := 1, cells := 0, slots := 0, locals := 21 }) (va_Pc [.ref xh, .int ra, .int ia] (cPre dC dI cI cJ cZ sz (pw_X4_means cI cJ cZ xh xp_flow xp_machine xp_lastStatus ph pv_rows pv_dropped ra ia))) (va_Qi (fun (r : Int32) (u : Nat → Nat) => r = (-2)) (fun (u : Nat → Nat) => cPost dC dI cI cJ cZ (va_A (pw_X4_means cI cJ cZ xh xp_flow xp_machine xp_lastStatus ph pv_rows pv_dropped ra ia) sz) []) (va_A (pw_X4_means cI cJ cZ xh xp_flow xp_machine xp_lastStatus ph pv_rows pv_dropped ra ia) sz)) 0 0 (va_A (pw_X4_means cI cJ cZ xh xp_flow xp_machine xp_lastStatus ph pv_rows pv_dropped ra ia) sz) := by
  refine Met.ofW (cc := cX4_means) (maxL := 3) (ret := (some .int)) (by decide) rfl ?_
  intro p e s m args below meth c s₁ B hml hv
  obtain ⟨rfl, hsz, hP, hK, hD0, hN⟩ := hv
  have hx := B.exec
  have hb := B.bytes
  have hr := B.returns
  have hts := atoms_spec (ws := w_X4_means) B.pre
  have hown : s.vm.findClass RX4 = some m.cls := findClass_of_methodNamed B.named
  have hlocks := B.notSynchronized
  subst hsz
  have hD := hD0.self (sz := s.heap.size)
  generalize hAe : va_A (pw_X4_means cI cJ cZ xh xp_flow xp_machine xp_lastStatus ph pv_rows pv_dropped ra ia) s.heap.size = A at hD ⊢
  have hA : ∀ q : Nat, s.heap.size ≤ q → A q := fun q h => by rw [← hAe]; exact Or.inr h
  clear hAe hD0
  have hS : va_S A s.heap s.heap [] := va_S.rf
  replace hP : va_P (dC, dI) vwCl [(xh, .inr (4, [.ref ph, xp_flow, xp_machine, xp_lastStatus])), (ph, .inr (3, [pv_rows, pv_dropped, .int 0]))] s.heap := hP
  replace hD : va_D A [(xh, .inr (4, [.ref ph, xp_flow, xp_machine, xp_lastStatus])), (ph, .inr (3, [pv_rows, pv_dropped, .int 0]))] := hD
  have hl := lv_entry ([.ref xh, .int ra, .int ia]) (n := 3) (Nat.le_of_ble_eq_true rfl)
  rw [lg_entry_eq]
  generalize (lg_sl ([.ref xh, .int ra, .int ia]) ++ List.replicate (3 - (lg_sl ([.ref xh, .int ra, .int ia])).length) Slot.unset).toArray = ls at hl ⊢
  replace hl : lv_has ls 3 [(0, .ref xh), (1, .int ra), (2, .int ia)] := hl
  refine lv_iload_n hx hb dX4_means_0 rfl (lv_at hl 1 rfl) ?_
  refine vp_callSi (va_runS (As := [.int ra]) (rest := []) ⟨hx, hb, hml, hown, hts⟩ (c_X4_isReference l ra) (va_cwS 1 hts g_X4_means_X4_isReference_95 rfl rfl rfl (by decide +kernel) ⟨Nat.le_of_ble_eq_true rfl, Nat.le_of_ble_eq_true rfl⟩) ⟨fun _ _ _ _ q => q, fun _ _ _ => ⟨rfl, trivial⟩⟩ rfl rfl hl.1 rfl (lv_room (Nat.le_of_ble_eq_true rfl)) dX4_means_1 ⟨Nat.le_of_ble_eq_true rfl, Nat.le_of_ble_eq_true rfl⟩).run (fun r_1 hw_1 => ?_)
  refine lv_if_eq (tgt := 18) hx hb dX4_means_4 (by decide) (fun c_2 => ?_) (fun c_2 => ?_)
  · -- yes
    have k_2 : ¬ (V6 ra) := two_z hw_1 c_2
    refine lv_bipush (v := (-2)) hx hb dX4_means_18 (by decide) ?_
    have hP9 := hP.sub (ws' := []) [] rfl
    have hD9 := hD.sub (ws' := []) [] (by decide) rfl
    exact W.iret (v := (-2)) hx hb hr (fun t ht hW => ⟨⟨(-2), (fun _ => 0), rfl, rfl, by rw [ht]; exact hP9, va_K.moved hW.alike hK, hD9⟩, hS.F ht⟩) hS.2.2 dX4_means_20
  · -- no
    have k_2 : V6 ra := two_nz hw_1 c_2
    refine lv_aload_n hx hb dX4_means_7 rfl (lv_at hl 0 rfl) ?_
    refine va_get (D := (dC, dI)) (ci := 4) (v := .ref ph) (C := RX4) (T := TX4) (N := 4) hx hb hts inc_X4_means_X4 hown hK hP 0 rfl rfl 0 (by decide) (hts (.fieldLink RX4 10 "ArraySegments" "program" "LArraySegments$Program;") (List.mem_of_getElem? (i := 5) rfl)) (fun _ h9 => h9) rfl dX4_means_8 ?_
    refine lv_iload_n hx hb dX4_means_11 rfl (lv_at hl 2 rfl) ?_
    have hPc := hP.sub (ws' := [(ph, .inr (3, [pv_rows, pv_dropped, .int 0]))]) [1] rfl
    have hDc := hD.sub (ws' := [(ph, .inr (3, [pv_rows, pv_dropped, .int 0]))]) [1] (by decide) rfl
    have hFc := va_free (wc := [(ph, .inr (3, [pv_rows, pv_dropped, .int 0]))]) hD hS hA [1] rfl
    refine va_calli (va_runV (As := [.int ia]) (rest := []) ⟨hx, hb, hml, hown, hts⟩ (c_X3_hasAct l dC dI cI cJ cZ ph pv_rows pv_dropped ia s.heap.size) (cwV 1 hts g_X4_means_X3_hasAct_51 rfl rfl rfl (by decide +kernel) ⟨Nat.le_of_ble_eq_true rfl, Nat.le_of_ble_eq_true rfl⟩) ⟨cPre_blind, va_recv hK hPc (ci := 3) (q0 := 0) rfl rfl, cPre_of hK hN hPc hDc⟩ rfl rfl hl.1 rfl (lv_room (Nat.le_of_ble_eq_true rfl)) dX4_means_12 ⟨Nat.le_of_ble_eq_true rfl, Nat.le_of_ble_eq_true rfl⟩) hS (fun q _ h => hFc q h) hFc (fun r_3 u_3 t_3 H_3 locs_3 ht hvm hw_3 hB hz1 hk1 hS1 => ?_)
    obtain ⟨hP1, hK1, hD1⟩ := hB
    rw [ht] at hP1
    obtain ⟨hP2, hD2⟩ := va_join (wr := [(xh, .inr (4, [.ref ph, xp_flow, xp_machine, xp_lastStatus]))]) (w1 := [(ph, .inr (3, [pv_rows, pv_dropped, .int 0]))]) hP hD [1] [0] rfl rfl (by decide) (by decide) hk1 hFc hP1 hD1
    clear hPc hDc hFc hP1 hD1 hK1 hk1 hz1 hvm ht
    replace hP : va_P (dC, dI) vwCl [(xh, .inr (4, [.ref ph, xp_flow, xp_machine, xp_lastStatus])), (ph, .inr (3, [pv_rows, pv_dropped, .int 0]))] H_3 := hP2
    replace hD : va_D A [(xh, .inr (4, [.ref ph, xp_flow, xp_machine, xp_lastStatus])), (ph, .inr (3, [pv_rows, pv_dropped, .int 0]))] := hD2
    replace hS := hS1
    clear hP2 hD2 hS1
    refine my_topi (y := 0) hw_3 ?_
    refine lv_if_ne (tgt := 21) hx hb dX4_means_15 (by decide) (fun c_4 => ?_) (fun c_4 => ?_)
    · exact absurd (by decide) c_4
    · -- on
      refine lv_bipush (v := (-2)) hx hb dX4_means_18 (by decide) ?_
      have hP9 := hP.sub (ws' := []) [] rfl
      have hD9 := hD.sub (ws' := []) [] (by decide) rfl
      exact W.iret (v := (-2)) hx hb hr (fun t ht hW => ⟨⟨(-2), (fun _ => 0), rfl, rfl, by rw [ht]; exact hP9, va_K.moved hW.alike hK, hD9⟩, hS.F ht⟩) hS.2.2 dX4_means_20

def w_X4_array : List Cond := .code yX4_array cX4_array 4 (some .int) :: ([.fieldLink RX4 10 "ArraySegments" "program" "LArraySegments$Program;", .methodLink RX4 51 yX3_hasAct, .instanceMethod yX3_hasAct, .selects RX3 yX3_hasAct yX3_hasAct, .initialized RX3, .code yX3_hasAct cX3_hasAct 2 (some .boolean), .fieldLink RX3 19 "ArraySegments$Program" "count" "I"] ++ wsX40 ++ wsX30)
theorem inc_X4_array_X4 : ∀ w ∈ wsX40, w ∈ w_X4_array := fun _ h => List.mem_cons_of_mem _ (List.mem_append_left _ (List.mem_append_right _ h))
set_option maxRecDepth 20000 in
theorem g_X4_array_X3_hasAct_51 : GoodIn w_X4_array (wsV RX4 51 RX3 yX3_hasAct w_X3_hasAct) := goodIn_r _ [2, 3, 4, 5, 6, 7, 12, 13, 14] (by decide +kernel) (by decide +kernel)
abbrev pw_X4_array (cI cJ cZ : ClassId) (xh : Nat) (xp_flow : Value) (xp_machine : Value) (xp_lastStatus : Value) (ph : Nat) (pv_rows : Value) (pv_dropped : Value) (ia : Int32) (wa : Int32) : va_W := [(xh, .inr (4, [.ref ph, xp_flow, xp_machine, xp_lastStatus])), (ph, .inr (3, [pv_rows, pv_dropped, .int 0]))]
set_option maxHeartbeats 4000000 in
set_option maxRecDepth 100000 in
theorem c_X4_array (l : Launch) (dC : Nat → ClassId) (dI : Nat → Nat → Nat) (cI cJ cZ : ClassId) (xh : Nat) (xp_flow : Value) (xp_machine : Value) (xp_lastStatus : Value) (ph : Nat) (pv_rows : Value) (pv_dropped : Value) (ia : Int32) (wa : Int32) (sz : Nat) : Met l yX4_array w_X4_array ({ frames := 1, cells := 0, slots := 0, locals := 21 }) (va_Pc [.ref xh, .int ia, .int wa] (cPre dC dI cI cJ cZ sz (pw_X4_array cI cJ cZ xh xp_flow xp_machine xp_lastStatus ph pv_rows pv_dropped ia wa))) (va_Qi (fun (r : Int32) (u : Nat → Nat) => r = (-2)) (fun (u : Nat → Nat) => cPost dC dI cI cJ cZ (va_A (pw_X4_array cI cJ cZ xh xp_flow xp_machine xp_lastStatus ph pv_rows pv_dropped ia wa) sz) []) (va_A (pw_X4_array cI cJ cZ xh xp_flow xp_machine xp_lastStatus ph pv_rows pv_dropped ia wa) sz)) 0 0 (va_A (pw_X4_array cI cJ cZ xh xp_flow xp_machine xp_lastStatus ph pv_rows pv_dropped ia wa) sz) := by
  refine Met.ofW (cc := cX4_array) (maxL := 4) (ret := (some .int)) (by decide) rfl ?_
  intro p e s m args below meth c s₁ B hml hv
  obtain ⟨rfl, hsz, hP, hK, hD0, hN⟩ := hv
  have hx := B.exec
  have hb := B.bytes
  have hr := B.returns
  have hts := atoms_spec (ws := w_X4_array) B.pre
  have hown : s.vm.findClass RX4 = some m.cls := findClass_of_methodNamed B.named
  have hlocks := B.notSynchronized
  subst hsz
  have hD := hD0.self (sz := s.heap.size)
  generalize hAe : va_A (pw_X4_array cI cJ cZ xh xp_flow xp_machine xp_lastStatus ph pv_rows pv_dropped ia wa) s.heap.size = A at hD ⊢
  have hA : ∀ q : Nat, s.heap.size ≤ q → A q := fun q h => by rw [← hAe]; exact Or.inr h
  clear hAe hD0
  have hS : va_S A s.heap s.heap [] := va_S.rf
  replace hP : va_P (dC, dI) vwCl [(xh, .inr (4, [.ref ph, xp_flow, xp_machine, xp_lastStatus])), (ph, .inr (3, [pv_rows, pv_dropped, .int 0]))] s.heap := hP
  replace hD : va_D A [(xh, .inr (4, [.ref ph, xp_flow, xp_machine, xp_lastStatus])), (ph, .inr (3, [pv_rows, pv_dropped, .int 0]))] := hD
  have hl := lv_entry ([.ref xh, .int ia, .int wa]) (n := 4) (Nat.le_of_ble_eq_true rfl)
  rw [lg_entry_eq]
  generalize (lg_sl ([.ref xh, .int ia, .int wa]) ++ List.replicate (4 - (lg_sl ([.ref xh, .int ia, .int wa])).length) Slot.unset).toArray = ls at hl ⊢
  replace hl : lv_has ls 4 [(0, .ref xh), (1, .int ia), (2, .int wa)] := hl
  refine lv_aload_n hx hb dX4_array_0 rfl (lv_at hl 0 rfl) ?_
  refine va_get (D := (dC, dI)) (ci := 4) (v := .ref ph) (C := RX4) (T := TX4) (N := 4) hx hb hts inc_X4_array_X4 hown hK hP 0 rfl rfl 0 (by decide) (hts (.fieldLink RX4 10 "ArraySegments" "program" "LArraySegments$Program;") (List.mem_of_getElem? (i := 1) rfl)) (fun _ h9 => h9) rfl dX4_array_1 ?_
  refine lv_iload_n hx hb dX4_array_4 rfl (lv_at hl 1 rfl) ?_
  have hPc := hP.sub (ws' := [(ph, .inr (3, [pv_rows, pv_dropped, .int 0]))]) [1] rfl
  have hDc := hD.sub (ws' := [(ph, .inr (3, [pv_rows, pv_dropped, .int 0]))]) [1] (by decide) rfl
  have hFc := va_free (wc := [(ph, .inr (3, [pv_rows, pv_dropped, .int 0]))]) hD hS hA [1] rfl
  refine va_calli (va_runV (As := [.int ia]) (rest := []) ⟨hx, hb, hml, hown, hts⟩ (c_X3_hasAct l dC dI cI cJ cZ ph pv_rows pv_dropped ia s.heap.size) (cwV 1 hts g_X4_array_X3_hasAct_51 rfl rfl rfl (by decide +kernel) ⟨Nat.le_of_ble_eq_true rfl, Nat.le_of_ble_eq_true rfl⟩) ⟨cPre_blind, va_recv hK hPc (ci := 3) (q0 := 0) rfl rfl, cPre_of hK hN hPc hDc⟩ rfl rfl hl.1 rfl (lv_room (Nat.le_of_ble_eq_true rfl)) dX4_array_5 ⟨Nat.le_of_ble_eq_true rfl, Nat.le_of_ble_eq_true rfl⟩) hS (fun q _ h => hFc q h) hFc (fun r_1 u_1 t_1 H_1 locs_1 ht hvm hw_1 hB hz1 hk1 hS1 => ?_)
  obtain ⟨hP1, hK1, hD1⟩ := hB
  rw [ht] at hP1
  obtain ⟨hP2, hD2⟩ := va_join (wr := [(xh, .inr (4, [.ref ph, xp_flow, xp_machine, xp_lastStatus]))]) (w1 := [(ph, .inr (3, [pv_rows, pv_dropped, .int 0]))]) hP hD [1] [0] rfl rfl (by decide) (by decide) hk1 hFc hP1 hD1
  clear hPc hDc hFc hP1 hD1 hK1 hk1 hz1 hvm ht
  replace hP : va_P (dC, dI) vwCl [(xh, .inr (4, [.ref ph, xp_flow, xp_machine, xp_lastStatus])), (ph, .inr (3, [pv_rows, pv_dropped, .int 0]))] H_1 := hP2
  replace hD : va_D A [(xh, .inr (4, [.ref ph, xp_flow, xp_machine, xp_lastStatus])), (ph, .inr (3, [pv_rows, pv_dropped, .int 0]))] := hD2
  replace hS := hS1
  clear hP2 hD2 hS1
  refine my_topi (y := 0) hw_1 ?_
  refine lv_if_eq (tgt := 20) hx hb dX4_array_8 (by decide) (fun c_2 => ?_) (fun c_2 => ?_)
  · -- on
    refine lv_bipush (v := (-2)) hx hb dX4_array_20 (by decide) ?_
    have hP9 := hP.sub (ws' := []) [] rfl
    have hD9 := hD.sub (ws' := []) [] (by decide) rfl
    exact W.iret (v := (-2)) hx hb hr (fun t ht hW => ⟨⟨(-2), (fun _ => 0), rfl, rfl, by rw [ht]; exact hP9, va_K.moved hW.alike hK, hD9⟩, hS.F ht⟩) hS.2.2 dX4_array_22
  · exact absurd (by decide) c_2

def w_X4_segment : List Cond := .code yX4_segment cX4_segment 6 (some .int) :: ([.fieldLink RX4 10 "ArraySegments" "program" "LArraySegments$Program;", .methodLink RX4 51 yX3_hasAct, .instanceMethod yX3_hasAct, .selects RX3 yX3_hasAct yX3_hasAct, .initialized RX3, .code yX3_hasAct cX3_hasAct 2 (some .boolean), .fieldLink RX3 19 "ArraySegments$Program" "count" "I", .methodLink RX4 82 yX4_refuse, .instanceMethod yX4_refuse, .selects RX4 yX4_refuse yX4_refuse, .initialized RX4, .code yX4_refuse cX4_refuse 2 (some .int), .fieldLink RX4 30 "ArraySegments" "lastStatus" "I"] ++ wsX40 ++ wsX30)
theorem inc_X4_segment_X4 : ∀ w ∈ wsX40, w ∈ w_X4_segment := fun _ h => List.mem_cons_of_mem _ (List.mem_append_left _ (List.mem_append_right _ h))
set_option maxRecDepth 20000 in
theorem g_X4_segment_X3_hasAct_51 : GoodIn w_X4_segment (wsV RX4 51 RX3 yX3_hasAct w_X3_hasAct) := goodIn_r _ [2, 3, 4, 5, 6, 7, 18, 19, 20] (by decide +kernel) (by decide +kernel)
set_option maxRecDepth 20000 in
theorem g_X4_segment_X4_refuse_82 : GoodIn w_X4_segment (wsV RX4 82 RX4 yX4_refuse w_X4_refuse) := goodIn_r _ [8, 9, 10, 11, 12, 13, 14, 15, 16, 17] (by decide +kernel) (by decide +kernel)
abbrev pw_X4_segment (cI cJ cZ : ClassId) (xh : Nat) (xp_flow : Value) (xp_machine : Value) (xp_lastStatus : Value) (ph : Nat) (pv_rows : Value) (pv_dropped : Value) (ia : Int32) (kb : Int32) (wa : Int32) : va_W := [(xh, .inr (4, [.ref ph, xp_flow, xp_machine, xp_lastStatus])), (ph, .inr (3, [pv_rows, pv_dropped, .int 0]))]
set_option maxHeartbeats 4000000 in
set_option maxRecDepth 100000 in
theorem c_X4_segment (l : Launch) (dC : Nat → ClassId) (dI : Nat → Nat → Nat) (cI cJ cZ : ClassId) (xh : Nat) (xp_flow : Value) (xp_machine : Value) (xp_lastStatus : Value) (ph : Nat) (pv_rows : Value) (pv_dropped : Value) (ia : Int32) (kb : Int32) (wa : Int32) (sz : Nat) : Met l yX4_segment w_X4_segment ({ frames := 1, cells := 0, slots := 0, locals := 21 }) (va_Pc [.ref xh, .int ia, .int kb, .int wa] (cPre dC dI cI cJ cZ sz (pw_X4_segment cI cJ cZ xh xp_flow xp_machine xp_lastStatus ph pv_rows pv_dropped ia kb wa))) (va_Qi (fun (r : Int32) (u : Nat → Nat) => r = (-2)) (fun (u : Nat → Nat) => cPost dC dI cI cJ cZ (va_A (pw_X4_segment cI cJ cZ xh xp_flow xp_machine xp_lastStatus ph pv_rows pv_dropped ia kb wa) sz) []) (va_A (pw_X4_segment cI cJ cZ xh xp_flow xp_machine xp_lastStatus ph pv_rows pv_dropped ia kb wa) sz)) 0 0 (va_A (pw_X4_segment cI cJ cZ xh xp_flow xp_machine xp_lastStatus ph pv_rows pv_dropped ia kb wa) sz) := by
  refine Met.ofW (cc := cX4_segment) (maxL := 6) (ret := (some .int)) (by decide) rfl ?_
  intro p e s m args below meth c s₁ B hml hv
  obtain ⟨rfl, hsz, hP, hK, hD0, hN⟩ := hv
  have hx := B.exec
  have hb := B.bytes
  have hr := B.returns
  have hts := atoms_spec (ws := w_X4_segment) B.pre
  have hown : s.vm.findClass RX4 = some m.cls := findClass_of_methodNamed B.named
  have hlocks := B.notSynchronized
  subst hsz
  have hD := hD0.self (sz := s.heap.size)
  generalize hAe : va_A (pw_X4_segment cI cJ cZ xh xp_flow xp_machine xp_lastStatus ph pv_rows pv_dropped ia kb wa) s.heap.size = A at hD ⊢
  have hA : ∀ q : Nat, s.heap.size ≤ q → A q := fun q h => by rw [← hAe]; exact Or.inr h
  clear hAe hD0
  have hS : va_S A s.heap s.heap [] := va_S.rf
  replace hP : va_P (dC, dI) vwCl [(xh, .inr (4, [.ref ph, xp_flow, xp_machine, xp_lastStatus])), (ph, .inr (3, [pv_rows, pv_dropped, .int 0]))] s.heap := hP
  replace hD : va_D A [(xh, .inr (4, [.ref ph, xp_flow, xp_machine, xp_lastStatus])), (ph, .inr (3, [pv_rows, pv_dropped, .int 0]))] := hD
  have hl := lv_entry ([.ref xh, .int ia, .int kb, .int wa]) (n := 6) (Nat.le_of_ble_eq_true rfl)
  rw [lg_entry_eq]
  generalize (lg_sl ([.ref xh, .int ia, .int kb, .int wa]) ++ List.replicate (6 - (lg_sl ([.ref xh, .int ia, .int kb, .int wa])).length) Slot.unset).toArray = ls at hl ⊢
  replace hl : lv_has ls 6 [(0, .ref xh), (1, .int ia), (2, .int kb), (3, .int wa)] := hl
  refine lv_aload_n hx hb dX4_segment_0 rfl (lv_at hl 0 rfl) ?_
  refine va_get (D := (dC, dI)) (ci := 4) (v := .ref ph) (C := RX4) (T := TX4) (N := 4) hx hb hts inc_X4_segment_X4 hown hK hP 0 rfl rfl 0 (by decide) (hts (.fieldLink RX4 10 "ArraySegments" "program" "LArraySegments$Program;") (List.mem_of_getElem? (i := 1) rfl)) (fun _ h9 => h9) rfl dX4_segment_1 ?_
  refine lv_iload_n hx hb dX4_segment_4 rfl (lv_at hl 1 rfl) ?_
  have hPc := hP.sub (ws' := [(ph, .inr (3, [pv_rows, pv_dropped, .int 0]))]) [1] rfl
  have hDc := hD.sub (ws' := [(ph, .inr (3, [pv_rows, pv_dropped, .int 0]))]) [1] (by decide) rfl
  have hFc := va_free (wc := [(ph, .inr (3, [pv_rows, pv_dropped, .int 0]))]) hD hS hA [1] rfl
  refine va_calli (va_runV (As := [.int ia]) (rest := []) ⟨hx, hb, hml, hown, hts⟩ (c_X3_hasAct l dC dI cI cJ cZ ph pv_rows pv_dropped ia s.heap.size) (cwV 1 hts g_X4_segment_X3_hasAct_51 rfl rfl rfl (by decide +kernel) ⟨Nat.le_of_ble_eq_true rfl, Nat.le_of_ble_eq_true rfl⟩) ⟨cPre_blind, va_recv hK hPc (ci := 3) (q0 := 0) rfl rfl, cPre_of hK hN hPc hDc⟩ rfl rfl hl.1 rfl (lv_room (Nat.le_of_ble_eq_true rfl)) dX4_segment_5 ⟨Nat.le_of_ble_eq_true rfl, Nat.le_of_ble_eq_true rfl⟩) hS (fun q _ h => hFc q h) hFc (fun r_1 u_1 t_1 H_1 locs_1 ht hvm hw_1 hB hz1 hk1 hS1 => ?_)
  obtain ⟨hP1, hK1, hD1⟩ := hB
  rw [ht] at hP1
  obtain ⟨hP2, hD2⟩ := va_join (wr := [(xh, .inr (4, [.ref ph, xp_flow, xp_machine, xp_lastStatus]))]) (w1 := [(ph, .inr (3, [pv_rows, pv_dropped, .int 0]))]) hP hD [1] [0] rfl rfl (by decide) (by decide) hk1 hFc hP1 hD1
  clear hPc hDc hFc hP1 hD1 hK1 hk1 hz1 hvm ht
  replace hP : va_P (dC, dI) vwCl [(xh, .inr (4, [.ref ph, xp_flow, xp_machine, xp_lastStatus])), (ph, .inr (3, [pv_rows, pv_dropped, .int 0]))] H_1 := hP2
  replace hD : va_D A [(xh, .inr (4, [.ref ph, xp_flow, xp_machine, xp_lastStatus])), (ph, .inr (3, [pv_rows, pv_dropped, .int 0]))] := hD2
  replace hS := hS1
  clear hP2 hD2 hS1
  refine my_topi (y := 0) hw_1 ?_
  refine lv_if_eq (tgt := 24) hx hb dX4_segment_8 (by decide) (fun c_2 => ?_) (fun c_2 => ?_)
  · -- on
    refine lv_aload_n hx hb dX4_segment_24 rfl (lv_at hl 0 rfl) ?_
    refine lv_bipush (v := (-2)) hx hb dX4_segment_25 (by decide) ?_
    have hPc := hP.sub (ws' := [(xh, .inr (4, [.ref ph, xp_flow, xp_machine, xp_lastStatus]))]) [0] rfl
    have hDc := hD.sub (ws' := [(xh, .inr (4, [.ref ph, xp_flow, xp_machine, xp_lastStatus]))]) [0] (by decide) rfl
    have hFc := va_free (wc := [(xh, .inr (4, [.ref ph, xp_flow, xp_machine, xp_lastStatus]))]) hD hS hA [0] rfl
    refine va_calli (va_runV (As := [.int (-2)]) (rest := []) ⟨hx, hb, hml, hown, hts⟩ (c_X4_refuse l dC dI cI cJ cZ xh (.ref ph) xp_flow xp_machine xp_lastStatus (-2) H_1.size) (cwV 1 hts g_X4_segment_X4_refuse_82 rfl rfl rfl (by decide +kernel) ⟨Nat.le_of_ble_eq_true rfl, Nat.le_of_ble_eq_true rfl⟩) ⟨cPre_blind, va_recv hK hPc (ci := 4) (q0 := 0) rfl rfl, cPre_of hK hN hPc hDc⟩ rfl rfl hl.1 rfl (lv_room (Nat.le_of_ble_eq_true rfl)) dX4_segment_27 ⟨Nat.le_of_ble_eq_true rfl, Nat.le_of_ble_eq_true rfl⟩) hS (fun q _ h => hFc q h) hFc (fun r_3 u_3 t_3 H_3 locs_3 ht hvm hw_3 hB hz1 hk1 hS1 => ?_)
    obtain ⟨hP1, hK1, hD1⟩ := hB
    rw [ht] at hP1
    obtain ⟨hP2, hD2⟩ := va_join (wr := [(ph, .inr (3, [pv_rows, pv_dropped, .int 0]))]) (w1 := [(xh, .inr (4, [.ref ph, xp_flow, xp_machine, .int (-2)]))]) hP hD [0] [1] rfl rfl (by decide) (by decide) hk1 hFc hP1 hD1
    clear hPc hDc hFc hP1 hD1 hK1 hk1 hz1 hvm ht
    replace hP : va_P (dC, dI) vwCl [(ph, .inr (3, [pv_rows, pv_dropped, .int 0])), (xh, .inr (4, [.ref ph, xp_flow, xp_machine, .int (-2)]))] H_3 := hP2
    replace hD : va_D A [(ph, .inr (3, [pv_rows, pv_dropped, .int 0])), (xh, .inr (4, [.ref ph, xp_flow, xp_machine, .int (-2)]))] := hD2
    replace hS := hS1
    clear hP2 hD2 hS1
    refine my_topi (y := (-2)) hw_3 ?_
    have hP9 := hP.sub (ws' := []) [] rfl
    have hD9 := hD.sub (ws' := []) [] (by decide) rfl
    exact W.iret (v := (-2)) hx hb hr (fun t ht hW => ⟨⟨(-2), (fun _ => 0), rfl, rfl, by rw [ht]; exact hP9, va_K.moved hW.alike hK, hD9⟩, hS.F ht⟩) hS.2.2 dX4_segment_30
  · exact absurd (by decide) c_2

def w_X4_status : List Cond := .code yX4_status cX4_status 1 (some .int) :: ([.fieldLink RX4 30 "ArraySegments" "lastStatus" "I"] ++ wsX40)
theorem inc_X4_status_X4 : ∀ w ∈ wsX40, w ∈ w_X4_status := fun _ h => List.mem_cons_of_mem _ (List.mem_append_right _ h)
abbrev pw_X4_status (cI cJ cZ : ClassId) (xh : Nat) (xs_program : Value) (xs_flow : Value) (xs_machine : Value) (sta : Int32) : va_W := [(xh, .inr (4, [xs_program, xs_flow, xs_machine, .int sta]))]
set_option maxHeartbeats 4000000 in
set_option maxRecDepth 100000 in
theorem c_X4_status (l : Launch) (dC : Nat → ClassId) (dI : Nat → Nat → Nat) (cI cJ cZ : ClassId) (xh : Nat) (xs_program : Value) (xs_flow : Value) (xs_machine : Value) (sta : Int32) (sz : Nat) : Met l yX4_status w_X4_status ({ frames := 0, cells := 0, slots := 0, locals := 0 }) (va_Pc [.ref xh] (cPre dC dI cI cJ cZ sz (pw_X4_status cI cJ cZ xh xs_program xs_flow xs_machine sta))) (va_Qi (fun (r : Int32) (u : Nat → Nat) => r = sta) (fun (u : Nat → Nat) => cPost dC dI cI cJ cZ (va_A (pw_X4_status cI cJ cZ xh xs_program xs_flow xs_machine sta) sz) []) (va_A (pw_X4_status cI cJ cZ xh xs_program xs_flow xs_machine sta) sz)) 0 0 (va_A (pw_X4_status cI cJ cZ xh xs_program xs_flow xs_machine sta) sz) := by
  refine Met.ofW (cc := cX4_status) (maxL := 1) (ret := (some .int)) (by decide) rfl ?_
  intro p e s m args below meth c s₁ B hml hv
  obtain ⟨rfl, hsz, hP, hK, hD0, hN⟩ := hv
  have hx := B.exec
  have hb := B.bytes
  have hr := B.returns
  have hts := atoms_spec (ws := w_X4_status) B.pre
  have hown : s.vm.findClass RX4 = some m.cls := findClass_of_methodNamed B.named
  have hlocks := B.notSynchronized
  subst hsz
  have hD := hD0.self (sz := s.heap.size)
  generalize hAe : va_A (pw_X4_status cI cJ cZ xh xs_program xs_flow xs_machine sta) s.heap.size = A at hD ⊢
  have hA : ∀ q : Nat, s.heap.size ≤ q → A q := fun q h => by rw [← hAe]; exact Or.inr h
  clear hAe hD0
  have hS : va_S A s.heap s.heap [] := va_S.rf
  replace hP : va_P (dC, dI) vwCl [(xh, .inr (4, [xs_program, xs_flow, xs_machine, .int sta]))] s.heap := hP
  replace hD : va_D A [(xh, .inr (4, [xs_program, xs_flow, xs_machine, .int sta]))] := hD
  have hl := lv_entry ([.ref xh]) (n := 1) (Nat.le_of_ble_eq_true rfl)
  rw [lg_entry_eq]
  generalize (lg_sl ([.ref xh]) ++ List.replicate (1 - (lg_sl ([.ref xh])).length) Slot.unset).toArray = ls at hl ⊢
  replace hl : lv_has ls 1 [(0, .ref xh)] := hl
  refine lv_aload_n hx hb dX4_status_0 rfl (lv_at hl 0 rfl) ?_
  refine va_get (D := (dC, dI)) (ci := 4) (v := .int sta) (C := RX4) (T := TX4) (N := 4) hx hb hts inc_X4_status_X4 hown hK hP 0 rfl rfl 3 (by decide) (hts (.fieldLink RX4 30 "ArraySegments" "lastStatus" "I") (List.mem_of_getElem? (i := 1) rfl)) (fun _ h9 => h9) rfl dX4_status_1 ?_
  have hP9 := hP.sub (ws' := []) [] rfl
  have hD9 := hD.sub (ws' := []) [] (by decide) rfl
  exact W.iret (v := sta) hx hb hr (fun t ht hW => ⟨⟨sta, (fun _ => 0), rfl, rfl, by rw [ht]; exact hP9, va_K.moved hW.alike hK, hD9⟩, hS.F ht⟩) hS.2.2 dX4_status_4

def w_X4_run : List Cond := .code yX4_run cX4_run 3 (some .int) :: ([.fieldLink RX4 26 "ArraySegments" "machine" "LArraySegments$Machine;", .fieldLink RX4 10 "ArraySegments" "program" "LArraySegments$Program;", .methodLink RX4 146 yX2_perform, .instanceMethod yX2_perform, .selects RX2 yX2_perform yX2_perform, .initialized RX2, .code yX2_perform cX2_perform 7 none, .methodLink RX2 42 yX2_forget, .instanceMethod yX2_forget, .selects RX2 yX2_forget yX2_forget, .code yX2_forget cX2_forget 2 none, .fieldLink RX2 9 "ArraySegments$Machine" "hasRun" "Z", .fieldLink RX2 15 "ArraySegments$Machine" "thrown" "I", .fieldLink RX2 19 "ArraySegments$Machine" "thrownAt" "I", .fieldLink RX2 26 "ArraySegments$Machine" "meant" "[I", .fieldLink RX2 22 "ArraySegments$Machine" "values" "[I", .fieldLink RX2 38 "ArraySegments$Machine" "state" "J", .fieldLink RX2 45 "ArraySegments$Program" "count" "I", .fieldLink RX4 150 "ArraySegments$Machine" "thrown" "I"] ++ wsX40 ++ wsX20 ++ wsX30)
theorem inc_X4_run_X2 : ∀ w ∈ wsX20, w ∈ w_X4_run := fun _ h => List.mem_cons_of_mem _ (List.mem_append_left _ (List.mem_append_right _ h))
theorem inc_X4_run_X4 : ∀ w ∈ wsX40, w ∈ w_X4_run := fun _ h => List.mem_cons_of_mem _ (List.mem_append_left _ (List.mem_append_left _ (List.mem_append_right _ h)))
set_option maxRecDepth 20000 in
theorem g_X4_run_X2_perform_146 : GoodIn w_X4_run (wsV RX4 146 RX2 yX2_perform w_X2_perform) := goodIn_r _ [3, 4, 5, 6, 7, 8, 9, 10, 6, 11, 12, 13, 14, 15, 16, 17, 18, 24, 25, 26, 27, 28, 29, 30, 31, 32, 33, 34, 35] (by decide +kernel) (by decide +kernel)
abbrev pw_X4_run (cI cJ cZ : ClassId) (xh : Nat) (xm_flow : Value) (xm_lastStatus : Value) (ph : Nat) (pv_rows : Value) (pv_dropped : Value) (mh : Nat) (m1 : Nat) (m2 : Nat) (mv_hasRun : Value) (mv_thrown : Value) (mv_thrownAt : Value) (mv_lanes : Value) (mv_lengths : Value) (mv_cells : Value) (mv_state : Value) (mf1 : Nat → Int32) (mf2 : Nat → Int32) (seed : Int64) : va_W := [(xh, .inr (4, [.ref ph, xm_flow, .ref mh, xm_lastStatus])), (ph, .inr (3, [pv_rows, pv_dropped, .int 0])), (mh, .inr (2, [mv_hasRun, mv_thrown, mv_thrownAt, .ref m1, .ref m2, mv_lanes, mv_lengths, mv_cells, mv_state])), (m1, .inl (cI, 6, .inl mf1)), (m2, .inl (cI, 6, .inl mf2))]
set_option maxHeartbeats 4000000 in
set_option maxRecDepth 100000 in
theorem c_X4_run (l : Launch) (dC : Nat → ClassId) (dI : Nat → Nat → Nat) (cI cJ cZ : ClassId) (xh : Nat) (xm_flow : Value) (xm_lastStatus : Value) (ph : Nat) (pv_rows : Value) (pv_dropped : Value) (mh : Nat) (m1 : Nat) (m2 : Nat) (mv_hasRun : Value) (mv_thrown : Value) (mv_thrownAt : Value) (mv_lanes : Value) (mv_lengths : Value) (mv_cells : Value) (mv_state : Value) (mf1 : Nat → Int32) (mf2 : Nat → Int32) (seed : Int64) (sz : Nat) : Met l yX4_run w_X4_run ({ frames := 2, cells := 0, slots := 0, locals := 47 }) (va_Pc [.ref xh, .long seed] (cPre dC dI cI cJ cZ sz (pw_X4_run cI cJ cZ xh xm_flow xm_lastStatus ph pv_rows pv_dropped mh m1 m2 mv_hasRun mv_thrown mv_thrownAt mv_lanes mv_lengths mv_cells mv_state mf1 mf2 seed))) (va_Qi (fun (r : Int32) (u : Nat → Nat) => r = 0) (fun (u : Nat → Nat) => cPost dC dI cI cJ cZ (va_A (pw_X4_run cI cJ cZ xh xm_flow xm_lastStatus ph pv_rows pv_dropped mh m1 m2 mv_hasRun mv_thrown mv_thrownAt mv_lanes mv_lengths mv_cells mv_state mf1 mf2 seed) sz) []) (va_A (pw_X4_run cI cJ cZ xh xm_flow xm_lastStatus ph pv_rows pv_dropped mh m1 m2 mv_hasRun mv_thrown mv_thrownAt mv_lanes mv_lengths mv_cells mv_state mf1 mf2 seed) sz)) 0 0 (va_A (pw_X4_run cI cJ cZ xh xm_flow xm_lastStatus ph pv_rows pv_dropped mh m1 m2 mv_hasRun mv_thrown mv_thrownAt mv_lanes mv_lengths mv_cells mv_state mf1 mf2 seed) sz) := by
  refine Met.ofW (cc := cX4_run) (maxL := 3) (ret := (some .int)) (by decide) rfl ?_
  intro p e s m args below meth c s₁ B hml hv
  obtain ⟨rfl, hsz, hP, hK, hD0, hN⟩ := hv
  have hx := B.exec
  have hb := B.bytes
  have hr := B.returns
  have hts := atoms_spec (ws := w_X4_run) B.pre
  have hown : s.vm.findClass RX4 = some m.cls := findClass_of_methodNamed B.named
  have hlocks := B.notSynchronized
  subst hsz
  have hD := hD0.self (sz := s.heap.size)
  generalize hAe : va_A (pw_X4_run cI cJ cZ xh xm_flow xm_lastStatus ph pv_rows pv_dropped mh m1 m2 mv_hasRun mv_thrown mv_thrownAt mv_lanes mv_lengths mv_cells mv_state mf1 mf2 seed) s.heap.size = A at hD ⊢
  have hA : ∀ q : Nat, s.heap.size ≤ q → A q := fun q h => by rw [← hAe]; exact Or.inr h
  clear hAe hD0
  have hS : va_S A s.heap s.heap [] := va_S.rf
  replace hP : va_P (dC, dI) vwCl [(xh, .inr (4, [.ref ph, xm_flow, .ref mh, xm_lastStatus])), (ph, .inr (3, [pv_rows, pv_dropped, .int 0])), (mh, .inr (2, [mv_hasRun, mv_thrown, mv_thrownAt, .ref m1, .ref m2, mv_lanes, mv_lengths, mv_cells, mv_state])), (m1, .inl (cI, 6, .inl mf1)), (m2, .inl (cI, 6, .inl mf2))] s.heap := hP
  replace hD : va_D A [(xh, .inr (4, [.ref ph, xm_flow, .ref mh, xm_lastStatus])), (ph, .inr (3, [pv_rows, pv_dropped, .int 0])), (mh, .inr (2, [mv_hasRun, mv_thrown, mv_thrownAt, .ref m1, .ref m2, mv_lanes, mv_lengths, mv_cells, mv_state])), (m1, .inl (cI, 6, .inl mf1)), (m2, .inl (cI, 6, .inl mf2))] := hD
  have hl := lv_entry ([.ref xh, .long seed]) (n := 3) (Nat.le_of_ble_eq_true rfl)
  rw [lg_entry_eq]
  generalize (lg_sl ([.ref xh, .long seed]) ++ List.replicate (3 - (lg_sl ([.ref xh, .long seed])).length) Slot.unset).toArray = ls at hl ⊢
  replace hl : lv_has ls 3 [(0, .ref xh), (1, .long seed)] := hl
  refine lv_aload_n hx hb dX4_run_0 rfl (lv_at hl 0 rfl) ?_
  refine va_get (D := (dC, dI)) (ci := 4) (v := .ref mh) (C := RX4) (T := TX4) (N := 4) hx hb hts inc_X4_run_X4 hown hK hP 0 rfl rfl 2 (by decide) (hts (.fieldLink RX4 26 "ArraySegments" "machine" "LArraySegments$Machine;") (List.mem_of_getElem? (i := 1) rfl)) (fun _ h9 => h9) rfl dX4_run_1 ?_
  refine lv_aload_n hx hb dX4_run_4 rfl (lv_at hl 0 rfl) ?_
  refine va_get (D := (dC, dI)) (ci := 4) (v := .ref ph) (C := RX4) (T := TX4) (N := 4) hx hb hts inc_X4_run_X4 hown hK hP 0 rfl rfl 0 (by decide) (hts (.fieldLink RX4 10 "ArraySegments" "program" "LArraySegments$Program;") (List.mem_of_getElem? (i := 2) rfl)) (fun _ h9 => h9) rfl dX4_run_5 ?_
  refine lv_lload_n hx hb dX4_run_8 rfl (lv_at hl 1 rfl) ?_
  have hPc := hP.sub (ws' := [(mh, .inr (2, [mv_hasRun, mv_thrown, mv_thrownAt, .ref m1, .ref m2, mv_lanes, mv_lengths, mv_cells, mv_state])), (m1, .inl (cI, 6, .inl mf1)), (m2, .inl (cI, 6, .inl mf2)), (ph, .inr (3, [pv_rows, pv_dropped, .int 0]))]) [2, 3, 4, 1] rfl
  have hDc := hD.sub (ws' := [(mh, .inr (2, [mv_hasRun, mv_thrown, mv_thrownAt, .ref m1, .ref m2, mv_lanes, mv_lengths, mv_cells, mv_state])), (m1, .inl (cI, 6, .inl mf1)), (m2, .inl (cI, 6, .inl mf2)), (ph, .inr (3, [pv_rows, pv_dropped, .int 0]))]) [2, 3, 4, 1] (by decide) rfl
  have hFc := va_free (wc := [(mh, .inr (2, [mv_hasRun, mv_thrown, mv_thrownAt, .ref m1, .ref m2, mv_lanes, mv_lengths, mv_cells, mv_state])), (m1, .inl (cI, 6, .inl mf1)), (m2, .inl (cI, 6, .inl mf2)), (ph, .inr (3, [pv_rows, pv_dropped, .int 0]))]) hD hS hA [2, 3, 4, 1] rfl
  refine va_callv (va_runV (As := [.ref ph, .long seed]) (rest := []) ⟨hx, hb, hml, hown, hts⟩ (c_X2_perform l dC dI cI cJ cZ mh m1 m2 mv_hasRun mv_thrown mv_thrownAt mv_lanes mv_lengths mv_cells mv_state mf1 mf2 ph pv_rows pv_dropped seed s.heap.size) (cwV 2 hts g_X4_run_X2_perform_146 rfl rfl rfl (by decide +kernel) ⟨Nat.le_of_ble_eq_true rfl, Nat.le_of_ble_eq_true rfl⟩) ⟨cPre_blind, va_recv hK hPc (ci := 2) (q0 := 0) rfl rfl, cPre_of hK hN hPc hDc⟩ rfl rfl hl.1 rfl (lv_room (Nat.le_of_ble_eq_true rfl)) dX4_run_9 ⟨Nat.le_of_ble_eq_true rfl, Nat.le_of_ble_eq_true rfl⟩) hS (fun q _ h => hFc q h) hFc (fun u_1 t_1 H_1 locs_1 ht hvm hw_1 hB hz1 hk1 hS1 => ?_)
  obtain ⟨hP1, hK1, hD1⟩ := hB
  rw [ht] at hP1
  obtain ⟨hP2, hD2⟩ := va_join (wr := [(xh, .inr (4, [.ref ph, xm_flow, .ref mh, xm_lastStatus]))]) (w1 := [(mh, .inr (2, [.int 1, .int 0, .int (-1), .ref m1, .ref m2, mv_lanes, mv_lengths, mv_cells, .long seed])), (m1, .inl (cI, 6, .inl (ov mf1 6 0))), (m2, .inl (cI, 6, .inl (ov mf2 6 (-1)))), (ph, .inr (3, [pv_rows, pv_dropped, .int 0]))]) hP hD [2, 3, 4, 1] [0] rfl rfl (by decide) (by decide) hk1 hFc hP1 hD1
  clear hPc hDc hFc hP1 hD1 hK1 hk1 hz1 hvm ht
  replace hP : va_P (dC, dI) vwCl [(xh, .inr (4, [.ref ph, xm_flow, .ref mh, xm_lastStatus])), (mh, .inr (2, [.int 1, .int 0, .int (-1), .ref m1, .ref m2, mv_lanes, mv_lengths, mv_cells, .long seed])), (m1, .inl (cI, 6, .inl (ov mf1 6 0))), (m2, .inl (cI, 6, .inl (ov mf2 6 (-1)))), (ph, .inr (3, [pv_rows, pv_dropped, .int 0]))] H_1 := hP2
  replace hD : va_D A [(xh, .inr (4, [.ref ph, xm_flow, .ref mh, xm_lastStatus])), (mh, .inr (2, [.int 1, .int 0, .int (-1), .ref m1, .ref m2, mv_lanes, mv_lengths, mv_cells, .long seed])), (m1, .inl (cI, 6, .inl (ov mf1 6 0))), (m2, .inl (cI, 6, .inl (ov mf2 6 (-1)))), (ph, .inr (3, [pv_rows, pv_dropped, .int 0]))] := hD2
  replace hS := hS1
  clear hP2 hD2 hS1
  refine lv_aload_n hx hb dX4_run_12 rfl (lv_at hl 0 rfl) ?_
  refine va_get (D := (dC, dI)) (ci := 4) (v := .ref mh) (C := RX4) (T := TX4) (N := 4) hx hb hts inc_X4_run_X4 hown hK hP 0 rfl rfl 2 (by decide) (hts (.fieldLink RX4 26 "ArraySegments" "machine" "LArraySegments$Machine;") (List.mem_of_getElem? (i := 1) rfl)) (fun _ h9 => h9) rfl dX4_run_13 ?_
  refine va_get (D := (dC, dI)) (ci := 2) (v := .int 0) (C := RX2) (T := TX2) (N := 9) hx hb hts inc_X4_run_X2 hown hK hP 1 rfl rfl 1 (by decide) (hts (.fieldLink RX4 150 "ArraySegments$Machine" "thrown" "I") (List.mem_of_getElem? (i := 19) rfl)) (fun _ h9 => h9) rfl dX4_run_16 ?_
  have hP9 := hP.sub (ws' := []) [] rfl
  have hD9 := hD.sub (ws' := []) [] (by decide) rfl
  exact W.iret (v := 0) hx hb hr (fun t ht hW => ⟨⟨0, (fun _ => 0), rfl, rfl, by rw [ht]; exact hP9, va_K.moved hW.alike hK, hD9⟩, hS.F ht⟩) hS.2.2 dX4_run_19

def w_X4_where : List Cond := .code yX4_where cX4_where 1 (some .int) :: ([.fieldLink RX4 26 "ArraySegments" "machine" "LArraySegments$Machine;", .fieldLink RX4 153 "ArraySegments$Machine" "thrownAt" "I"] ++ wsX40 ++ wsX20)
theorem inc_X4_where_X2 : ∀ w ∈ wsX20, w ∈ w_X4_where := fun _ h => List.mem_cons_of_mem _ (List.mem_append_right _ h)
theorem inc_X4_where_X4 : ∀ w ∈ wsX40, w ∈ w_X4_where := fun _ h => List.mem_cons_of_mem _ (List.mem_append_left _ (List.mem_append_right _ h))
abbrev pw_X4_where (cI cJ cZ : ClassId) (xh : Nat) (mh : Nat) (xn_program : Value) (xn_flow : Value) (xn_lastStatus : Value) (mw_hasRun : Value) (mw_thrown : Value) (mw_values : Value) (mw_meant : Value) (mw_lanes : Value) (mw_lengths : Value) (mw_cells : Value) (mw_state : Value) (mta : Int32) : va_W := [(xh, .inr (4, [xn_program, xn_flow, .ref mh, xn_lastStatus])), (mh, .inr (2, [mw_hasRun, mw_thrown, .int mta, mw_values, mw_meant, mw_lanes, mw_lengths, mw_cells, mw_state]))]
set_option maxHeartbeats 4000000 in
set_option maxRecDepth 100000 in
theorem c_X4_where (l : Launch) (dC : Nat → ClassId) (dI : Nat → Nat → Nat) (cI cJ cZ : ClassId) (xh : Nat) (mh : Nat) (xn_program : Value) (xn_flow : Value) (xn_lastStatus : Value) (mw_hasRun : Value) (mw_thrown : Value) (mw_values : Value) (mw_meant : Value) (mw_lanes : Value) (mw_lengths : Value) (mw_cells : Value) (mw_state : Value) (mta : Int32) (sz : Nat) : Met l yX4_where w_X4_where ({ frames := 0, cells := 0, slots := 0, locals := 0 }) (va_Pc [.ref xh] (cPre dC dI cI cJ cZ sz (pw_X4_where cI cJ cZ xh mh xn_program xn_flow xn_lastStatus mw_hasRun mw_thrown mw_values mw_meant mw_lanes mw_lengths mw_cells mw_state mta))) (va_Qi (fun (r : Int32) (u : Nat → Nat) => r = mta) (fun (u : Nat → Nat) => cPost dC dI cI cJ cZ (va_A (pw_X4_where cI cJ cZ xh mh xn_program xn_flow xn_lastStatus mw_hasRun mw_thrown mw_values mw_meant mw_lanes mw_lengths mw_cells mw_state mta) sz) []) (va_A (pw_X4_where cI cJ cZ xh mh xn_program xn_flow xn_lastStatus mw_hasRun mw_thrown mw_values mw_meant mw_lanes mw_lengths mw_cells mw_state mta) sz)) 0 0 (va_A (pw_X4_where cI cJ cZ xh mh xn_program xn_flow xn_lastStatus mw_hasRun mw_thrown mw_values mw_meant mw_lanes mw_lengths mw_cells mw_state mta) sz) := by
  refine Met.ofW (cc := cX4_where) (maxL := 1) (ret := (some .int)) (by decide) rfl ?_
  intro p e s m args below meth c s₁ B hml hv
  obtain ⟨rfl, hsz, hP, hK, hD0, hN⟩ := hv
  have hx := B.exec
  have hb := B.bytes
  have hr := B.returns
  have hts := atoms_spec (ws := w_X4_where) B.pre
  have hown : s.vm.findClass RX4 = some m.cls := findClass_of_methodNamed B.named
  have hlocks := B.notSynchronized
  subst hsz
  have hD := hD0.self (sz := s.heap.size)
  generalize hAe : va_A (pw_X4_where cI cJ cZ xh mh xn_program xn_flow xn_lastStatus mw_hasRun mw_thrown mw_values mw_meant mw_lanes mw_lengths mw_cells mw_state mta) s.heap.size = A at hD ⊢
  have hA : ∀ q : Nat, s.heap.size ≤ q → A q := fun q h => by rw [← hAe]; exact Or.inr h
  clear hAe hD0
  have hS : va_S A s.heap s.heap [] := va_S.rf
  replace hP : va_P (dC, dI) vwCl [(xh, .inr (4, [xn_program, xn_flow, .ref mh, xn_lastStatus])), (mh, .inr (2, [mw_hasRun, mw_thrown, .int mta, mw_values, mw_meant, mw_lanes, mw_lengths, mw_cells, mw_state]))] s.heap := hP
  replace hD : va_D A [(xh, .inr (4, [xn_program, xn_flow, .ref mh, xn_lastStatus])), (mh, .inr (2, [mw_hasRun, mw_thrown, .int mta, mw_values, mw_meant, mw_lanes, mw_lengths, mw_cells, mw_state]))] := hD
  have hl := lv_entry ([.ref xh]) (n := 1) (Nat.le_of_ble_eq_true rfl)
  rw [lg_entry_eq]
  generalize (lg_sl ([.ref xh]) ++ List.replicate (1 - (lg_sl ([.ref xh])).length) Slot.unset).toArray = ls at hl ⊢
  replace hl : lv_has ls 1 [(0, .ref xh)] := hl
  refine lv_aload_n hx hb dX4_where_0 rfl (lv_at hl 0 rfl) ?_
  refine va_get (D := (dC, dI)) (ci := 4) (v := .ref mh) (C := RX4) (T := TX4) (N := 4) hx hb hts inc_X4_where_X4 hown hK hP 0 rfl rfl 2 (by decide) (hts (.fieldLink RX4 26 "ArraySegments" "machine" "LArraySegments$Machine;") (List.mem_of_getElem? (i := 1) rfl)) (fun _ h9 => h9) rfl dX4_where_1 ?_
  refine va_get (D := (dC, dI)) (ci := 2) (v := .int mta) (C := RX2) (T := TX2) (N := 9) hx hb hts inc_X4_where_X2 hown hK hP 1 rfl rfl 2 (by decide) (hts (.fieldLink RX4 153 "ArraySegments$Machine" "thrownAt" "I") (List.mem_of_getElem? (i := 2) rfl)) (fun _ h9 => h9) rfl dX4_where_4 ?_
  have hP9 := hP.sub (ws' := []) [] rfl
  have hD9 := hD.sub (ws' := []) [] (by decide) rfl
  exact W.iret (v := mta) hx hb hr (fun t ht hW => ⟨⟨mta, (fun _ => 0), rfl, rfl, by rw [ht]; exact hP9, va_K.moved hW.alike hK, hD9⟩, hS.F ht⟩) hS.2.2 dX4_where_7

def w_X4_value : List Cond := .code yX4_value cX4_value 2 (some .int) :: ([.methodLink RX4 79 yX4_isVariable, .static yX4_isVariable, .initialized RX4, .code yX4_isVariable cX4_isVariable 1 (some .boolean), .fieldLink RX4 26 "ArraySegments" "machine" "LArraySegments$Machine;", .fieldLink RX4 156 "ArraySegments$Machine" "values" "[I"] ++ wsX40 ++ wsX20)
theorem inc_X4_value_X2 : ∀ w ∈ wsX20, w ∈ w_X4_value := fun _ h => List.mem_cons_of_mem _ (List.mem_append_right _ h)
theorem inc_X4_value_X4 : ∀ w ∈ wsX40, w ∈ w_X4_value := fun _ h => List.mem_cons_of_mem _ (List.mem_append_left _ (List.mem_append_right _ h))
set_option maxRecDepth 20000 in
theorem g_X4_value_X4_isVariable_79 : GoodIn w_X4_value (va_wsS RX4 79 yX4_isVariable w_X4_isVariable) := goodIn_r _ [1, 2, 3, 4] (by decide +kernel) (by decide +kernel)
abbrev pw_X4_value (cI cJ cZ : ClassId) (xh : Nat) (xn_program : Value) (xn_flow : Value) (xn_lastStatus : Value) (mh : Nat) (m1 : Nat) (m2 : Nat) (mv_hasRun : Value) (mv_thrown : Value) (mv_thrownAt : Value) (mv_lanes : Value) (mv_lengths : Value) (mv_cells : Value) (mv_state : Value) (mf1 : Nat → Int32) (mf2 : Nat → Int32) (xa : Int32) : va_W := [(xh, .inr (4, [xn_program, xn_flow, .ref mh, xn_lastStatus])), (mh, .inr (2, [mv_hasRun, mv_thrown, mv_thrownAt, .ref m1, .ref m2, mv_lanes, mv_lengths, mv_cells, mv_state])), (m1, .inl (cI, 6, .inl (ov mf1 6 0))), (m2, .inl (cI, 6, .inl (ov mf2 6 (-1))))]
set_option maxHeartbeats 4000000 in
set_option maxRecDepth 100000 in
theorem c_X4_value (l : Launch) (dC : Nat → ClassId) (dI : Nat → Nat → Nat) (cI cJ cZ : ClassId) (xh : Nat) (xn_program : Value) (xn_flow : Value) (xn_lastStatus : Value) (mh : Nat) (m1 : Nat) (m2 : Nat) (mv_hasRun : Value) (mv_thrown : Value) (mv_thrownAt : Value) (mv_lanes : Value) (mv_lengths : Value) (mv_cells : Value) (mv_state : Value) (mf1 : Nat → Int32) (mf2 : Nat → Int32) (xa : Int32) (sz : Nat) : Met l yX4_value w_X4_value ({ frames := 1, cells := 0, slots := 0, locals := 20 }) (va_Pc [.ref xh, .int xa] (cPre dC dI cI cJ cZ sz (pw_X4_value cI cJ cZ xh xn_program xn_flow xn_lastStatus mh m1 m2 mv_hasRun mv_thrown mv_thrownAt mv_lanes mv_lengths mv_cells mv_state mf1 mf2 xa))) (va_Qi (fun (r : Int32) (u : Nat → Nat) => r = 0) (fun (u : Nat → Nat) => cPost dC dI cI cJ cZ (va_A (pw_X4_value cI cJ cZ xh xn_program xn_flow xn_lastStatus mh m1 m2 mv_hasRun mv_thrown mv_thrownAt mv_lanes mv_lengths mv_cells mv_state mf1 mf2 xa) sz) []) (va_A (pw_X4_value cI cJ cZ xh xn_program xn_flow xn_lastStatus mh m1 m2 mv_hasRun mv_thrown mv_thrownAt mv_lanes mv_lengths mv_cells mv_state mf1 mf2 xa) sz)) 0 0 (va_A (pw_X4_value cI cJ cZ xh xn_program xn_flow xn_lastStatus mh m1 m2 mv_hasRun mv_thrown mv_thrownAt mv_lanes mv_lengths mv_cells mv_state mf1 mf2 xa) sz) := by
  refine Met.ofW (cc := cX4_value) (maxL := 2) (ret := (some .int)) (by decide) rfl ?_
  intro p e s m args below meth c s₁ B hml hv
  obtain ⟨rfl, hsz, hP, hK, hD0, hN⟩ := hv
  have hx := B.exec
  have hb := B.bytes
  have hr := B.returns
  have hts := atoms_spec (ws := w_X4_value) B.pre
  have hown : s.vm.findClass RX4 = some m.cls := findClass_of_methodNamed B.named
  have hlocks := B.notSynchronized
  subst hsz
  have hD := hD0.self (sz := s.heap.size)
  generalize hAe : va_A (pw_X4_value cI cJ cZ xh xn_program xn_flow xn_lastStatus mh m1 m2 mv_hasRun mv_thrown mv_thrownAt mv_lanes mv_lengths mv_cells mv_state mf1 mf2 xa) s.heap.size = A at hD ⊢
  have hA : ∀ q : Nat, s.heap.size ≤ q → A q := fun q h => by rw [← hAe]; exact Or.inr h
  clear hAe hD0
  have hS : va_S A s.heap s.heap [] := va_S.rf
  replace hP : va_P (dC, dI) vwCl [(xh, .inr (4, [xn_program, xn_flow, .ref mh, xn_lastStatus])), (mh, .inr (2, [mv_hasRun, mv_thrown, mv_thrownAt, .ref m1, .ref m2, mv_lanes, mv_lengths, mv_cells, mv_state])), (m1, .inl (cI, 6, .inl (ov mf1 6 0))), (m2, .inl (cI, 6, .inl (ov mf2 6 (-1))))] s.heap := hP
  replace hD : va_D A [(xh, .inr (4, [xn_program, xn_flow, .ref mh, xn_lastStatus])), (mh, .inr (2, [mv_hasRun, mv_thrown, mv_thrownAt, .ref m1, .ref m2, mv_lanes, mv_lengths, mv_cells, mv_state])), (m1, .inl (cI, 6, .inl (ov mf1 6 0))), (m2, .inl (cI, 6, .inl (ov mf2 6 (-1))))] := hD
  have hl := lv_entry ([.ref xh, .int xa]) (n := 2) (Nat.le_of_ble_eq_true rfl)
  rw [lg_entry_eq]
  generalize (lg_sl ([.ref xh, .int xa]) ++ List.replicate (2 - (lg_sl ([.ref xh, .int xa])).length) Slot.unset).toArray = ls at hl ⊢
  replace hl : lv_has ls 2 [(0, .ref xh), (1, .int xa)] := hl
  refine lv_iload_n hx hb dX4_value_0 rfl (lv_at hl 1 rfl) ?_
  refine vp_callSi (va_runS (As := [.int xa]) (rest := []) ⟨hx, hb, hml, hown, hts⟩ (c_X4_isVariable l xa) (va_cwS 1 hts g_X4_value_X4_isVariable_79 rfl rfl rfl (by decide +kernel) ⟨Nat.le_of_ble_eq_true rfl, Nat.le_of_ble_eq_true rfl⟩) ⟨fun _ _ _ _ q => q, fun _ _ _ => ⟨rfl, trivial⟩⟩ rfl rfl hl.1 rfl (lv_room (Nat.le_of_ble_eq_true rfl)) dX4_value_1 ⟨Nat.le_of_ble_eq_true rfl, Nat.le_of_ble_eq_true rfl⟩).run (fun r_1 hw_1 => ?_)
  refine lv_if_eq (tgt := 19) hx hb dX4_value_4 (by decide) (fun c_2 => ?_) (fun c_2 => ?_)
  · -- yes
    have k_2 : ¬ (V6 xa) := two_z hw_1 c_2
    refine lv_iconst (v := 0) hx hb dX4_value_19 (by decide) ?_
    have hP9 := hP.sub (ws' := []) [] rfl
    have hD9 := hD.sub (ws' := []) [] (by decide) rfl
    exact W.iret (v := 0) hx hb hr (fun t ht hW => ⟨⟨0, (fun _ => 0), rfl, rfl, by rw [ht]; exact hP9, va_K.moved hW.alike hK, hD9⟩, hS.F ht⟩) hS.2.2 dX4_value_20
  · -- no
    have k_2 : V6 xa := two_nz hw_1 c_2
    refine lv_aload_n hx hb dX4_value_7 rfl (lv_at hl 0 rfl) ?_
    refine va_get (D := (dC, dI)) (ci := 4) (v := .ref mh) (C := RX4) (T := TX4) (N := 4) hx hb hts inc_X4_value_X4 hown hK hP 0 rfl rfl 2 (by decide) (hts (.fieldLink RX4 26 "ArraySegments" "machine" "LArraySegments$Machine;") (List.mem_of_getElem? (i := 5) rfl)) (fun _ h9 => h9) rfl dX4_value_8 ?_
    refine va_get (D := (dC, dI)) (ci := 2) (v := .ref m1) (C := RX2) (T := TX2) (N := 9) hx hb hts inc_X4_value_X2 hown hK hP 1 rfl rfl 3 (by decide) (hts (.fieldLink RX4 156 "ArraySegments$Machine" "values" "[I") (List.mem_of_getElem? (i := 6) rfl)) (fun _ h9 => h9) rfl dX4_value_11 ?_
    refine lv_iload_n hx hb dX4_value_14 rfl (lv_at hl 1 rfl) ?_
    refine va_iald hx hb hK hP 2 0 rfl rfl (v6_in k_2) dX4_value_15 ?_
    refine my_topi (y := 0) (ov_v6 mf1 0 k_2) ?_
    refine lv_goto (tgt := 20) hx hb dX4_value_16 (by decide) ?_
    have hP9 := hP.sub (ws' := []) [] rfl
    have hD9 := hD.sub (ws' := []) [] (by decide) rfl
    exact W.iret (v := 0) hx hb hr (fun t ht hW => ⟨⟨0, (fun _ => 0), rfl, rfl, by rw [ht]; exact hP9, va_K.moved hW.alike hK, hD9⟩, hS.F ht⟩) hS.2.2 dX4_value_20

def w_X4_place : List Cond := .code yX4_place cX4_place 4 (some .int) :: ([.methodLink RX4 95 yX4_isReference, .static yX4_isReference, .initialized RX4, .code yX4_isReference cX4_isReference 1 (some .boolean), .fieldLink RX4 26 "ArraySegments" "machine" "LArraySegments$Machine;", .fieldLink RX4 159 "ArraySegments$Machine" "meant" "[I"] ++ wsX40 ++ wsX20)
theorem inc_X4_place_X2 : ∀ w ∈ wsX20, w ∈ w_X4_place := fun _ h => List.mem_cons_of_mem _ (List.mem_append_right _ h)
theorem inc_X4_place_X4 : ∀ w ∈ wsX40, w ∈ w_X4_place := fun _ h => List.mem_cons_of_mem _ (List.mem_append_left _ (List.mem_append_right _ h))
set_option maxRecDepth 20000 in
theorem g_X4_place_X4_isReference_95 : GoodIn w_X4_place (va_wsS RX4 95 yX4_isReference w_X4_isReference) := goodIn_r _ [1, 2, 3, 4] (by decide +kernel) (by decide +kernel)
abbrev pw_X4_place (cI cJ cZ : ClassId) (xh : Nat) (xn_program : Value) (xn_flow : Value) (xn_lastStatus : Value) (mh : Nat) (m1 : Nat) (m2 : Nat) (mv_hasRun : Value) (mv_thrown : Value) (mv_thrownAt : Value) (mv_lanes : Value) (mv_lengths : Value) (mv_cells : Value) (mv_state : Value) (mf1 : Nat → Int32) (mf2 : Nat → Int32) (ra : Int32) (ia : Int32) : va_W := [(xh, .inr (4, [xn_program, xn_flow, .ref mh, xn_lastStatus])), (mh, .inr (2, [mv_hasRun, mv_thrown, mv_thrownAt, .ref m1, .ref m2, mv_lanes, mv_lengths, mv_cells, mv_state])), (m1, .inl (cI, 6, .inl (ov mf1 6 0))), (m2, .inl (cI, 6, .inl (ov mf2 6 (-1))))]
set_option maxHeartbeats 4000000 in
set_option maxRecDepth 100000 in
theorem c_X4_place (l : Launch) (dC : Nat → ClassId) (dI : Nat → Nat → Nat) (cI cJ cZ : ClassId) (xh : Nat) (xn_program : Value) (xn_flow : Value) (xn_lastStatus : Value) (mh : Nat) (m1 : Nat) (m2 : Nat) (mv_hasRun : Value) (mv_thrown : Value) (mv_thrownAt : Value) (mv_lanes : Value) (mv_lengths : Value) (mv_cells : Value) (mv_state : Value) (mf1 : Nat → Int32) (mf2 : Nat → Int32) (ra : Int32) (ia : Int32) (sz : Nat) : Met l yX4_place w_X4_place ({ frames := 1, cells := 0, slots := 0, locals := 20 }) (va_Pc [.ref xh, .int ra, .int ia] (cPre dC dI cI cJ cZ sz (pw_X4_place cI cJ cZ xh xn_program xn_flow xn_lastStatus mh m1 m2 mv_hasRun mv_thrown mv_thrownAt mv_lanes mv_lengths mv_cells mv_state mf1 mf2 ra ia))) (va_Qi (fun (r : Int32) (u : Nat → Nat) => r = 0) (fun (u : Nat → Nat) => cPost dC dI cI cJ cZ (va_A (pw_X4_place cI cJ cZ xh xn_program xn_flow xn_lastStatus mh m1 m2 mv_hasRun mv_thrown mv_thrownAt mv_lanes mv_lengths mv_cells mv_state mf1 mf2 ra ia) sz) []) (va_A (pw_X4_place cI cJ cZ xh xn_program xn_flow xn_lastStatus mh m1 m2 mv_hasRun mv_thrown mv_thrownAt mv_lanes mv_lengths mv_cells mv_state mf1 mf2 ra ia) sz)) 0 0 (va_A (pw_X4_place cI cJ cZ xh xn_program xn_flow xn_lastStatus mh m1 m2 mv_hasRun mv_thrown mv_thrownAt mv_lanes mv_lengths mv_cells mv_state mf1 mf2 ra ia) sz) := by
  refine Met.ofW (cc := cX4_place) (maxL := 4) (ret := (some .int)) (by decide) rfl ?_
  intro p e s m args below meth c s₁ B hml hv
  obtain ⟨rfl, hsz, hP, hK, hD0, hN⟩ := hv
  have hx := B.exec
  have hb := B.bytes
  have hr := B.returns
  have hts := atoms_spec (ws := w_X4_place) B.pre
  have hown : s.vm.findClass RX4 = some m.cls := findClass_of_methodNamed B.named
  have hlocks := B.notSynchronized
  subst hsz
  have hD := hD0.self (sz := s.heap.size)
  generalize hAe : va_A (pw_X4_place cI cJ cZ xh xn_program xn_flow xn_lastStatus mh m1 m2 mv_hasRun mv_thrown mv_thrownAt mv_lanes mv_lengths mv_cells mv_state mf1 mf2 ra ia) s.heap.size = A at hD ⊢
  have hA : ∀ q : Nat, s.heap.size ≤ q → A q := fun q h => by rw [← hAe]; exact Or.inr h
  clear hAe hD0
  have hS : va_S A s.heap s.heap [] := va_S.rf
  replace hP : va_P (dC, dI) vwCl [(xh, .inr (4, [xn_program, xn_flow, .ref mh, xn_lastStatus])), (mh, .inr (2, [mv_hasRun, mv_thrown, mv_thrownAt, .ref m1, .ref m2, mv_lanes, mv_lengths, mv_cells, mv_state])), (m1, .inl (cI, 6, .inl (ov mf1 6 0))), (m2, .inl (cI, 6, .inl (ov mf2 6 (-1))))] s.heap := hP
  replace hD : va_D A [(xh, .inr (4, [xn_program, xn_flow, .ref mh, xn_lastStatus])), (mh, .inr (2, [mv_hasRun, mv_thrown, mv_thrownAt, .ref m1, .ref m2, mv_lanes, mv_lengths, mv_cells, mv_state])), (m1, .inl (cI, 6, .inl (ov mf1 6 0))), (m2, .inl (cI, 6, .inl (ov mf2 6 (-1))))] := hD
  have hl := lv_entry ([.ref xh, .int ra, .int ia]) (n := 4) (Nat.le_of_ble_eq_true rfl)
  rw [lg_entry_eq]
  generalize (lg_sl ([.ref xh, .int ra, .int ia]) ++ List.replicate (4 - (lg_sl ([.ref xh, .int ra, .int ia])).length) Slot.unset).toArray = ls at hl ⊢
  replace hl : lv_has ls 4 [(0, .ref xh), (1, .int ra), (2, .int ia)] := hl
  refine lv_iload_n hx hb dX4_place_0 rfl (lv_at hl 1 rfl) ?_
  refine vp_callSi (va_runS (As := [.int ra]) (rest := []) ⟨hx, hb, hml, hown, hts⟩ (c_X4_isReference l ra) (va_cwS 1 hts g_X4_place_X4_isReference_95 rfl rfl rfl (by decide +kernel) ⟨Nat.le_of_ble_eq_true rfl, Nat.le_of_ble_eq_true rfl⟩) ⟨fun _ _ _ _ q => q, fun _ _ _ => ⟨rfl, trivial⟩⟩ rfl rfl hl.1 rfl (lv_room (Nat.le_of_ble_eq_true rfl)) dX4_place_1 ⟨Nat.le_of_ble_eq_true rfl, Nat.le_of_ble_eq_true rfl⟩).run (fun r_1 hw_1 => ?_)
  refine lv_if_ne (tgt := 9) hx hb dX4_place_4 (by decide) (fun c_2 => ?_) (fun c_2 => ?_)
  · -- yes
    have k_2 : V6 ra := two_nz hw_1 c_2
    refine lv_aload_n hx hb dX4_place_9 rfl (lv_at hl 0 rfl) ?_
    refine va_get (D := (dC, dI)) (ci := 4) (v := .ref mh) (C := RX4) (T := TX4) (N := 4) hx hb hts inc_X4_place_X4 hown hK hP 0 rfl rfl 2 (by decide) (hts (.fieldLink RX4 26 "ArraySegments" "machine" "LArraySegments$Machine;") (List.mem_of_getElem? (i := 5) rfl)) (fun _ h9 => h9) rfl dX4_place_10 ?_
    refine va_get (D := (dC, dI)) (ci := 2) (v := .ref m2) (C := RX2) (T := TX2) (N := 9) hx hb hts inc_X4_place_X2 hown hK hP 1 rfl rfl 4 (by decide) (hts (.fieldLink RX4 159 "ArraySegments$Machine" "meant" "[I") (List.mem_of_getElem? (i := 6) rfl)) (fun _ h9 => h9) rfl dX4_place_13 ?_
    refine lv_iload_n hx hb dX4_place_16 rfl (lv_at hl 1 rfl) ?_
    refine va_iald hx hb hK hP 3 0 rfl rfl (v6_in k_2) dX4_place_17 ?_
    refine my_topi (y := (-1)) (ov_v6 mf2 (-1) k_2) ?_
    refine lv_istore_n (lv' := [(3, .int (-1)), (0, .ref xh), (1, .int ra), (2, .int ia)]) hx hb dX4_place_18 rfl hl (by decide) rfl (fun ls1 hl1 => ?_)
    replace hl := hl1; clear hl1
    refine lv_iload_n hx hb dX4_place_19 rfl (lv_at hl 0 rfl) ?_
    refine lv_if_lt (tgt := 40) hx hb dX4_place_20 (by decide) (fun c_3 => ?_) (fun c_3 => ?_)
    · -- on
      refine lv_iconst (v := 0) hx hb dX4_place_40 (by decide) ?_
      have hP9 := hP.sub (ws' := []) [] rfl
      have hD9 := hD.sub (ws' := []) [] (by decide) rfl
      exact W.iret (v := 0) hx hb hr (fun t ht hW => ⟨⟨0, (fun _ => 0), rfl, rfl, by rw [ht]; exact hP9, va_K.moved hW.alike hK, hD9⟩, hS.F ht⟩) hS.2.2 dX4_place_41
    · exact absurd (by decide) c_3
  · -- no
    have k_2 : ¬ (V6 ra) := two_z hw_1 c_2
    refine lv_iconst (v := 0) hx hb dX4_place_7 (by decide) ?_
    have hP9 := hP.sub (ws' := []) [] rfl
    have hD9 := hD.sub (ws' := []) [] (by decide) rfl
    exact W.iret (v := 0) hx hb hr (fun t ht hW => ⟨⟨0, (fun _ => 0), rfl, rfl, by rw [ht]; exact hP9, va_K.moved hW.alike hK, hD9⟩, hS.F ht⟩) hS.2.2 dX4_place_8

def w_X4_length : List Cond := .code yX4_length cX4_length 3 (some .int) :: ([.methodLink RX4 95 yX4_isReference, .static yX4_isReference, .initialized RX4, .code yX4_isReference cX4_isReference 1 (some .boolean), .fieldLink RX4 26 "ArraySegments" "machine" "LArraySegments$Machine;", .fieldLink RX4 159 "ArraySegments$Machine" "meant" "[I"] ++ wsX40 ++ wsX20)
theorem inc_X4_length_X2 : ∀ w ∈ wsX20, w ∈ w_X4_length := fun _ h => List.mem_cons_of_mem _ (List.mem_append_right _ h)
theorem inc_X4_length_X4 : ∀ w ∈ wsX40, w ∈ w_X4_length := fun _ h => List.mem_cons_of_mem _ (List.mem_append_left _ (List.mem_append_right _ h))
set_option maxRecDepth 20000 in
theorem g_X4_length_X4_isReference_95 : GoodIn w_X4_length (va_wsS RX4 95 yX4_isReference w_X4_isReference) := goodIn_r _ [1, 2, 3, 4] (by decide +kernel) (by decide +kernel)
abbrev pw_X4_length (cI cJ cZ : ClassId) (xh : Nat) (xn_program : Value) (xn_flow : Value) (xn_lastStatus : Value) (mh : Nat) (m1 : Nat) (m2 : Nat) (mv_hasRun : Value) (mv_thrown : Value) (mv_thrownAt : Value) (mv_lanes : Value) (mv_lengths : Value) (mv_cells : Value) (mv_state : Value) (mf1 : Nat → Int32) (mf2 : Nat → Int32) (ra : Int32) : va_W := [(xh, .inr (4, [xn_program, xn_flow, .ref mh, xn_lastStatus])), (mh, .inr (2, [mv_hasRun, mv_thrown, mv_thrownAt, .ref m1, .ref m2, mv_lanes, mv_lengths, mv_cells, mv_state])), (m1, .inl (cI, 6, .inl (ov mf1 6 0))), (m2, .inl (cI, 6, .inl (ov mf2 6 (-1))))]
set_option maxHeartbeats 4000000 in
set_option maxRecDepth 100000 in
theorem c_X4_length (l : Launch) (dC : Nat → ClassId) (dI : Nat → Nat → Nat) (cI cJ cZ : ClassId) (xh : Nat) (xn_program : Value) (xn_flow : Value) (xn_lastStatus : Value) (mh : Nat) (m1 : Nat) (m2 : Nat) (mv_hasRun : Value) (mv_thrown : Value) (mv_thrownAt : Value) (mv_lanes : Value) (mv_lengths : Value) (mv_cells : Value) (mv_state : Value) (mf1 : Nat → Int32) (mf2 : Nat → Int32) (ra : Int32) (sz : Nat) : Met l yX4_length w_X4_length ({ frames := 1, cells := 0, slots := 0, locals := 20 }) (va_Pc [.ref xh, .int ra] (cPre dC dI cI cJ cZ sz (pw_X4_length cI cJ cZ xh xn_program xn_flow xn_lastStatus mh m1 m2 mv_hasRun mv_thrown mv_thrownAt mv_lanes mv_lengths mv_cells mv_state mf1 mf2 ra))) (va_Qi (fun (r : Int32) (u : Nat → Nat) => two r (V6 ra) (-1) (-2)) (fun (u : Nat → Nat) => cPost dC dI cI cJ cZ (va_A (pw_X4_length cI cJ cZ xh xn_program xn_flow xn_lastStatus mh m1 m2 mv_hasRun mv_thrown mv_thrownAt mv_lanes mv_lengths mv_cells mv_state mf1 mf2 ra) sz) []) (va_A (pw_X4_length cI cJ cZ xh xn_program xn_flow xn_lastStatus mh m1 m2 mv_hasRun mv_thrown mv_thrownAt mv_lanes mv_lengths mv_cells mv_state mf1 mf2 ra) sz)) 0 0 (va_A (pw_X4_length cI cJ cZ xh xn_program xn_flow xn_lastStatus mh m1 m2 mv_hasRun mv_thrown mv_thrownAt mv_lanes mv_lengths mv_cells mv_state mf1 mf2 ra) sz) := by
  refine Met.ofW (cc := cX4_length) (maxL := 3) (ret := (some .int)) (by decide) rfl ?_
  intro p e s m args below meth c s₁ B hml hv
  obtain ⟨rfl, hsz, hP, hK, hD0, hN⟩ := hv
  have hx := B.exec
  have hb := B.bytes
  have hr := B.returns
  have hts := atoms_spec (ws := w_X4_length) B.pre
  have hown : s.vm.findClass RX4 = some m.cls := findClass_of_methodNamed B.named
  have hlocks := B.notSynchronized
  subst hsz
  have hD := hD0.self (sz := s.heap.size)
  generalize hAe : va_A (pw_X4_length cI cJ cZ xh xn_program xn_flow xn_lastStatus mh m1 m2 mv_hasRun mv_thrown mv_thrownAt mv_lanes mv_lengths mv_cells mv_state mf1 mf2 ra) s.heap.size = A at hD ⊢
  have hA : ∀ q : Nat, s.heap.size ≤ q → A q := fun q h => by rw [← hAe]; exact Or.inr h
  clear hAe hD0
  have hS : va_S A s.heap s.heap [] := va_S.rf
  replace hP : va_P (dC, dI) vwCl [(xh, .inr (4, [xn_program, xn_flow, .ref mh, xn_lastStatus])), (mh, .inr (2, [mv_hasRun, mv_thrown, mv_thrownAt, .ref m1, .ref m2, mv_lanes, mv_lengths, mv_cells, mv_state])), (m1, .inl (cI, 6, .inl (ov mf1 6 0))), (m2, .inl (cI, 6, .inl (ov mf2 6 (-1))))] s.heap := hP
  replace hD : va_D A [(xh, .inr (4, [xn_program, xn_flow, .ref mh, xn_lastStatus])), (mh, .inr (2, [mv_hasRun, mv_thrown, mv_thrownAt, .ref m1, .ref m2, mv_lanes, mv_lengths, mv_cells, mv_state])), (m1, .inl (cI, 6, .inl (ov mf1 6 0))), (m2, .inl (cI, 6, .inl (ov mf2 6 (-1))))] := hD
  have hl := lv_entry ([.ref xh, .int ra]) (n := 3) (Nat.le_of_ble_eq_true rfl)
  rw [lg_entry_eq]
  generalize (lg_sl ([.ref xh, .int ra]) ++ List.replicate (3 - (lg_sl ([.ref xh, .int ra])).length) Slot.unset).toArray = ls at hl ⊢
  replace hl : lv_has ls 3 [(0, .ref xh), (1, .int ra)] := hl
  refine lv_iload_n hx hb dX4_length_0 rfl (lv_at hl 1 rfl) ?_
  refine vp_callSi (va_runS (As := [.int ra]) (rest := []) ⟨hx, hb, hml, hown, hts⟩ (c_X4_isReference l ra) (va_cwS 1 hts g_X4_length_X4_isReference_95 rfl rfl rfl (by decide +kernel) ⟨Nat.le_of_ble_eq_true rfl, Nat.le_of_ble_eq_true rfl⟩) ⟨fun _ _ _ _ q => q, fun _ _ _ => ⟨rfl, trivial⟩⟩ rfl rfl hl.1 rfl (lv_room (Nat.le_of_ble_eq_true rfl)) dX4_length_1 ⟨Nat.le_of_ble_eq_true rfl, Nat.le_of_ble_eq_true rfl⟩).run (fun r_1 hw_1 => ?_)
  refine lv_if_ne (tgt := 10) hx hb dX4_length_4 (by decide) (fun c_2 => ?_) (fun c_2 => ?_)
  · -- yes
    have k_2 : V6 ra := two_nz hw_1 c_2
    refine lv_aload_n hx hb dX4_length_10 rfl (lv_at hl 0 rfl) ?_
    refine va_get (D := (dC, dI)) (ci := 4) (v := .ref mh) (C := RX4) (T := TX4) (N := 4) hx hb hts inc_X4_length_X4 hown hK hP 0 rfl rfl 2 (by decide) (hts (.fieldLink RX4 26 "ArraySegments" "machine" "LArraySegments$Machine;") (List.mem_of_getElem? (i := 5) rfl)) (fun _ h9 => h9) rfl dX4_length_11 ?_
    refine va_get (D := (dC, dI)) (ci := 2) (v := .ref m2) (C := RX2) (T := TX2) (N := 9) hx hb hts inc_X4_length_X2 hown hK hP 1 rfl rfl 4 (by decide) (hts (.fieldLink RX4 159 "ArraySegments$Machine" "meant" "[I") (List.mem_of_getElem? (i := 6) rfl)) (fun _ h9 => h9) rfl dX4_length_14 ?_
    refine lv_iload_n hx hb dX4_length_17 rfl (lv_at hl 1 rfl) ?_
    refine va_iald hx hb hK hP 3 0 rfl rfl (v6_in k_2) dX4_length_18 ?_
    refine my_topi (y := (-1)) (ov_v6 mf2 (-1) k_2) ?_
    refine lv_istore_n (lv' := [(2, .int (-1)), (0, .ref xh), (1, .int ra)]) hx hb dX4_length_19 rfl hl (by decide) rfl (fun ls1 hl1 => ?_)
    replace hl := hl1; clear hl1
    refine lv_iload_n hx hb dX4_length_20 rfl (lv_at hl 0 rfl) ?_
    refine lv_if_ge (tgt := 28) hx hb dX4_length_21 (by decide) (fun c_3 => ?_) (fun c_3 => ?_)
    · exact absurd c_3 (by decide)
    · -- on
      refine lv_iconst (v := (-1)) hx hb dX4_length_24 (by decide) ?_
      refine lv_goto (tgt := 37) hx hb dX4_length_25 (by decide) ?_
      have hP9 := hP.sub (ws' := []) [] rfl
      have hD9 := hD.sub (ws' := []) [] (by decide) rfl
      exact W.iret (v := (-1)) hx hb hr (fun t ht hW => ⟨⟨(-1), (fun _ => 0), rfl, (by refine Or.inl ⟨rfl, ?_⟩; first | assumption | omega), by rw [ht]; exact hP9, va_K.moved hW.alike hK, hD9⟩, hS.F ht⟩) hS.2.2 dX4_length_37
  · -- no
    have k_2 : ¬ (V6 ra) := two_z hw_1 c_2
    refine lv_bipush (v := (-2)) hx hb dX4_length_7 (by decide) ?_
    have hP9 := hP.sub (ws' := []) [] rfl
    have hD9 := hD.sub (ws' := []) [] (by decide) rfl
    exact W.iret (v := (-2)) hx hb hr (fun t ht hW => ⟨⟨(-2), (fun _ => 0), rfl, (by refine Or.inr ⟨rfl, ?_⟩; first | assumption | omega), by rw [ht]; exact hP9, va_K.moved hW.alike hK, hD9⟩, hS.F ht⟩) hS.2.2 dX4_length_9

def w_X4_same : List Cond := .code yX4_same cX4_same 3 (some .int) :: ([.methodLink RX4 95 yX4_isReference, .static yX4_isReference, .initialized RX4, .code yX4_isReference cX4_isReference 1 (some .boolean), .fieldLink RX4 26 "ArraySegments" "machine" "LArraySegments$Machine;", .fieldLink RX4 168 "ArraySegments$Machine" "hasRun" "Z"] ++ wsX40 ++ wsX20)
theorem inc_X4_same_X2 : ∀ w ∈ wsX20, w ∈ w_X4_same := fun _ h => List.mem_cons_of_mem _ (List.mem_append_right _ h)
theorem inc_X4_same_X4 : ∀ w ∈ wsX40, w ∈ w_X4_same := fun _ h => List.mem_cons_of_mem _ (List.mem_append_left _ (List.mem_append_right _ h))
set_option maxRecDepth 20000 in
theorem g_X4_same_X4_isReference_95 : GoodIn w_X4_same (va_wsS RX4 95 yX4_isReference w_X4_isReference) := goodIn_r _ [1, 2, 3, 4] (by decide +kernel) (by decide +kernel)
abbrev pw_X4_same (cI cJ cZ : ClassId) (xh : Nat) (mh : Nat) (xn_program : Value) (xn_flow : Value) (xn_lastStatus : Value) (ms_thrown : Value) (ms_thrownAt : Value) (ms_values : Value) (ms_meant : Value) (ms_lanes : Value) (ms_lengths : Value) (ms_cells : Value) (ms_state : Value) (ra : Int32) (sa : Int32) : va_W := [(xh, .inr (4, [xn_program, xn_flow, .ref mh, xn_lastStatus])), (mh, .inr (2, [.int 0, ms_thrown, ms_thrownAt, ms_values, ms_meant, ms_lanes, ms_lengths, ms_cells, ms_state]))]
set_option maxHeartbeats 4000000 in
set_option maxRecDepth 100000 in
theorem c_X4_same (l : Launch) (dC : Nat → ClassId) (dI : Nat → Nat → Nat) (cI cJ cZ : ClassId) (xh : Nat) (mh : Nat) (xn_program : Value) (xn_flow : Value) (xn_lastStatus : Value) (ms_thrown : Value) (ms_thrownAt : Value) (ms_values : Value) (ms_meant : Value) (ms_lanes : Value) (ms_lengths : Value) (ms_cells : Value) (ms_state : Value) (ra : Int32) (sa : Int32) (sz : Nat) : Met l yX4_same w_X4_same ({ frames := 1, cells := 0, slots := 0, locals := 20 }) (va_Pc [.ref xh, .int ra, .int sa] (cPre dC dI cI cJ cZ sz (pw_X4_same cI cJ cZ xh mh xn_program xn_flow xn_lastStatus ms_thrown ms_thrownAt ms_values ms_meant ms_lanes ms_lengths ms_cells ms_state ra sa))) (va_Qi (fun (r : Int32) (u : Nat → Nat) => two r (V6 ra ∧ V6 sa) (-3) (-2)) (fun (u : Nat → Nat) => cPost dC dI cI cJ cZ (va_A (pw_X4_same cI cJ cZ xh mh xn_program xn_flow xn_lastStatus ms_thrown ms_thrownAt ms_values ms_meant ms_lanes ms_lengths ms_cells ms_state ra sa) sz) []) (va_A (pw_X4_same cI cJ cZ xh mh xn_program xn_flow xn_lastStatus ms_thrown ms_thrownAt ms_values ms_meant ms_lanes ms_lengths ms_cells ms_state ra sa) sz)) 0 0 (va_A (pw_X4_same cI cJ cZ xh mh xn_program xn_flow xn_lastStatus ms_thrown ms_thrownAt ms_values ms_meant ms_lanes ms_lengths ms_cells ms_state ra sa) sz) := by
  refine Met.ofW (cc := cX4_same) (maxL := 3) (ret := (some .int)) (by decide) rfl ?_
  intro p e s m args below meth c s₁ B hml hv
  obtain ⟨rfl, hsz, hP, hK, hD0, hN⟩ := hv
  have hx := B.exec
  have hb := B.bytes
  have hr := B.returns
  have hts := atoms_spec (ws := w_X4_same) B.pre
  have hown : s.vm.findClass RX4 = some m.cls := findClass_of_methodNamed B.named
  have hlocks := B.notSynchronized
  subst hsz
  have hD := hD0.self (sz := s.heap.size)
  generalize hAe : va_A (pw_X4_same cI cJ cZ xh mh xn_program xn_flow xn_lastStatus ms_thrown ms_thrownAt ms_values ms_meant ms_lanes ms_lengths ms_cells ms_state ra sa) s.heap.size = A at hD ⊢
  have hA : ∀ q : Nat, s.heap.size ≤ q → A q := fun q h => by rw [← hAe]; exact Or.inr h
  clear hAe hD0
  have hS : va_S A s.heap s.heap [] := va_S.rf
  replace hP : va_P (dC, dI) vwCl [(xh, .inr (4, [xn_program, xn_flow, .ref mh, xn_lastStatus])), (mh, .inr (2, [.int 0, ms_thrown, ms_thrownAt, ms_values, ms_meant, ms_lanes, ms_lengths, ms_cells, ms_state]))] s.heap := hP
  replace hD : va_D A [(xh, .inr (4, [xn_program, xn_flow, .ref mh, xn_lastStatus])), (mh, .inr (2, [.int 0, ms_thrown, ms_thrownAt, ms_values, ms_meant, ms_lanes, ms_lengths, ms_cells, ms_state]))] := hD
  have hl := lv_entry ([.ref xh, .int ra, .int sa]) (n := 3) (Nat.le_of_ble_eq_true rfl)
  rw [lg_entry_eq]
  generalize (lg_sl ([.ref xh, .int ra, .int sa]) ++ List.replicate (3 - (lg_sl ([.ref xh, .int ra, .int sa])).length) Slot.unset).toArray = ls at hl ⊢
  replace hl : lv_has ls 3 [(0, .ref xh), (1, .int ra), (2, .int sa)] := hl
  refine lv_iload_n hx hb dX4_same_0 rfl (lv_at hl 1 rfl) ?_
  refine vp_callSi (va_runS (As := [.int ra]) (rest := []) ⟨hx, hb, hml, hown, hts⟩ (c_X4_isReference l ra) (va_cwS 1 hts g_X4_same_X4_isReference_95 rfl rfl rfl (by decide +kernel) ⟨Nat.le_of_ble_eq_true rfl, Nat.le_of_ble_eq_true rfl⟩) ⟨fun _ _ _ _ q => q, fun _ _ _ => ⟨rfl, trivial⟩⟩ rfl rfl hl.1 rfl (lv_room (Nat.le_of_ble_eq_true rfl)) dX4_same_1 ⟨Nat.le_of_ble_eq_true rfl, Nat.le_of_ble_eq_true rfl⟩).run (fun r_1 hw_1 => ?_)
  refine lv_if_eq (tgt := 14) hx hb dX4_same_4 (by decide) (fun c_2 => ?_) (fun c_2 => ?_)
  · -- yes
    have k_2 : ¬ (V6 ra) := two_z hw_1 c_2
    refine lv_bipush (v := (-2)) hx hb dX4_same_14 (by decide) ?_
    have hP9 := hP.sub (ws' := []) [] rfl
    have hD9 := hD.sub (ws' := []) [] (by decide) rfl
    exact W.iret (v := (-2)) hx hb hr (fun t ht hW => ⟨⟨(-2), (fun _ => 0), rfl, (by refine Or.inr ⟨rfl, ?_⟩; first | assumption | omega), by rw [ht]; exact hP9, va_K.moved hW.alike hK, hD9⟩, hS.F ht⟩) hS.2.2 dX4_same_16
  · -- no
    have k_2 : V6 ra := two_nz hw_1 c_2
    refine lv_iload_n hx hb dX4_same_7 rfl (lv_at hl 2 rfl) ?_
    refine vp_callSi (va_runS (As := [.int sa]) (rest := []) ⟨hx, hb, hml, hown, hts⟩ (c_X4_isReference l sa) (va_cwS 1 hts g_X4_same_X4_isReference_95 rfl rfl rfl (by decide +kernel) ⟨Nat.le_of_ble_eq_true rfl, Nat.le_of_ble_eq_true rfl⟩) ⟨fun _ _ _ _ q => q, fun _ _ _ => ⟨rfl, trivial⟩⟩ rfl rfl hl.1 rfl (lv_room (Nat.le_of_ble_eq_true rfl)) dX4_same_8 ⟨Nat.le_of_ble_eq_true rfl, Nat.le_of_ble_eq_true rfl⟩).run (fun r_3 hw_3 => ?_)
    refine lv_if_ne (tgt := 17) hx hb dX4_same_11 (by decide) (fun c_4 => ?_) (fun c_4 => ?_)
    · -- yes
      have k_4 : V6 sa := two_nz hw_3 c_4
      refine lv_aload_n hx hb dX4_same_17 rfl (lv_at hl 0 rfl) ?_
      refine va_get (D := (dC, dI)) (ci := 4) (v := .ref mh) (C := RX4) (T := TX4) (N := 4) hx hb hts inc_X4_same_X4 hown hK hP 0 rfl rfl 2 (by decide) (hts (.fieldLink RX4 26 "ArraySegments" "machine" "LArraySegments$Machine;") (List.mem_of_getElem? (i := 5) rfl)) (fun _ h9 => h9) rfl dX4_same_18 ?_
      refine va_get (D := (dC, dI)) (ci := 2) (v := .int 0) (C := RX2) (T := TX2) (N := 9) hx hb hts inc_X4_same_X2 hown hK hP 1 rfl rfl 0 (by decide) (hts (.fieldLink RX4 168 "ArraySegments$Machine" "hasRun" "Z") (List.mem_of_getElem? (i := 6) rfl)) (fun _ h9 => h9) rfl dX4_same_21 ?_
      refine lv_if_ne (tgt := 30) hx hb dX4_same_24 (by decide) (fun c_5 => ?_) (fun c_5 => ?_)
      · exact absurd (by decide) c_5
      · -- on
        refine lv_bipush (v := (-3)) hx hb dX4_same_27 (by decide) ?_
        have hP9 := hP.sub (ws' := []) [] rfl
        have hD9 := hD.sub (ws' := []) [] (by decide) rfl
        exact W.iret (v := (-3)) hx hb hr (fun t ht hW => ⟨⟨(-3), (fun _ => 0), rfl, (by refine Or.inl ⟨rfl, ?_⟩; first | assumption | omega), by rw [ht]; exact hP9, va_K.moved hW.alike hK, hD9⟩, hS.F ht⟩) hS.2.2 dX4_same_29
    · -- no
      have k_4 : ¬ (V6 sa) := two_z hw_3 c_4
      refine lv_bipush (v := (-2)) hx hb dX4_same_14 (by decide) ?_
      have hP9 := hP.sub (ws' := []) [] rfl
      have hD9 := hD.sub (ws' := []) [] (by decide) rfl
      exact W.iret (v := (-2)) hx hb hr (fun t ht hW => ⟨⟨(-2), (fun _ => 0), rfl, (by refine Or.inr ⟨rfl, ?_⟩; first | assumption | omega), by rw [ht]; exact hP9, va_K.moved hW.alike hK, hD9⟩, hS.F ht⟩) hS.2.2 dX4_same_16

def w_X4_referenceHolds : List Cond := .code yX4_referenceHolds cX4_referenceHolds 3 (some .boolean) :: ([.fieldLink RX4 26 "ArraySegments" "machine" "LArraySegments$Machine;", .fieldLink RX4 159 "ArraySegments$Machine" "meant" "[I", .fieldLink RX4 19 "ArraySegments" "flow" "LArraySegments$Flow;", .fieldLink RX4 70 "ArraySegments$Flow" "now" "LArraySegments$Facts;", .fieldLink RX4 108 "ArraySegments$Facts" "maybeNull" "[Z"] ++ wsX40 ++ wsX20 ++ wsX10 ++ wsX00)
theorem inc_X4_referenceHolds_X0 : ∀ w ∈ wsX00, w ∈ w_X4_referenceHolds := fun _ h => List.mem_cons_of_mem _ (List.mem_append_right _ h)
theorem inc_X4_referenceHolds_X1 : ∀ w ∈ wsX10, w ∈ w_X4_referenceHolds := fun _ h => List.mem_cons_of_mem _ (List.mem_append_left _ (List.mem_append_right _ h))
theorem inc_X4_referenceHolds_X2 : ∀ w ∈ wsX20, w ∈ w_X4_referenceHolds := fun _ h => List.mem_cons_of_mem _ (List.mem_append_left _ (List.mem_append_left _ (List.mem_append_right _ h)))
theorem inc_X4_referenceHolds_X4 : ∀ w ∈ wsX40, w ∈ w_X4_referenceHolds := fun _ h => List.mem_cons_of_mem _ (List.mem_append_left _ (List.mem_append_left _ (List.mem_append_left _ (List.mem_append_right _ h))))
abbrev pw_X4_referenceHolds (cI cJ cZ : ClassId) (xh : Nat) (lh : Nat) (fh : Nat) (f4 : Nat) (mh : Nat) (m2 : Nat) (xg_program : Value) (xg_lastStatus : Value) (ln_ahead : Value) (ln_isOld : Value) (ln_isReached : Value) (ln_mayThrow : Value) (ln_gatheredAny : Value) (ln_gatheredLeast : Value) (ln_gatheredGreatest : Value) (fn_isReached : Value) (fn_least : Value) (fn_greatest : Value) (fn_sites : Value) (fn_known : Value) (fn_lanes : Value) (fn_shortest : Value) (fn_longest : Value) (fn_leastAt : Value) (fn_greatestAt : Value) (mn_hasRun : Value) (mn_thrown : Value) (mn_thrownAt : Value) (mn_values : Value) (mn_lanes : Value) (mn_lengths : Value) (mn_cells : Value) (mn_state : Value) (fm : Nat → Int32) (mf2 : Nat → Int32) (ra : Int32) : va_W := [(xh, .inr (4, [xg_program, .ref lh, .ref mh, xg_lastStatus])), (lh, .inr (1, [.ref fh, ln_ahead, ln_isOld, ln_isReached, ln_mayThrow, ln_gatheredAny, ln_gatheredLeast, ln_gatheredGreatest])), (fh, .inr (0, [fn_isReached, fn_least, fn_greatest, fn_sites, .ref f4, fn_known, fn_lanes, fn_shortest, fn_longest, fn_leastAt, fn_greatestAt])), (f4, .inl (cZ, 6, .inl (ov fm 6 1))), (mh, .inr (2, [mn_hasRun, mn_thrown, mn_thrownAt, mn_values, .ref m2, mn_lanes, mn_lengths, mn_cells, mn_state])), (m2, .inl (cI, 6, .inl (ov mf2 6 (-1))))]
set_option maxHeartbeats 4000000 in
set_option maxRecDepth 100000 in
theorem c_X4_referenceHolds (l : Launch) (dC : Nat → ClassId) (dI : Nat → Nat → Nat) (cI cJ cZ : ClassId) (xh : Nat) (lh : Nat) (fh : Nat) (f4 : Nat) (mh : Nat) (m2 : Nat) (xg_program : Value) (xg_lastStatus : Value) (ln_ahead : Value) (ln_isOld : Value) (ln_isReached : Value) (ln_mayThrow : Value) (ln_gatheredAny : Value) (ln_gatheredLeast : Value) (ln_gatheredGreatest : Value) (fn_isReached : Value) (fn_least : Value) (fn_greatest : Value) (fn_sites : Value) (fn_known : Value) (fn_lanes : Value) (fn_shortest : Value) (fn_longest : Value) (fn_leastAt : Value) (fn_greatestAt : Value) (mn_hasRun : Value) (mn_thrown : Value) (mn_thrownAt : Value) (mn_values : Value) (mn_lanes : Value) (mn_lengths : Value) (mn_cells : Value) (mn_state : Value) (fm : Nat → Int32) (mf2 : Nat → Int32) (ra : Int32) (sz : Nat) (hra : V6 ra) : Met l yX4_referenceHolds w_X4_referenceHolds ({ frames := 0, cells := 0, slots := 0, locals := 0 }) (va_Pc [.ref xh, .int ra] (cPre dC dI cI cJ cZ sz (pw_X4_referenceHolds cI cJ cZ xh lh fh f4 mh m2 xg_program xg_lastStatus ln_ahead ln_isOld ln_isReached ln_mayThrow ln_gatheredAny ln_gatheredLeast ln_gatheredGreatest fn_isReached fn_least fn_greatest fn_sites fn_known fn_lanes fn_shortest fn_longest fn_leastAt fn_greatestAt mn_hasRun mn_thrown mn_thrownAt mn_values mn_lanes mn_lengths mn_cells mn_state fm mf2 ra))) (va_Qi (fun (r : Int32) (u : Nat → Nat) => r = 1) (fun (u : Nat → Nat) => cPost dC dI cI cJ cZ (va_A (pw_X4_referenceHolds cI cJ cZ xh lh fh f4 mh m2 xg_program xg_lastStatus ln_ahead ln_isOld ln_isReached ln_mayThrow ln_gatheredAny ln_gatheredLeast ln_gatheredGreatest fn_isReached fn_least fn_greatest fn_sites fn_known fn_lanes fn_shortest fn_longest fn_leastAt fn_greatestAt mn_hasRun mn_thrown mn_thrownAt mn_values mn_lanes mn_lengths mn_cells mn_state fm mf2 ra) sz) [(xh, .inr (4, [xg_program, .ref lh, .ref mh, xg_lastStatus])), (lh, .inr (1, [.ref fh, ln_ahead, ln_isOld, ln_isReached, ln_mayThrow, ln_gatheredAny, ln_gatheredLeast, ln_gatheredGreatest])), (fh, .inr (0, [fn_isReached, fn_least, fn_greatest, fn_sites, .ref f4, fn_known, fn_lanes, fn_shortest, fn_longest, fn_leastAt, fn_greatestAt])), (f4, .inl (cZ, 6, .inl (ov fm 6 1))), (mh, .inr (2, [mn_hasRun, mn_thrown, mn_thrownAt, mn_values, .ref m2, mn_lanes, mn_lengths, mn_cells, mn_state])), (m2, .inl (cI, 6, .inl (ov mf2 6 (-1))))]) (va_A (pw_X4_referenceHolds cI cJ cZ xh lh fh f4 mh m2 xg_program xg_lastStatus ln_ahead ln_isOld ln_isReached ln_mayThrow ln_gatheredAny ln_gatheredLeast ln_gatheredGreatest fn_isReached fn_least fn_greatest fn_sites fn_known fn_lanes fn_shortest fn_longest fn_leastAt fn_greatestAt mn_hasRun mn_thrown mn_thrownAt mn_values mn_lanes mn_lengths mn_cells mn_state fm mf2 ra) sz)) 0 0 (va_A (pw_X4_referenceHolds cI cJ cZ xh lh fh f4 mh m2 xg_program xg_lastStatus ln_ahead ln_isOld ln_isReached ln_mayThrow ln_gatheredAny ln_gatheredLeast ln_gatheredGreatest fn_isReached fn_least fn_greatest fn_sites fn_known fn_lanes fn_shortest fn_longest fn_leastAt fn_greatestAt mn_hasRun mn_thrown mn_thrownAt mn_values mn_lanes mn_lengths mn_cells mn_state fm mf2 ra) sz) := by
  refine Met.ofW (cc := cX4_referenceHolds) (maxL := 3) (ret := (some .boolean)) (by decide) rfl ?_
  intro p e s m args below meth c s₁ B hml hv
  obtain ⟨rfl, hsz, hP, hK, hD0, hN⟩ := hv
  have hx := B.exec
  have hb := B.bytes
  have hr := B.returns
  have hts := atoms_spec (ws := w_X4_referenceHolds) B.pre
  have hown : s.vm.findClass RX4 = some m.cls := findClass_of_methodNamed B.named
  have hlocks := B.notSynchronized
  subst hsz
  have hD := hD0.self (sz := s.heap.size)
  generalize hAe : va_A (pw_X4_referenceHolds cI cJ cZ xh lh fh f4 mh m2 xg_program xg_lastStatus ln_ahead ln_isOld ln_isReached ln_mayThrow ln_gatheredAny ln_gatheredLeast ln_gatheredGreatest fn_isReached fn_least fn_greatest fn_sites fn_known fn_lanes fn_shortest fn_longest fn_leastAt fn_greatestAt mn_hasRun mn_thrown mn_thrownAt mn_values mn_lanes mn_lengths mn_cells mn_state fm mf2 ra) s.heap.size = A at hD ⊢
  have hA : ∀ q : Nat, s.heap.size ≤ q → A q := fun q h => by rw [← hAe]; exact Or.inr h
  clear hAe hD0
  have hS : va_S A s.heap s.heap [] := va_S.rf
  replace hP : va_P (dC, dI) vwCl [(xh, .inr (4, [xg_program, .ref lh, .ref mh, xg_lastStatus])), (lh, .inr (1, [.ref fh, ln_ahead, ln_isOld, ln_isReached, ln_mayThrow, ln_gatheredAny, ln_gatheredLeast, ln_gatheredGreatest])), (fh, .inr (0, [fn_isReached, fn_least, fn_greatest, fn_sites, .ref f4, fn_known, fn_lanes, fn_shortest, fn_longest, fn_leastAt, fn_greatestAt])), (f4, .inl (cZ, 6, .inl (ov fm 6 1))), (mh, .inr (2, [mn_hasRun, mn_thrown, mn_thrownAt, mn_values, .ref m2, mn_lanes, mn_lengths, mn_cells, mn_state])), (m2, .inl (cI, 6, .inl (ov mf2 6 (-1))))] s.heap := hP
  replace hD : va_D A [(xh, .inr (4, [xg_program, .ref lh, .ref mh, xg_lastStatus])), (lh, .inr (1, [.ref fh, ln_ahead, ln_isOld, ln_isReached, ln_mayThrow, ln_gatheredAny, ln_gatheredLeast, ln_gatheredGreatest])), (fh, .inr (0, [fn_isReached, fn_least, fn_greatest, fn_sites, .ref f4, fn_known, fn_lanes, fn_shortest, fn_longest, fn_leastAt, fn_greatestAt])), (f4, .inl (cZ, 6, .inl (ov fm 6 1))), (mh, .inr (2, [mn_hasRun, mn_thrown, mn_thrownAt, mn_values, .ref m2, mn_lanes, mn_lengths, mn_cells, mn_state])), (m2, .inl (cI, 6, .inl (ov mf2 6 (-1))))] := hD
  have hl := lv_entry ([.ref xh, .int ra]) (n := 3) (Nat.le_of_ble_eq_true rfl)
  rw [lg_entry_eq]
  generalize (lg_sl ([.ref xh, .int ra]) ++ List.replicate (3 - (lg_sl ([.ref xh, .int ra])).length) Slot.unset).toArray = ls at hl ⊢
  replace hl : lv_has ls 3 [(0, .ref xh), (1, .int ra)] := hl
  refine lv_aload_n hx hb dX4_referenceHolds_0 rfl (lv_at hl 0 rfl) ?_
  refine va_get (D := (dC, dI)) (ci := 4) (v := .ref mh) (C := RX4) (T := TX4) (N := 4) hx hb hts inc_X4_referenceHolds_X4 hown hK hP 0 rfl rfl 2 (by decide) (hts (.fieldLink RX4 26 "ArraySegments" "machine" "LArraySegments$Machine;") (List.mem_of_getElem? (i := 1) rfl)) (fun _ h9 => h9) rfl dX4_referenceHolds_1 ?_
  refine va_get (D := (dC, dI)) (ci := 2) (v := .ref m2) (C := RX2) (T := TX2) (N := 9) hx hb hts inc_X4_referenceHolds_X2 hown hK hP 4 rfl rfl 4 (by decide) (hts (.fieldLink RX4 159 "ArraySegments$Machine" "meant" "[I") (List.mem_of_getElem? (i := 2) rfl)) (fun _ h9 => h9) rfl dX4_referenceHolds_4 ?_
  refine lv_iload_n hx hb dX4_referenceHolds_7 rfl (lv_at hl 1 rfl) ?_
  refine va_iald hx hb hK hP 5 0 rfl rfl (v6_in hra) dX4_referenceHolds_8 ?_
  refine my_topi (y := (-1)) (ov_v6 mf2 (-1) hra) ?_
  refine lv_istore_n (lv' := [(2, .int (-1)), (0, .ref xh), (1, .int ra)]) hx hb dX4_referenceHolds_9 rfl hl (by decide) rfl (fun ls1 hl1 => ?_)
  replace hl := hl1; clear hl1
  refine lv_iload_n hx hb dX4_referenceHolds_10 rfl (lv_at hl 0 rfl) ?_
  refine lv_if_ge (tgt := 27) hx hb dX4_referenceHolds_11 (by decide) (fun c_1 => ?_) (fun c_1 => ?_)
  · exact absurd c_1 (by decide)
  · -- on
    refine lv_aload_n hx hb dX4_referenceHolds_14 rfl (lv_at hl 1 rfl) ?_
    refine va_get (D := (dC, dI)) (ci := 4) (v := .ref lh) (C := RX4) (T := TX4) (N := 4) hx hb hts inc_X4_referenceHolds_X4 hown hK hP 0 rfl rfl 1 (by decide) (hts (.fieldLink RX4 19 "ArraySegments" "flow" "LArraySegments$Flow;") (List.mem_of_getElem? (i := 3) rfl)) (fun _ h9 => h9) rfl dX4_referenceHolds_15 ?_
    refine va_get (D := (dC, dI)) (ci := 1) (v := .ref fh) (C := RX1) (T := TX1) (N := 8) hx hb hts inc_X4_referenceHolds_X1 hown hK hP 1 rfl rfl 0 (by decide) (hts (.fieldLink RX4 70 "ArraySegments$Flow" "now" "LArraySegments$Facts;") (List.mem_of_getElem? (i := 4) rfl)) (fun _ h9 => h9) rfl dX4_referenceHolds_18 ?_
    refine va_get (D := (dC, dI)) (ci := 0) (v := .ref f4) (C := RX0) (T := TX0) (N := 11) hx hb hts inc_X4_referenceHolds_X0 hown hK hP 2 rfl rfl 4 (by decide) (hts (.fieldLink RX4 108 "ArraySegments$Facts" "maybeNull" "[Z") (List.mem_of_getElem? (i := 5) rfl)) (fun _ h9 => h9) rfl dX4_referenceHolds_21 ?_
    refine lv_iload_n hx hb dX4_referenceHolds_24 rfl (lv_at hl 2 rfl) ?_
    refine va_zald hx hb hK hP 3 2 rfl rfl (v6_in hra) dX4_referenceHolds_25 ?_
    refine my_topi (y := 1) (ov_v6 fm 1 hra) ?_
    have hP9 := hP.sub (ws' := [(xh, .inr (4, [xg_program, .ref lh, .ref mh, xg_lastStatus])), (lh, .inr (1, [.ref fh, ln_ahead, ln_isOld, ln_isReached, ln_mayThrow, ln_gatheredAny, ln_gatheredLeast, ln_gatheredGreatest])), (fh, .inr (0, [fn_isReached, fn_least, fn_greatest, fn_sites, .ref f4, fn_known, fn_lanes, fn_shortest, fn_longest, fn_leastAt, fn_greatestAt])), (f4, .inl (cZ, 6, .inl (ov fm 6 1))), (mh, .inr (2, [mn_hasRun, mn_thrown, mn_thrownAt, mn_values, .ref m2, mn_lanes, mn_lengths, mn_cells, mn_state])), (m2, .inl (cI, 6, .inl (ov mf2 6 (-1))))]) [0, 1, 2, 3, 4, 5] rfl
    have hD9 := hD.sub (ws' := [(xh, .inr (4, [xg_program, .ref lh, .ref mh, xg_lastStatus])), (lh, .inr (1, [.ref fh, ln_ahead, ln_isOld, ln_isReached, ln_mayThrow, ln_gatheredAny, ln_gatheredLeast, ln_gatheredGreatest])), (fh, .inr (0, [fn_isReached, fn_least, fn_greatest, fn_sites, .ref f4, fn_known, fn_lanes, fn_shortest, fn_longest, fn_leastAt, fn_greatestAt])), (f4, .inl (cZ, 6, .inl (ov fm 6 1))), (mh, .inr (2, [mn_hasRun, mn_thrown, mn_thrownAt, mn_values, .ref m2, mn_lanes, mn_lengths, mn_cells, mn_state])), (m2, .inl (cI, 6, .inl (ov mf2 6 (-1))))]) [0, 1, 2, 3, 4, 5] (by decide) rfl
    exact W.zret (v := 1) (ty := .boolean) hx hb hr rfl (fun t ht hW => ⟨⟨1, (fun _ => 0), rfl, rfl, by rw [ht]; exact hP9, va_K.moved hW.alike hK, hD9⟩, hS.F ht⟩) hS.2.2 dX4_referenceHolds_26

def w_X4_endHolds : List Cond := .code yX4_endHolds cX4_endHolds 2 (some .boolean) :: ([.fieldLink RX4 19 "ArraySegments" "flow" "LArraySegments$Flow;", .fieldLink RX4 70 "ArraySegments$Flow" "now" "LArraySegments$Facts;", .fieldLink RX4 74 "ArraySegments$Facts" "isReached" "Z", .methodLink RX4 197 yX4_referenceHolds, .instanceMethod yX4_referenceHolds, .selects RX4 yX4_referenceHolds yX4_referenceHolds, .initialized RX4, .code yX4_referenceHolds cX4_referenceHolds 3 (some .boolean), .fieldLink RX4 26 "ArraySegments" "machine" "LArraySegments$Machine;", .fieldLink RX4 159 "ArraySegments$Machine" "meant" "[I", .fieldLink RX4 108 "ArraySegments$Facts" "maybeNull" "[Z", .fieldLink RX4 156 "ArraySegments$Machine" "values" "[I", .fieldLink RX4 86 "ArraySegments$Facts" "least" "[I", .fieldLink RX4 89 "ArraySegments$Facts" "greatest" "[I"] ++ wsX40 ++ wsX10 ++ wsX00 ++ wsX20)
theorem inc_X4_endHolds_X0 : ∀ w ∈ wsX00, w ∈ w_X4_endHolds := fun _ h => List.mem_cons_of_mem _ (List.mem_append_left _ (List.mem_append_right _ h))
theorem inc_X4_endHolds_X1 : ∀ w ∈ wsX10, w ∈ w_X4_endHolds := fun _ h => List.mem_cons_of_mem _ (List.mem_append_left _ (List.mem_append_left _ (List.mem_append_right _ h)))
theorem inc_X4_endHolds_X2 : ∀ w ∈ wsX20, w ∈ w_X4_endHolds := fun _ h => List.mem_cons_of_mem _ (List.mem_append_right _ h)
theorem inc_X4_endHolds_X4 : ∀ w ∈ wsX40, w ∈ w_X4_endHolds := fun _ h => List.mem_cons_of_mem _ (List.mem_append_left _ (List.mem_append_left _ (List.mem_append_left _ (List.mem_append_right _ h))))
set_option maxRecDepth 20000 in
theorem g_X4_endHolds_X4_referenceHolds_197 : GoodIn w_X4_endHolds (wsV RX4 197 RX4 yX4_referenceHolds w_X4_referenceHolds) := goodIn_r _ [4, 5, 6, 7, 8, 9, 10, 1, 2, 11, 15, 16, 17, 18, 38, 39, 40, 41, 42, 43, 44, 45, 46, 19, 20, 21, 22, 23, 24, 25, 26, 27, 28, 29, 30, 31, 32, 33, 34, 35, 36, 37] (by decide +kernel) (by decide +kernel)
abbrev pw_X4_endHolds (cI cJ cZ : ClassId) (xh : Nat) (lh : Nat) (fh : Nat) (f1 : Nat) (f2 : Nat) (f4 : Nat) (xg_program : Value) (xg_lastStatus : Value) (ln_ahead : Value) (ln_isOld : Value) (ln_isReached : Value) (ln_mayThrow : Value) (ln_gatheredAny : Value) (ln_gatheredLeast : Value) (ln_gatheredGreatest : Value) (fe_sites : Value) (fe_known : Value) (fe_lanes : Value) (fe_shortest : Value) (fe_longest : Value) (fe_leastAt : Value) (fe_greatestAt : Value) (mh : Nat) (m1 : Nat) (m2 : Nat) (mv_hasRun : Value) (mv_thrown : Value) (mv_thrownAt : Value) (mv_lanes : Value) (mv_lengths : Value) (mv_cells : Value) (mv_state : Value) (mf1 : Nat → Int32) (mf2 : Nat → Int32) (fl : Nat → Int32) (fg : Nat → Int32) (fm : Nat → Int32) : va_W := [(xh, .inr (4, [xg_program, .ref lh, .ref mh, xg_lastStatus])), (lh, .inr (1, [.ref fh, ln_ahead, ln_isOld, ln_isReached, ln_mayThrow, ln_gatheredAny, ln_gatheredLeast, ln_gatheredGreatest])), (fh, .inr (0, [.int 1, .ref f1, .ref f2, fe_sites, .ref f4, fe_known, fe_lanes, fe_shortest, fe_longest, fe_leastAt, fe_greatestAt])), (f1, .inl (cI, 6, .inl (ov fl 6 0))), (f2, .inl (cI, 6, .inl (ov fg 6 0))), (f4, .inl (cZ, 6, .inl (ov fm 6 1))), (mh, .inr (2, [mv_hasRun, mv_thrown, mv_thrownAt, .ref m1, .ref m2, mv_lanes, mv_lengths, mv_cells, mv_state])), (m1, .inl (cI, 6, .inl (ov mf1 6 0))), (m2, .inl (cI, 6, .inl (ov mf2 6 (-1))))]
set_option maxHeartbeats 4000000 in
set_option maxRecDepth 100000 in
theorem c_X4_endHolds (l : Launch) (dC : Nat → ClassId) (dI : Nat → Nat → Nat) (cI cJ cZ : ClassId) (xh : Nat) (lh : Nat) (fh : Nat) (f1 : Nat) (f2 : Nat) (f4 : Nat) (xg_program : Value) (xg_lastStatus : Value) (ln_ahead : Value) (ln_isOld : Value) (ln_isReached : Value) (ln_mayThrow : Value) (ln_gatheredAny : Value) (ln_gatheredLeast : Value) (ln_gatheredGreatest : Value) (fe_sites : Value) (fe_known : Value) (fe_lanes : Value) (fe_shortest : Value) (fe_longest : Value) (fe_leastAt : Value) (fe_greatestAt : Value) (mh : Nat) (m1 : Nat) (m2 : Nat) (mv_hasRun : Value) (mv_thrown : Value) (mv_thrownAt : Value) (mv_lanes : Value) (mv_lengths : Value) (mv_cells : Value) (mv_state : Value) (mf1 : Nat → Int32) (mf2 : Nat → Int32) (fl : Nat → Int32) (fg : Nat → Int32) (fm : Nat → Int32) (sz : Nat) : Met l yX4_endHolds w_X4_endHolds ({ frames := 1, cells := 0, slots := 0, locals := 22 }) (va_Pc [.ref xh] (cPre dC dI cI cJ cZ sz (pw_X4_endHolds cI cJ cZ xh lh fh f1 f2 f4 xg_program xg_lastStatus ln_ahead ln_isOld ln_isReached ln_mayThrow ln_gatheredAny ln_gatheredLeast ln_gatheredGreatest fe_sites fe_known fe_lanes fe_shortest fe_longest fe_leastAt fe_greatestAt mh m1 m2 mv_hasRun mv_thrown mv_thrownAt mv_lanes mv_lengths mv_cells mv_state mf1 mf2 fl fg fm))) (va_Qi (fun (r : Int32) (u : Nat → Nat) => r = 1) (fun (u : Nat → Nat) => cPost dC dI cI cJ cZ (va_A (pw_X4_endHolds cI cJ cZ xh lh fh f1 f2 f4 xg_program xg_lastStatus ln_ahead ln_isOld ln_isReached ln_mayThrow ln_gatheredAny ln_gatheredLeast ln_gatheredGreatest fe_sites fe_known fe_lanes fe_shortest fe_longest fe_leastAt fe_greatestAt mh m1 m2 mv_hasRun mv_thrown mv_thrownAt mv_lanes mv_lengths mv_cells mv_state mf1 mf2 fl fg fm) sz) [(xh, .inr (4, [xg_program, .ref lh, .ref mh, xg_lastStatus])), (lh, .inr (1, [.ref fh, ln_ahead, ln_isOld, ln_isReached, ln_mayThrow, ln_gatheredAny, ln_gatheredLeast, ln_gatheredGreatest])), (fh, .inr (0, [.int 1, .ref f1, .ref f2, fe_sites, .ref f4, fe_known, fe_lanes, fe_shortest, fe_longest, fe_leastAt, fe_greatestAt])), (f1, .inl (cI, 6, .inl (ov fl 6 0))), (f2, .inl (cI, 6, .inl (ov fg 6 0))), (f4, .inl (cZ, 6, .inl (ov fm 6 1))), (mh, .inr (2, [mv_hasRun, mv_thrown, mv_thrownAt, .ref m1, .ref m2, mv_lanes, mv_lengths, mv_cells, mv_state])), (m1, .inl (cI, 6, .inl (ov mf1 6 0))), (m2, .inl (cI, 6, .inl (ov mf2 6 (-1))))]) (va_A (pw_X4_endHolds cI cJ cZ xh lh fh f1 f2 f4 xg_program xg_lastStatus ln_ahead ln_isOld ln_isReached ln_mayThrow ln_gatheredAny ln_gatheredLeast ln_gatheredGreatest fe_sites fe_known fe_lanes fe_shortest fe_longest fe_leastAt fe_greatestAt mh m1 m2 mv_hasRun mv_thrown mv_thrownAt mv_lanes mv_lengths mv_cells mv_state mf1 mf2 fl fg fm) sz)) 0 0 (va_A (pw_X4_endHolds cI cJ cZ xh lh fh f1 f2 f4 xg_program xg_lastStatus ln_ahead ln_isOld ln_isReached ln_mayThrow ln_gatheredAny ln_gatheredLeast ln_gatheredGreatest fe_sites fe_known fe_lanes fe_shortest fe_longest fe_leastAt fe_greatestAt mh m1 m2 mv_hasRun mv_thrown mv_thrownAt mv_lanes mv_lengths mv_cells mv_state mf1 mf2 fl fg fm) sz) := by
  refine Met.ofW (cc := cX4_endHolds) (maxL := 2) (ret := (some .boolean)) (by decide) rfl ?_
  intro p e s m args below meth c s₁ B hml hv
  obtain ⟨rfl, hsz, hP, hK, hD0, hN⟩ := hv
  have hx := B.exec
  have hb := B.bytes
  have hr := B.returns
  have hts := atoms_spec (ws := w_X4_endHolds) B.pre
  have hown : s.vm.findClass RX4 = some m.cls := findClass_of_methodNamed B.named
  have hlocks := B.notSynchronized
  subst hsz
  have hD := hD0.self (sz := s.heap.size)
  generalize hAe : va_A (pw_X4_endHolds cI cJ cZ xh lh fh f1 f2 f4 xg_program xg_lastStatus ln_ahead ln_isOld ln_isReached ln_mayThrow ln_gatheredAny ln_gatheredLeast ln_gatheredGreatest fe_sites fe_known fe_lanes fe_shortest fe_longest fe_leastAt fe_greatestAt mh m1 m2 mv_hasRun mv_thrown mv_thrownAt mv_lanes mv_lengths mv_cells mv_state mf1 mf2 fl fg fm) s.heap.size = A at hD ⊢
  have hA : ∀ q : Nat, s.heap.size ≤ q → A q := fun q h => by rw [← hAe]; exact Or.inr h
  clear hAe hD0
  have hS : va_S A s.heap s.heap [] := va_S.rf
  replace hP : va_P (dC, dI) vwCl [(xh, .inr (4, [xg_program, .ref lh, .ref mh, xg_lastStatus])), (lh, .inr (1, [.ref fh, ln_ahead, ln_isOld, ln_isReached, ln_mayThrow, ln_gatheredAny, ln_gatheredLeast, ln_gatheredGreatest])), (fh, .inr (0, [.int 1, .ref f1, .ref f2, fe_sites, .ref f4, fe_known, fe_lanes, fe_shortest, fe_longest, fe_leastAt, fe_greatestAt])), (f1, .inl (cI, 6, .inl (ov fl 6 0))), (f2, .inl (cI, 6, .inl (ov fg 6 0))), (f4, .inl (cZ, 6, .inl (ov fm 6 1))), (mh, .inr (2, [mv_hasRun, mv_thrown, mv_thrownAt, .ref m1, .ref m2, mv_lanes, mv_lengths, mv_cells, mv_state])), (m1, .inl (cI, 6, .inl (ov mf1 6 0))), (m2, .inl (cI, 6, .inl (ov mf2 6 (-1))))] s.heap := hP
  replace hD : va_D A [(xh, .inr (4, [xg_program, .ref lh, .ref mh, xg_lastStatus])), (lh, .inr (1, [.ref fh, ln_ahead, ln_isOld, ln_isReached, ln_mayThrow, ln_gatheredAny, ln_gatheredLeast, ln_gatheredGreatest])), (fh, .inr (0, [.int 1, .ref f1, .ref f2, fe_sites, .ref f4, fe_known, fe_lanes, fe_shortest, fe_longest, fe_leastAt, fe_greatestAt])), (f1, .inl (cI, 6, .inl (ov fl 6 0))), (f2, .inl (cI, 6, .inl (ov fg 6 0))), (f4, .inl (cZ, 6, .inl (ov fm 6 1))), (mh, .inr (2, [mv_hasRun, mv_thrown, mv_thrownAt, .ref m1, .ref m2, mv_lanes, mv_lengths, mv_cells, mv_state])), (m1, .inl (cI, 6, .inl (ov mf1 6 0))), (m2, .inl (cI, 6, .inl (ov mf2 6 (-1))))] := hD
  have hl := lv_entry ([.ref xh]) (n := 2) (Nat.le_of_ble_eq_true rfl)
  rw [lg_entry_eq]
  generalize (lg_sl ([.ref xh]) ++ List.replicate (2 - (lg_sl ([.ref xh])).length) Slot.unset).toArray = ls at hl ⊢
  replace hl : lv_has ls 2 [(0, .ref xh)] := hl
  refine lv_aload_n hx hb dX4_endHolds_0 rfl (lv_at hl 0 rfl) ?_
  refine va_get (D := (dC, dI)) (ci := 4) (v := .ref lh) (C := RX4) (T := TX4) (N := 4) hx hb hts inc_X4_endHolds_X4 hown hK hP 0 rfl rfl 1 (by decide) (hts (.fieldLink RX4 19 "ArraySegments" "flow" "LArraySegments$Flow;") (List.mem_of_getElem? (i := 1) rfl)) (fun _ h9 => h9) rfl dX4_endHolds_1 ?_
  refine va_get (D := (dC, dI)) (ci := 1) (v := .ref fh) (C := RX1) (T := TX1) (N := 8) hx hb hts inc_X4_endHolds_X1 hown hK hP 1 rfl rfl 0 (by decide) (hts (.fieldLink RX4 70 "ArraySegments$Flow" "now" "LArraySegments$Facts;") (List.mem_of_getElem? (i := 2) rfl)) (fun _ h9 => h9) rfl dX4_endHolds_4 ?_
  refine va_get (D := (dC, dI)) (ci := 0) (v := .int 1) (C := RX0) (T := TX0) (N := 11) hx hb hts inc_X4_endHolds_X0 hown hK hP 2 rfl rfl 0 (by decide) (hts (.fieldLink RX4 74 "ArraySegments$Facts" "isReached" "Z") (List.mem_of_getElem? (i := 3) rfl)) (fun _ h9 => h9) rfl dX4_endHolds_7 ?_
  refine lv_if_ne (tgt := 15) hx hb dX4_endHolds_10 (by decide) (fun c_1 => ?_) (fun c_1 => ?_)
  · -- on
    refine lv_iconst (v := 0) hx hb dX4_endHolds_15 (by decide) ?_
    refine lv_istore_n (lv' := [(1, .int 0), (0, .ref xh)]) hx hb dX4_endHolds_16 rfl hl (by decide) rfl (fun ls1 hl1 => ?_)
    replace hl := hl1; clear hl1
    refine my_loop 6 (fun i => [(xh, .inr (4, [xg_program, .ref lh, .ref mh, xg_lastStatus])), (lh, .inr (1, [.ref fh, ln_ahead, ln_isOld, ln_isReached, ln_mayThrow, ln_gatheredAny, ln_gatheredLeast, ln_gatheredGreatest])), (fh, .inr (0, [.int 1, .ref f1, .ref f2, fe_sites, .ref f4, fe_known, fe_lanes, fe_shortest, fe_longest, fe_leastAt, fe_greatestAt])), (f1, .inl (cI, 6, .inl (ov fl 6 0))), (f2, .inl (cI, 6, .inl (ov fg 6 0))), (f4, .inl (cZ, 6, .inl (ov fm 6 1))), (mh, .inr (2, [mv_hasRun, mv_thrown, mv_thrownAt, .ref m1, .ref m2, mv_lanes, mv_lengths, mv_cells, mv_state])), (m1, .inl (cI, 6, .inl (ov mf1 6 0))), (m2, .inl (cI, 6, .inl (ov mf2 6 (-1))))]) (fun i => [(1, .int (nI i)), (0, .ref xh)]) (H0 := s.heap) (A := A) (D := (dC, dI)) (cl := vwCl) (by first | (simp only [ov_0, ovL_0]; exact hP) | exact hP) (by first | (simp only [ov_0, ovL_0]; exact hD) | exact hD) hS (by exact hl) (fun H_17 locs_17 ls1 hP1 hD1 hS1 hl1 => ?_) (fun i17 hlt_i17 ih_17 H_17 locs_17 ls1 hP1 hD1 hS1 hl1 => ?_)
    · -- behind
      replace hP : va_P (dC, dI) vwCl [(xh, .inr (4, [xg_program, .ref lh, .ref mh, xg_lastStatus])), (lh, .inr (1, [.ref fh, ln_ahead, ln_isOld, ln_isReached, ln_mayThrow, ln_gatheredAny, ln_gatheredLeast, ln_gatheredGreatest])), (fh, .inr (0, [.int 1, .ref f1, .ref f2, fe_sites, .ref f4, fe_known, fe_lanes, fe_shortest, fe_longest, fe_leastAt, fe_greatestAt])), (f1, .inl (cI, 6, .inl (ov fl 6 0))), (f2, .inl (cI, 6, .inl (ov fg 6 0))), (f4, .inl (cZ, 6, .inl (ov fm 6 1))), (mh, .inr (2, [mv_hasRun, mv_thrown, mv_thrownAt, .ref m1, .ref m2, mv_lanes, mv_lengths, mv_cells, mv_state])), (m1, .inl (cI, 6, .inl (ov mf1 6 0))), (m2, .inl (cI, 6, .inl (ov mf2 6 (-1))))] H_17 := hP1
      replace hD : va_D A [(xh, .inr (4, [xg_program, .ref lh, .ref mh, xg_lastStatus])), (lh, .inr (1, [.ref fh, ln_ahead, ln_isOld, ln_isReached, ln_mayThrow, ln_gatheredAny, ln_gatheredLeast, ln_gatheredGreatest])), (fh, .inr (0, [.int 1, .ref f1, .ref f2, fe_sites, .ref f4, fe_known, fe_lanes, fe_shortest, fe_longest, fe_leastAt, fe_greatestAt])), (f1, .inl (cI, 6, .inl (ov fl 6 0))), (f2, .inl (cI, 6, .inl (ov fg 6 0))), (f4, .inl (cZ, 6, .inl (ov fm 6 1))), (mh, .inr (2, [mv_hasRun, mv_thrown, mv_thrownAt, .ref m1, .ref m2, mv_lanes, mv_lengths, mv_cells, mv_state])), (m1, .inl (cI, 6, .inl (ov mf1 6 0))), (m2, .inl (cI, 6, .inl (ov mf2 6 (-1))))] := hD1
      replace hS := hS1
      clear hP1 hD1 hS1
      replace hl : lv_has ls1 2 [(1, .int (nI 6)), (0, .ref xh)] := hl1
      clear hl1
      refine lv_iload_n hx hb dX4_endHolds_17 rfl (lv_at hl 0 rfl) ?_
      refine lv_bipush (v := 6) hx hb dX4_endHolds_18 (by decide) ?_
      refine lv_icmp_ge (tgt := 79) hx hb dX4_endHolds_20 (by decide) (fun c_2 => ?_) (fun c_2 => ?_)
      · -- on
        refine lv_iconst (v := 0) hx hb dX4_endHolds_79 (by decide) ?_
        refine lv_istore_n (lv' := [(1, .int 0), (0, .ref xh)]) hx hb dX4_endHolds_80 rfl hl (by decide) rfl (fun ls1 hl1 => ?_)
        replace hl := hl1; clear hl1
        refine my_loop 6 (fun i => [(xh, .inr (4, [xg_program, .ref lh, .ref mh, xg_lastStatus])), (lh, .inr (1, [.ref fh, ln_ahead, ln_isOld, ln_isReached, ln_mayThrow, ln_gatheredAny, ln_gatheredLeast, ln_gatheredGreatest])), (fh, .inr (0, [.int 1, .ref f1, .ref f2, fe_sites, .ref f4, fe_known, fe_lanes, fe_shortest, fe_longest, fe_leastAt, fe_greatestAt])), (f1, .inl (cI, 6, .inl (ov fl 6 0))), (f2, .inl (cI, 6, .inl (ov fg 6 0))), (f4, .inl (cZ, 6, .inl (ov fm 6 1))), (mh, .inr (2, [mv_hasRun, mv_thrown, mv_thrownAt, .ref m1, .ref m2, mv_lanes, mv_lengths, mv_cells, mv_state])), (m1, .inl (cI, 6, .inl (ov mf1 6 0))), (m2, .inl (cI, 6, .inl (ov mf2 6 (-1))))]) (fun i => [(1, .int (nI i)), (0, .ref xh)]) (H0 := s.heap) (A := A) (D := (dC, dI)) (cl := vwCl) (by first | (simp only [ov_0, ovL_0]; exact hP) | exact hP) (by first | (simp only [ov_0, ovL_0]; exact hD) | exact hD) hS (by exact hl) (fun H_81 locs_81 ls1 hP1 hD1 hS1 hl1 => ?_) (fun i81 hlt_i81 ih_81 H_81 locs_81 ls1 hP1 hD1 hS1 hl1 => ?_)
        · -- behind
          replace hP : va_P (dC, dI) vwCl [(xh, .inr (4, [xg_program, .ref lh, .ref mh, xg_lastStatus])), (lh, .inr (1, [.ref fh, ln_ahead, ln_isOld, ln_isReached, ln_mayThrow, ln_gatheredAny, ln_gatheredLeast, ln_gatheredGreatest])), (fh, .inr (0, [.int 1, .ref f1, .ref f2, fe_sites, .ref f4, fe_known, fe_lanes, fe_shortest, fe_longest, fe_leastAt, fe_greatestAt])), (f1, .inl (cI, 6, .inl (ov fl 6 0))), (f2, .inl (cI, 6, .inl (ov fg 6 0))), (f4, .inl (cZ, 6, .inl (ov fm 6 1))), (mh, .inr (2, [mv_hasRun, mv_thrown, mv_thrownAt, .ref m1, .ref m2, mv_lanes, mv_lengths, mv_cells, mv_state])), (m1, .inl (cI, 6, .inl (ov mf1 6 0))), (m2, .inl (cI, 6, .inl (ov mf2 6 (-1))))] H_81 := hP1
          replace hD : va_D A [(xh, .inr (4, [xg_program, .ref lh, .ref mh, xg_lastStatus])), (lh, .inr (1, [.ref fh, ln_ahead, ln_isOld, ln_isReached, ln_mayThrow, ln_gatheredAny, ln_gatheredLeast, ln_gatheredGreatest])), (fh, .inr (0, [.int 1, .ref f1, .ref f2, fe_sites, .ref f4, fe_known, fe_lanes, fe_shortest, fe_longest, fe_leastAt, fe_greatestAt])), (f1, .inl (cI, 6, .inl (ov fl 6 0))), (f2, .inl (cI, 6, .inl (ov fg 6 0))), (f4, .inl (cZ, 6, .inl (ov fm 6 1))), (mh, .inr (2, [mv_hasRun, mv_thrown, mv_thrownAt, .ref m1, .ref m2, mv_lanes, mv_lengths, mv_cells, mv_state])), (m1, .inl (cI, 6, .inl (ov mf1 6 0))), (m2, .inl (cI, 6, .inl (ov mf2 6 (-1))))] := hD1
          replace hS := hS1
          clear hP1 hD1 hS1
          replace hl : lv_has ls1 2 [(1, .int (nI 6)), (0, .ref xh)] := hl1
          clear hl1
          refine lv_iload_n hx hb dX4_endHolds_81 rfl (lv_at hl 0 rfl) ?_
          refine lv_bipush (v := 6) hx hb dX4_endHolds_82 (by decide) ?_
          refine lv_icmp_ge (tgt := 103) hx hb dX4_endHolds_84 (by decide) (fun c_3 => ?_) (fun c_3 => ?_)
          · -- on
            refine lv_iconst (v := 1) hx hb dX4_endHolds_103 (by decide) ?_
            have hP9 := hP.sub (ws' := [(xh, .inr (4, [xg_program, .ref lh, .ref mh, xg_lastStatus])), (lh, .inr (1, [.ref fh, ln_ahead, ln_isOld, ln_isReached, ln_mayThrow, ln_gatheredAny, ln_gatheredLeast, ln_gatheredGreatest])), (fh, .inr (0, [.int 1, .ref f1, .ref f2, fe_sites, .ref f4, fe_known, fe_lanes, fe_shortest, fe_longest, fe_leastAt, fe_greatestAt])), (f1, .inl (cI, 6, .inl (ov fl 6 0))), (f2, .inl (cI, 6, .inl (ov fg 6 0))), (f4, .inl (cZ, 6, .inl (ov fm 6 1))), (mh, .inr (2, [mv_hasRun, mv_thrown, mv_thrownAt, .ref m1, .ref m2, mv_lanes, mv_lengths, mv_cells, mv_state])), (m1, .inl (cI, 6, .inl (ov mf1 6 0))), (m2, .inl (cI, 6, .inl (ov mf2 6 (-1))))]) [0, 1, 2, 3, 4, 5, 6, 7, 8] rfl
            have hD9 := hD.sub (ws' := [(xh, .inr (4, [xg_program, .ref lh, .ref mh, xg_lastStatus])), (lh, .inr (1, [.ref fh, ln_ahead, ln_isOld, ln_isReached, ln_mayThrow, ln_gatheredAny, ln_gatheredLeast, ln_gatheredGreatest])), (fh, .inr (0, [.int 1, .ref f1, .ref f2, fe_sites, .ref f4, fe_known, fe_lanes, fe_shortest, fe_longest, fe_leastAt, fe_greatestAt])), (f1, .inl (cI, 6, .inl (ov fl 6 0))), (f2, .inl (cI, 6, .inl (ov fg 6 0))), (f4, .inl (cZ, 6, .inl (ov fm 6 1))), (mh, .inr (2, [mv_hasRun, mv_thrown, mv_thrownAt, .ref m1, .ref m2, mv_lanes, mv_lengths, mv_cells, mv_state])), (m1, .inl (cI, 6, .inl (ov mf1 6 0))), (m2, .inl (cI, 6, .inl (ov mf2 6 (-1))))]) [0, 1, 2, 3, 4, 5, 6, 7, 8] (by decide) rfl
            exact W.zret (v := 1) (ty := .boolean) hx hb hr rfl (fun t ht hW => ⟨⟨1, (fun _ => 0), rfl, rfl, by rw [ht]; exact hP9, va_K.moved hW.alike hK, hD9⟩, hS.F ht⟩) hS.2.2 dX4_endHolds_104
          · exact absurd (by decide) c_3
        · -- once
          replace hP : va_P (dC, dI) vwCl [(xh, .inr (4, [xg_program, .ref lh, .ref mh, xg_lastStatus])), (lh, .inr (1, [.ref fh, ln_ahead, ln_isOld, ln_isReached, ln_mayThrow, ln_gatheredAny, ln_gatheredLeast, ln_gatheredGreatest])), (fh, .inr (0, [.int 1, .ref f1, .ref f2, fe_sites, .ref f4, fe_known, fe_lanes, fe_shortest, fe_longest, fe_leastAt, fe_greatestAt])), (f1, .inl (cI, 6, .inl (ov fl 6 0))), (f2, .inl (cI, 6, .inl (ov fg 6 0))), (f4, .inl (cZ, 6, .inl (ov fm 6 1))), (mh, .inr (2, [mv_hasRun, mv_thrown, mv_thrownAt, .ref m1, .ref m2, mv_lanes, mv_lengths, mv_cells, mv_state])), (m1, .inl (cI, 6, .inl (ov mf1 6 0))), (m2, .inl (cI, 6, .inl (ov mf2 6 (-1))))] H_81 := hP1
          replace hD : va_D A [(xh, .inr (4, [xg_program, .ref lh, .ref mh, xg_lastStatus])), (lh, .inr (1, [.ref fh, ln_ahead, ln_isOld, ln_isReached, ln_mayThrow, ln_gatheredAny, ln_gatheredLeast, ln_gatheredGreatest])), (fh, .inr (0, [.int 1, .ref f1, .ref f2, fe_sites, .ref f4, fe_known, fe_lanes, fe_shortest, fe_longest, fe_leastAt, fe_greatestAt])), (f1, .inl (cI, 6, .inl (ov fl 6 0))), (f2, .inl (cI, 6, .inl (ov fg 6 0))), (f4, .inl (cZ, 6, .inl (ov fm 6 1))), (mh, .inr (2, [mv_hasRun, mv_thrown, mv_thrownAt, .ref m1, .ref m2, mv_lanes, mv_lengths, mv_cells, mv_state])), (m1, .inl (cI, 6, .inl (ov mf1 6 0))), (m2, .inl (cI, 6, .inl (ov mf2 6 (-1))))] := hD1
          replace hS := hS1
          clear hP1 hD1 hS1
          replace hl : lv_has ls1 2 [(1, .int (nI i81)), (0, .ref xh)] := hl1
          clear hl1
          refine lv_iload_n hx hb dX4_endHolds_81 rfl (lv_at hl 0 rfl) ?_
          refine lv_bipush (v := 6) hx hb dX4_endHolds_82 (by decide) ?_
          refine lv_icmp_ge (tgt := 103) hx hb dX4_endHolds_84 (by decide) (fun c_4 => ?_) (fun c_4 => ?_)
          · exact absurd c_4 (nI_ge hlt_i81 (by decide))
          · -- on
            refine lv_aload_n hx hb dX4_endHolds_87 rfl (lv_at hl 1 rfl) ?_
            refine lv_iload_n hx hb dX4_endHolds_88 rfl (lv_at hl 0 rfl) ?_
            have hPc := hP.sub (ws' := [(xh, .inr (4, [xg_program, .ref lh, .ref mh, xg_lastStatus])), (lh, .inr (1, [.ref fh, ln_ahead, ln_isOld, ln_isReached, ln_mayThrow, ln_gatheredAny, ln_gatheredLeast, ln_gatheredGreatest])), (fh, .inr (0, [.int 1, .ref f1, .ref f2, fe_sites, .ref f4, fe_known, fe_lanes, fe_shortest, fe_longest, fe_leastAt, fe_greatestAt])), (f4, .inl (cZ, 6, .inl (ov fm 6 1))), (mh, .inr (2, [mv_hasRun, mv_thrown, mv_thrownAt, .ref m1, .ref m2, mv_lanes, mv_lengths, mv_cells, mv_state])), (m2, .inl (cI, 6, .inl (ov mf2 6 (-1))))]) [0, 1, 2, 5, 6, 8] rfl
            have hDc := hD.sub (ws' := [(xh, .inr (4, [xg_program, .ref lh, .ref mh, xg_lastStatus])), (lh, .inr (1, [.ref fh, ln_ahead, ln_isOld, ln_isReached, ln_mayThrow, ln_gatheredAny, ln_gatheredLeast, ln_gatheredGreatest])), (fh, .inr (0, [.int 1, .ref f1, .ref f2, fe_sites, .ref f4, fe_known, fe_lanes, fe_shortest, fe_longest, fe_leastAt, fe_greatestAt])), (f4, .inl (cZ, 6, .inl (ov fm 6 1))), (mh, .inr (2, [mv_hasRun, mv_thrown, mv_thrownAt, .ref m1, .ref m2, mv_lanes, mv_lengths, mv_cells, mv_state])), (m2, .inl (cI, 6, .inl (ov mf2 6 (-1))))]) [0, 1, 2, 5, 6, 8] (by decide) rfl
            have hFc := va_free (wc := [(xh, .inr (4, [xg_program, .ref lh, .ref mh, xg_lastStatus])), (lh, .inr (1, [.ref fh, ln_ahead, ln_isOld, ln_isReached, ln_mayThrow, ln_gatheredAny, ln_gatheredLeast, ln_gatheredGreatest])), (fh, .inr (0, [.int 1, .ref f1, .ref f2, fe_sites, .ref f4, fe_known, fe_lanes, fe_shortest, fe_longest, fe_leastAt, fe_greatestAt])), (f4, .inl (cZ, 6, .inl (ov fm 6 1))), (mh, .inr (2, [mv_hasRun, mv_thrown, mv_thrownAt, .ref m1, .ref m2, mv_lanes, mv_lengths, mv_cells, mv_state])), (m2, .inl (cI, 6, .inl (ov mf2 6 (-1))))]) hD hS hA [0, 1, 2, 5, 6, 8] rfl
            refine va_calli (va_runV (As := [.int (nI i81)]) (rest := []) ⟨hx, hb, hml, hown, hts⟩ (c_X4_referenceHolds l dC dI cI cJ cZ xh lh fh f4 mh m2 xg_program xg_lastStatus ln_ahead ln_isOld ln_isReached ln_mayThrow ln_gatheredAny ln_gatheredLeast ln_gatheredGreatest (.int 1) (.ref f1) (.ref f2) fe_sites fe_known fe_lanes fe_shortest fe_longest fe_leastAt fe_greatestAt mv_hasRun mv_thrown mv_thrownAt (.ref m1) mv_lanes mv_lengths mv_cells mv_state fm mf2 (nI i81) H_81.size (v6_nI (by omega))) (cwV 1 hts g_X4_endHolds_X4_referenceHolds_197 rfl rfl rfl (by decide +kernel) ⟨Nat.le_of_ble_eq_true rfl, Nat.le_of_ble_eq_true rfl⟩) ⟨cPre_blind, va_recv hK hPc (ci := 4) (q0 := 0) rfl rfl, cPre_of hK hN hPc hDc⟩ rfl rfl hl.1 rfl (lv_room (Nat.le_of_ble_eq_true rfl)) dX4_endHolds_89 ⟨Nat.le_of_ble_eq_true rfl, Nat.le_of_ble_eq_true rfl⟩) hS (fun q _ h => hFc q h) hFc (fun r_5 u_5 t_5 H_5 locs_5 ht hvm hw_5 hB hz1 hk1 hS1 => ?_)
            obtain ⟨hP1, hK1, hD1⟩ := hB
            rw [ht] at hP1
            obtain ⟨hP2, hD2⟩ := va_join (wr := [(f1, .inl (cI, 6, .inl (ov fl 6 0))), (f2, .inl (cI, 6, .inl (ov fg 6 0))), (m1, .inl (cI, 6, .inl (ov mf1 6 0)))]) (w1 := [(xh, .inr (4, [xg_program, .ref lh, .ref mh, xg_lastStatus])), (lh, .inr (1, [.ref fh, ln_ahead, ln_isOld, ln_isReached, ln_mayThrow, ln_gatheredAny, ln_gatheredLeast, ln_gatheredGreatest])), (fh, .inr (0, [.int 1, .ref f1, .ref f2, fe_sites, .ref f4, fe_known, fe_lanes, fe_shortest, fe_longest, fe_leastAt, fe_greatestAt])), (f4, .inl (cZ, 6, .inl (ov fm 6 1))), (mh, .inr (2, [mv_hasRun, mv_thrown, mv_thrownAt, .ref m1, .ref m2, mv_lanes, mv_lengths, mv_cells, mv_state])), (m2, .inl (cI, 6, .inl (ov mf2 6 (-1))))]) hP hD [0, 1, 2, 5, 6, 8] [3, 4, 7] rfl rfl (by decide) (by decide) hk1 hFc hP1 hD1
            clear hPc hDc hFc hP1 hD1 hK1 hk1 hz1 hvm ht
            replace hP : va_P (dC, dI) vwCl [(f1, .inl (cI, 6, .inl (ov fl 6 0))), (f2, .inl (cI, 6, .inl (ov fg 6 0))), (m1, .inl (cI, 6, .inl (ov mf1 6 0))), (xh, .inr (4, [xg_program, .ref lh, .ref mh, xg_lastStatus])), (lh, .inr (1, [.ref fh, ln_ahead, ln_isOld, ln_isReached, ln_mayThrow, ln_gatheredAny, ln_gatheredLeast, ln_gatheredGreatest])), (fh, .inr (0, [.int 1, .ref f1, .ref f2, fe_sites, .ref f4, fe_known, fe_lanes, fe_shortest, fe_longest, fe_leastAt, fe_greatestAt])), (f4, .inl (cZ, 6, .inl (ov fm 6 1))), (mh, .inr (2, [mv_hasRun, mv_thrown, mv_thrownAt, .ref m1, .ref m2, mv_lanes, mv_lengths, mv_cells, mv_state])), (m2, .inl (cI, 6, .inl (ov mf2 6 (-1))))] H_5 := hP2
            replace hD : va_D A [(f1, .inl (cI, 6, .inl (ov fl 6 0))), (f2, .inl (cI, 6, .inl (ov fg 6 0))), (m1, .inl (cI, 6, .inl (ov mf1 6 0))), (xh, .inr (4, [xg_program, .ref lh, .ref mh, xg_lastStatus])), (lh, .inr (1, [.ref fh, ln_ahead, ln_isOld, ln_isReached, ln_mayThrow, ln_gatheredAny, ln_gatheredLeast, ln_gatheredGreatest])), (fh, .inr (0, [.int 1, .ref f1, .ref f2, fe_sites, .ref f4, fe_known, fe_lanes, fe_shortest, fe_longest, fe_leastAt, fe_greatestAt])), (f4, .inl (cZ, 6, .inl (ov fm 6 1))), (mh, .inr (2, [mv_hasRun, mv_thrown, mv_thrownAt, .ref m1, .ref m2, mv_lanes, mv_lengths, mv_cells, mv_state])), (m2, .inl (cI, 6, .inl (ov mf2 6 (-1))))] := hD2
            replace hS := hS1
            clear hP2 hD2 hS1
            refine my_topi (y := 1) hw_5 ?_
            refine lv_if_ne (tgt := 97) hx hb dX4_endHolds_92 (by decide) (fun c_6 => ?_) (fun c_6 => ?_)
            · -- on
              refine lv_iinc (v := nI (i81 + 1)) (lv' := [(1, .int (nI (i81 + 1))), (0, .ref xh)]) hx hb dX4_endHolds_97 hl (k := 0) rfl (by rw [show Int32.ofInt 1 = (1 : Int32) from by decide]; exact nI_1 _) (by decide) rfl (fun ls1 hl1 => ?_)
              replace hl := hl1; clear hl1
              refine lv_goto (tgt := 81) hx hb dX4_endHolds_100 (by decide) ?_
              exact ih_81 _ _ _ (hP.sub [3, 4, 5, 0, 1, 6, 7, 2, 8] rfl) (hD.sub [3, 4, 5, 0, 1, 6, 7, 2, 8] (by decide) rfl) hS (lv_sub hl [0, 1] rfl)
            · exact absurd c_6 (by decide)
      · exact absurd (by decide) c_2
    · -- once
      replace hP : va_P (dC, dI) vwCl [(xh, .inr (4, [xg_program, .ref lh, .ref mh, xg_lastStatus])), (lh, .inr (1, [.ref fh, ln_ahead, ln_isOld, ln_isReached, ln_mayThrow, ln_gatheredAny, ln_gatheredLeast, ln_gatheredGreatest])), (fh, .inr (0, [.int 1, .ref f1, .ref f2, fe_sites, .ref f4, fe_known, fe_lanes, fe_shortest, fe_longest, fe_leastAt, fe_greatestAt])), (f1, .inl (cI, 6, .inl (ov fl 6 0))), (f2, .inl (cI, 6, .inl (ov fg 6 0))), (f4, .inl (cZ, 6, .inl (ov fm 6 1))), (mh, .inr (2, [mv_hasRun, mv_thrown, mv_thrownAt, .ref m1, .ref m2, mv_lanes, mv_lengths, mv_cells, mv_state])), (m1, .inl (cI, 6, .inl (ov mf1 6 0))), (m2, .inl (cI, 6, .inl (ov mf2 6 (-1))))] H_17 := hP1
      replace hD : va_D A [(xh, .inr (4, [xg_program, .ref lh, .ref mh, xg_lastStatus])), (lh, .inr (1, [.ref fh, ln_ahead, ln_isOld, ln_isReached, ln_mayThrow, ln_gatheredAny, ln_gatheredLeast, ln_gatheredGreatest])), (fh, .inr (0, [.int 1, .ref f1, .ref f2, fe_sites, .ref f4, fe_known, fe_lanes, fe_shortest, fe_longest, fe_leastAt, fe_greatestAt])), (f1, .inl (cI, 6, .inl (ov fl 6 0))), (f2, .inl (cI, 6, .inl (ov fg 6 0))), (f4, .inl (cZ, 6, .inl (ov fm 6 1))), (mh, .inr (2, [mv_hasRun, mv_thrown, mv_thrownAt, .ref m1, .ref m2, mv_lanes, mv_lengths, mv_cells, mv_state])), (m1, .inl (cI, 6, .inl (ov mf1 6 0))), (m2, .inl (cI, 6, .inl (ov mf2 6 (-1))))] := hD1
      replace hS := hS1
      clear hP1 hD1 hS1
      replace hl : lv_has ls1 2 [(1, .int (nI i17)), (0, .ref xh)] := hl1
      clear hl1
      refine lv_iload_n hx hb dX4_endHolds_17 rfl (lv_at hl 0 rfl) ?_
      refine lv_bipush (v := 6) hx hb dX4_endHolds_18 (by decide) ?_
      refine lv_icmp_ge (tgt := 79) hx hb dX4_endHolds_20 (by decide) (fun c_7 => ?_) (fun c_7 => ?_)
      · exact absurd c_7 (nI_ge hlt_i17 (by decide))
      · -- on
        refine lv_aload_n hx hb dX4_endHolds_23 rfl (lv_at hl 1 rfl) ?_
        refine va_get (D := (dC, dI)) (ci := 4) (v := .ref mh) (C := RX4) (T := TX4) (N := 4) hx hb hts inc_X4_endHolds_X4 hown hK hP 0 rfl rfl 2 (by decide) (hts (.fieldLink RX4 26 "ArraySegments" "machine" "LArraySegments$Machine;") (List.mem_of_getElem? (i := 9) rfl)) (fun _ h9 => h9) rfl dX4_endHolds_24 ?_
        refine va_get (D := (dC, dI)) (ci := 2) (v := .ref m1) (C := RX2) (T := TX2) (N := 9) hx hb hts inc_X4_endHolds_X2 hown hK hP 6 rfl rfl 3 (by decide) (hts (.fieldLink RX4 156 "ArraySegments$Machine" "values" "[I") (List.mem_of_getElem? (i := 12) rfl)) (fun _ h9 => h9) rfl dX4_endHolds_27 ?_
        refine lv_iload_n hx hb dX4_endHolds_30 rfl (lv_at hl 0 rfl) ?_
        refine va_iald hx hb hK hP 7 0 rfl rfl (vp_in_nI (by omega) (by decide)) dX4_endHolds_31 ?_
        refine my_topi (y := 0) (ov_nI mf1 0 (by omega) (by decide)) ?_
        refine lv_aload_n hx hb dX4_endHolds_32 rfl (lv_at hl 1 rfl) ?_
        refine va_get (D := (dC, dI)) (ci := 4) (v := .ref lh) (C := RX4) (T := TX4) (N := 4) hx hb hts inc_X4_endHolds_X4 hown hK hP 0 rfl rfl 1 (by decide) (hts (.fieldLink RX4 19 "ArraySegments" "flow" "LArraySegments$Flow;") (List.mem_of_getElem? (i := 1) rfl)) (fun _ h9 => h9) rfl dX4_endHolds_33 ?_
        refine va_get (D := (dC, dI)) (ci := 1) (v := .ref fh) (C := RX1) (T := TX1) (N := 8) hx hb hts inc_X4_endHolds_X1 hown hK hP 1 rfl rfl 0 (by decide) (hts (.fieldLink RX4 70 "ArraySegments$Flow" "now" "LArraySegments$Facts;") (List.mem_of_getElem? (i := 2) rfl)) (fun _ h9 => h9) rfl dX4_endHolds_36 ?_
        refine va_get (D := (dC, dI)) (ci := 0) (v := .ref f1) (C := RX0) (T := TX0) (N := 11) hx hb hts inc_X4_endHolds_X0 hown hK hP 2 rfl rfl 1 (by decide) (hts (.fieldLink RX4 86 "ArraySegments$Facts" "least" "[I") (List.mem_of_getElem? (i := 13) rfl)) (fun _ h9 => h9) rfl dX4_endHolds_39 ?_
        refine lv_iload_n hx hb dX4_endHolds_42 rfl (lv_at hl 0 rfl) ?_
        refine va_iald hx hb hK hP 3 0 rfl rfl (vp_in_nI (by omega) (by decide)) dX4_endHolds_43 ?_
        refine my_topi (y := 0) (ov_nI fl 0 (by omega) (by decide)) ?_
        refine lv_icmp_lt (tgt := 71) hx hb dX4_endHolds_44 (by decide) (fun c_8 => ?_) (fun c_8 => ?_)
        · exact absurd c_8 (by decide)
        · -- on
          refine lv_aload_n hx hb dX4_endHolds_47 rfl (lv_at hl 1 rfl) ?_
          refine va_get (D := (dC, dI)) (ci := 4) (v := .ref mh) (C := RX4) (T := TX4) (N := 4) hx hb hts inc_X4_endHolds_X4 hown hK hP 0 rfl rfl 2 (by decide) (hts (.fieldLink RX4 26 "ArraySegments" "machine" "LArraySegments$Machine;") (List.mem_of_getElem? (i := 9) rfl)) (fun _ h9 => h9) rfl dX4_endHolds_48 ?_
          refine va_get (D := (dC, dI)) (ci := 2) (v := .ref m1) (C := RX2) (T := TX2) (N := 9) hx hb hts inc_X4_endHolds_X2 hown hK hP 6 rfl rfl 3 (by decide) (hts (.fieldLink RX4 156 "ArraySegments$Machine" "values" "[I") (List.mem_of_getElem? (i := 12) rfl)) (fun _ h9 => h9) rfl dX4_endHolds_51 ?_
          refine lv_iload_n hx hb dX4_endHolds_54 rfl (lv_at hl 0 rfl) ?_
          refine va_iald hx hb hK hP 7 0 rfl rfl (vp_in_nI (by omega) (by decide)) dX4_endHolds_55 ?_
          refine my_topi (y := 0) (ov_nI mf1 0 (by omega) (by decide)) ?_
          refine lv_aload_n hx hb dX4_endHolds_56 rfl (lv_at hl 1 rfl) ?_
          refine va_get (D := (dC, dI)) (ci := 4) (v := .ref lh) (C := RX4) (T := TX4) (N := 4) hx hb hts inc_X4_endHolds_X4 hown hK hP 0 rfl rfl 1 (by decide) (hts (.fieldLink RX4 19 "ArraySegments" "flow" "LArraySegments$Flow;") (List.mem_of_getElem? (i := 1) rfl)) (fun _ h9 => h9) rfl dX4_endHolds_57 ?_
          refine va_get (D := (dC, dI)) (ci := 1) (v := .ref fh) (C := RX1) (T := TX1) (N := 8) hx hb hts inc_X4_endHolds_X1 hown hK hP 1 rfl rfl 0 (by decide) (hts (.fieldLink RX4 70 "ArraySegments$Flow" "now" "LArraySegments$Facts;") (List.mem_of_getElem? (i := 2) rfl)) (fun _ h9 => h9) rfl dX4_endHolds_60 ?_
          refine va_get (D := (dC, dI)) (ci := 0) (v := .ref f2) (C := RX0) (T := TX0) (N := 11) hx hb hts inc_X4_endHolds_X0 hown hK hP 2 rfl rfl 2 (by decide) (hts (.fieldLink RX4 89 "ArraySegments$Facts" "greatest" "[I") (List.mem_of_getElem? (i := 14) rfl)) (fun _ h9 => h9) rfl dX4_endHolds_63 ?_
          refine lv_iload_n hx hb dX4_endHolds_66 rfl (lv_at hl 0 rfl) ?_
          refine va_iald hx hb hK hP 4 0 rfl rfl (vp_in_nI (by omega) (by decide)) dX4_endHolds_67 ?_
          refine my_topi (y := 0) (ov_nI fg 0 (by omega) (by decide)) ?_
          refine lv_icmp_le (tgt := 73) hx hb dX4_endHolds_68 (by decide) (fun c_9 => ?_) (fun c_9 => ?_)
          · -- on
            refine lv_iinc (v := nI (i17 + 1)) (lv' := [(1, .int (nI (i17 + 1))), (0, .ref xh)]) hx hb dX4_endHolds_73 hl (k := 0) rfl (by rw [show Int32.ofInt 1 = (1 : Int32) from by decide]; exact nI_1 _) (by decide) rfl (fun ls1 hl1 => ?_)
            replace hl := hl1; clear hl1
            refine lv_goto (tgt := 17) hx hb dX4_endHolds_76 (by decide) ?_
            exact ih_17 _ _ _ (hP.sub [0, 1, 2, 3, 4, 5, 6, 7, 8] rfl) (hD.sub [0, 1, 2, 3, 4, 5, 6, 7, 8] (by decide) rfl) hS (lv_sub hl [0, 1] rfl)
          · exact absurd (by decide) c_9
  · exact absurd c_1 (by decide)

def w_X4_holds : List Cond := .code yX4_holds cX4_holds 4 (some .int) :: ([.fieldLink RX4 19 "ArraySegments" "flow" "LArraySegments$Flow;", .fieldLink RX4 10 "ArraySegments" "program" "LArraySegments$Program;", .methodLink RX4 59 yX1_follow, .instanceMethod yX1_follow, .selects RX1 yX1_follow yX1_follow, .initialized RX1, .code yX1_follow cX1_follow 5 none, .fieldLink RX1 21 "ArraySegments$Flow" "isOld" "Z", .fieldLink RX1 12 "ArraySegments$Flow" "now" "LArraySegments$Facts;", .methodLink RX1 43 yX0_begin, .instanceMethod yX0_begin, .selects RX0 yX0_begin yX0_begin, .initialized RX0, .code yX0_begin cX0_begin 2 none, .fieldLink RX0 9 "ArraySegments$Facts" "isReached" "Z", .fieldLink RX0 30 "ArraySegments$Facts" "known" "[Z", .fieldLink RX0 22 "ArraySegments$Facts" "sites" "[J", .fieldLink RX0 26 "ArraySegments$Facts" "maybeNull" "[Z", .methodLink RX0 48 yX0_setSpan, .instanceMethod yX0_setSpan, .selects RX0 yX0_setSpan yX0_setSpan, .code yX0_setSpan cX0_setSpan 4 none, .fieldLink RX0 15 "ArraySegments$Facts" "least" "[I", .fieldLink RX0 19 "ArraySegments$Facts" "greatest" "[I", .methodLink RX1 46 yX3_hasAct, .instanceMethod yX3_hasAct, .selects RX3 yX3_hasAct yX3_hasAct, .initialized RX3, .code yX3_hasAct cX3_hasAct 2 (some .boolean), .fieldLink RX3 19 "ArraySegments$Program" "count" "I", .fieldLink RX1 25 "ArraySegments$Flow" "isReached" "[Z", .fieldLink RX1 29 "ArraySegments$Flow" "mayThrow" "[I", .fieldLink RX4 26 "ArraySegments" "machine" "LArraySegments$Machine;", .methodLink RX4 146 yX2_perform, .instanceMethod yX2_perform, .selects RX2 yX2_perform yX2_perform, .initialized RX2, .code yX2_perform cX2_perform 7 none, .methodLink RX2 42 yX2_forget, .instanceMethod yX2_forget, .selects RX2 yX2_forget yX2_forget, .code yX2_forget cX2_forget 2 none, .fieldLink RX2 9 "ArraySegments$Machine" "hasRun" "Z", .fieldLink RX2 15 "ArraySegments$Machine" "thrown" "I", .fieldLink RX2 19 "ArraySegments$Machine" "thrownAt" "I", .fieldLink RX2 26 "ArraySegments$Machine" "meant" "[I", .fieldLink RX2 22 "ArraySegments$Machine" "values" "[I", .fieldLink RX2 38 "ArraySegments$Machine" "state" "J", .fieldLink RX2 45 "ArraySegments$Program" "count" "I", .fieldLink RX4 150 "ArraySegments$Machine" "thrown" "I", .methodLink RX4 171 yX4_endHolds, .instanceMethod yX4_endHolds, .selects RX4 yX4_endHolds yX4_endHolds, .initialized RX4, .code yX4_endHolds cX4_endHolds 2 (some .boolean), .fieldLink RX4 70 "ArraySegments$Flow" "now" "LArraySegments$Facts;", .fieldLink RX4 74 "ArraySegments$Facts" "isReached" "Z", .methodLink RX4 197 yX4_referenceHolds, .instanceMethod yX4_referenceHolds, .selects RX4 yX4_referenceHolds yX4_referenceHolds, .code yX4_referenceHolds cX4_referenceHolds 3 (some .boolean), .fieldLink RX4 159 "ArraySegments$Machine" "meant" "[I", .fieldLink RX4 108 "ArraySegments$Facts" "maybeNull" "[Z", .fieldLink RX4 156 "ArraySegments$Machine" "values" "[I", .fieldLink RX4 86 "ArraySegments$Facts" "least" "[I", .fieldLink RX4 89 "ArraySegments$Facts" "greatest" "[I"] ++ wsX40 ++ wsX10 ++ wsX00 ++ wsX30 ++ wsX20)
theorem inc_X4_holds_X2 : ∀ w ∈ wsX20, w ∈ w_X4_holds := fun _ h => List.mem_cons_of_mem _ (List.mem_append_right _ h)
theorem inc_X4_holds_X4 : ∀ w ∈ wsX40, w ∈ w_X4_holds := fun _ h => List.mem_cons_of_mem _ (List.mem_append_left _ (List.mem_append_left _ (List.mem_append_left _ (List.mem_append_left _ (List.mem_append_right _ h)))))
set_option maxRecDepth 20000 in
theorem g_X4_holds_X1_follow_59 : GoodIn w_X4_holds (wsV RX4 59 RX1 yX1_follow w_X1_follow) := goodIn_r _ [3, 4, 5, 6, 7, 8, 9, 10, 11, 12, 13, 14, 15, 16, 17, 18, 19, 20, 21, 22, 23, 24, 25, 26, 27, 28, 29, 30, 31, 32, 71, 72, 73, 74, 75, 76, 77, 78, 79, 80, 81, 82, 83, 84, 85, 86, 87, 88, 89, 90, 91, 92] (by decide +kernel) (by decide +kernel)
set_option maxRecDepth 20000 in
theorem g_X4_holds_X2_perform_146 : GoodIn w_X4_holds (wsV RX4 146 RX2 yX2_perform w_X2_perform) := goodIn_r _ [34, 35, 36, 37, 38, 39, 40, 41, 37, 42, 43, 44, 45, 46, 47, 48, 49, 93, 94, 95, 96, 97, 98, 99, 100, 101, 90, 91, 92] (by decide +kernel) (by decide +kernel)
set_option maxRecDepth 20000 in
theorem g_X4_holds_X4_endHolds_171 : GoodIn w_X4_holds (wsV RX4 171 RX4 yX4_endHolds w_X4_endHolds) := goodIn_r _ [51, 52, 53, 54, 55, 1, 56, 57, 58, 59, 60, 54, 61, 33, 62, 63, 64, 65, 66, 67, 68, 69, 70, 71, 72, 73, 74, 75, 76, 77, 78, 79, 80, 81, 82, 83, 84, 85, 86, 87, 88, 89, 93, 94, 95, 96, 97, 98, 99, 100, 101] (by decide +kernel) (by decide +kernel)
abbrev pw_X4_holds (cI cJ cZ : ClassId) (xh : Nat) (xv_lastStatus : Value) (lh : Nat) (l3 : Nat) (l4 : Nat) (lv_ahead : Value) (lv_gatheredAny : Value) (lv_gatheredLeast : Value) (lv_gatheredGreatest : Value) (fh : Nat) (f1 : Nat) (f2 : Nat) (f3 : Nat) (f4 : Nat) (f5 : Nat) (fr : Int32) (fw_lanes : Value) (fw_shortest : Value) (fw_longest : Value) (fw_leastAt : Value) (fw_greatestAt : Value) (fl : Nat → Int32) (fg : Nat → Int32) (fs : Nat → Int64) (fm : Nat → Int32) (fk : Nat → Int32) (lr : Nat → Int32) (lm : Nat → Int32) (ph : Nat) (pv_rows : Value) (pv_dropped : Value) (mh : Nat) (m1 : Nat) (m2 : Nat) (mv_hasRun : Value) (mv_thrown : Value) (mv_thrownAt : Value) (mv_lanes : Value) (mv_lengths : Value) (mv_cells : Value) (mv_state : Value) (mf1 : Nat → Int32) (mf2 : Nat → Int32) (seed : Int64) : va_W := [(xh, .inr (4, [.ref ph, .ref lh, .ref mh, xv_lastStatus])), (lh, .inr (1, [.ref fh, lv_ahead, .int 1, .ref l3, .ref l4, lv_gatheredAny, lv_gatheredLeast, lv_gatheredGreatest])), (fh, .inr (0, [.int fr, .ref f1, .ref f2, .ref f3, .ref f4, .ref f5, fw_lanes, fw_shortest, fw_longest, fw_leastAt, fw_greatestAt])), (f1, .inl (cI, 6, .inl fl)), (f2, .inl (cI, 6, .inl fg)), (f3, .inl (cJ, 6, .inr (.inl fs))), (f4, .inl (cZ, 6, .inl fm)), (f5, .inl (cZ, 40, .inl fk)), (l3, .inl (cZ, 40, .inl lr)), (l4, .inl (cI, 40, .inl lm)), (ph, .inr (3, [pv_rows, pv_dropped, .int 0])), (mh, .inr (2, [mv_hasRun, mv_thrown, mv_thrownAt, .ref m1, .ref m2, mv_lanes, mv_lengths, mv_cells, mv_state])), (m1, .inl (cI, 6, .inl mf1)), (m2, .inl (cI, 6, .inl mf2))]
set_option maxHeartbeats 4000000 in
set_option maxRecDepth 100000 in
theorem c_X4_holds (l : Launch) (dC : Nat → ClassId) (dI : Nat → Nat → Nat) (cI cJ cZ : ClassId) (xh : Nat) (xv_lastStatus : Value) (lh : Nat) (l3 : Nat) (l4 : Nat) (lv_ahead : Value) (lv_gatheredAny : Value) (lv_gatheredLeast : Value) (lv_gatheredGreatest : Value) (fh : Nat) (f1 : Nat) (f2 : Nat) (f3 : Nat) (f4 : Nat) (f5 : Nat) (fr : Int32) (fw_lanes : Value) (fw_shortest : Value) (fw_longest : Value) (fw_leastAt : Value) (fw_greatestAt : Value) (fl : Nat → Int32) (fg : Nat → Int32) (fs : Nat → Int64) (fm : Nat → Int32) (fk : Nat → Int32) (lr : Nat → Int32) (lm : Nat → Int32) (ph : Nat) (pv_rows : Value) (pv_dropped : Value) (mh : Nat) (m1 : Nat) (m2 : Nat) (mv_hasRun : Value) (mv_thrown : Value) (mv_thrownAt : Value) (mv_lanes : Value) (mv_lengths : Value) (mv_cells : Value) (mv_state : Value) (mf1 : Nat → Int32) (mf2 : Nat → Int32) (seed : Int64) (sz : Nat) : Met l yX4_holds w_X4_holds ({ frames := 3, cells := 0, slots := 0, locals := 68 }) (va_Pc [.ref xh, .long seed] (cPre dC dI cI cJ cZ sz (pw_X4_holds cI cJ cZ xh xv_lastStatus lh l3 l4 lv_ahead lv_gatheredAny lv_gatheredLeast lv_gatheredGreatest fh f1 f2 f3 f4 f5 fr fw_lanes fw_shortest fw_longest fw_leastAt fw_greatestAt fl fg fs fm fk lr lm ph pv_rows pv_dropped mh m1 m2 mv_hasRun mv_thrown mv_thrownAt mv_lanes mv_lengths mv_cells mv_state mf1 mf2 seed))) (va_Qi (fun (r : Int32) (u : Nat → Nat) => r = 1) (fun (u : Nat → Nat) => cPost dC dI cI cJ cZ (va_A (pw_X4_holds cI cJ cZ xh xv_lastStatus lh l3 l4 lv_ahead lv_gatheredAny lv_gatheredLeast lv_gatheredGreatest fh f1 f2 f3 f4 f5 fr fw_lanes fw_shortest fw_longest fw_leastAt fw_greatestAt fl fg fs fm fk lr lm ph pv_rows pv_dropped mh m1 m2 mv_hasRun mv_thrown mv_thrownAt mv_lanes mv_lengths mv_cells mv_state mf1 mf2 seed) sz) []) (va_A (pw_X4_holds cI cJ cZ xh xv_lastStatus lh l3 l4 lv_ahead lv_gatheredAny lv_gatheredLeast lv_gatheredGreatest fh f1 f2 f3 f4 f5 fr fw_lanes fw_shortest fw_longest fw_leastAt fw_greatestAt fl fg fs fm fk lr lm ph pv_rows pv_dropped mh m1 m2 mv_hasRun mv_thrown mv_thrownAt mv_lanes mv_lengths mv_cells mv_state mf1 mf2 seed) sz)) 0 0 (va_A (pw_X4_holds cI cJ cZ xh xv_lastStatus lh l3 l4 lv_ahead lv_gatheredAny lv_gatheredLeast lv_gatheredGreatest fh f1 f2 f3 f4 f5 fr fw_lanes fw_shortest fw_longest fw_leastAt fw_greatestAt fl fg fs fm fk lr lm ph pv_rows pv_dropped mh m1 m2 mv_hasRun mv_thrown mv_thrownAt mv_lanes mv_lengths mv_cells mv_state mf1 mf2 seed) sz) := by
  refine Met.ofW (cc := cX4_holds) (maxL := 4) (ret := (some .int)) (by decide) rfl ?_
  intro p e s m args below meth c s₁ B hml hv
  obtain ⟨rfl, hsz, hP, hK, hD0, hN⟩ := hv
  have hx := B.exec
  have hb := B.bytes
  have hr := B.returns
  have hts := atoms_spec (ws := w_X4_holds) B.pre
  have hown : s.vm.findClass RX4 = some m.cls := findClass_of_methodNamed B.named
  have hlocks := B.notSynchronized
  subst hsz
  have hD := hD0.self (sz := s.heap.size)
  generalize hAe : va_A (pw_X4_holds cI cJ cZ xh xv_lastStatus lh l3 l4 lv_ahead lv_gatheredAny lv_gatheredLeast lv_gatheredGreatest fh f1 f2 f3 f4 f5 fr fw_lanes fw_shortest fw_longest fw_leastAt fw_greatestAt fl fg fs fm fk lr lm ph pv_rows pv_dropped mh m1 m2 mv_hasRun mv_thrown mv_thrownAt mv_lanes mv_lengths mv_cells mv_state mf1 mf2 seed) s.heap.size = A at hD ⊢
  have hA : ∀ q : Nat, s.heap.size ≤ q → A q := fun q h => by rw [← hAe]; exact Or.inr h
  clear hAe hD0
  have hS : va_S A s.heap s.heap [] := va_S.rf
  replace hP : va_P (dC, dI) vwCl [(xh, .inr (4, [.ref ph, .ref lh, .ref mh, xv_lastStatus])), (lh, .inr (1, [.ref fh, lv_ahead, .int 1, .ref l3, .ref l4, lv_gatheredAny, lv_gatheredLeast, lv_gatheredGreatest])), (fh, .inr (0, [.int fr, .ref f1, .ref f2, .ref f3, .ref f4, .ref f5, fw_lanes, fw_shortest, fw_longest, fw_leastAt, fw_greatestAt])), (f1, .inl (cI, 6, .inl fl)), (f2, .inl (cI, 6, .inl fg)), (f3, .inl (cJ, 6, .inr (.inl fs))), (f4, .inl (cZ, 6, .inl fm)), (f5, .inl (cZ, 40, .inl fk)), (l3, .inl (cZ, 40, .inl lr)), (l4, .inl (cI, 40, .inl lm)), (ph, .inr (3, [pv_rows, pv_dropped, .int 0])), (mh, .inr (2, [mv_hasRun, mv_thrown, mv_thrownAt, .ref m1, .ref m2, mv_lanes, mv_lengths, mv_cells, mv_state])), (m1, .inl (cI, 6, .inl mf1)), (m2, .inl (cI, 6, .inl mf2))] s.heap := hP
  replace hD : va_D A [(xh, .inr (4, [.ref ph, .ref lh, .ref mh, xv_lastStatus])), (lh, .inr (1, [.ref fh, lv_ahead, .int 1, .ref l3, .ref l4, lv_gatheredAny, lv_gatheredLeast, lv_gatheredGreatest])), (fh, .inr (0, [.int fr, .ref f1, .ref f2, .ref f3, .ref f4, .ref f5, fw_lanes, fw_shortest, fw_longest, fw_leastAt, fw_greatestAt])), (f1, .inl (cI, 6, .inl fl)), (f2, .inl (cI, 6, .inl fg)), (f3, .inl (cJ, 6, .inr (.inl fs))), (f4, .inl (cZ, 6, .inl fm)), (f5, .inl (cZ, 40, .inl fk)), (l3, .inl (cZ, 40, .inl lr)), (l4, .inl (cI, 40, .inl lm)), (ph, .inr (3, [pv_rows, pv_dropped, .int 0])), (mh, .inr (2, [mv_hasRun, mv_thrown, mv_thrownAt, .ref m1, .ref m2, mv_lanes, mv_lengths, mv_cells, mv_state])), (m1, .inl (cI, 6, .inl mf1)), (m2, .inl (cI, 6, .inl mf2))] := hD
  have hl := lv_entry ([.ref xh, .long seed]) (n := 4) (Nat.le_of_ble_eq_true rfl)
  rw [lg_entry_eq]
  generalize (lg_sl ([.ref xh, .long seed]) ++ List.replicate (4 - (lg_sl ([.ref xh, .long seed])).length) Slot.unset).toArray = ls at hl ⊢
  replace hl : lv_has ls 4 [(0, .ref xh), (1, .long seed)] := hl
  refine lv_aload_n hx hb dX4_holds_0 rfl (lv_at hl 0 rfl) ?_
  refine va_get (D := (dC, dI)) (ci := 4) (v := .ref lh) (C := RX4) (T := TX4) (N := 4) hx hb hts inc_X4_holds_X4 hown hK hP 0 rfl rfl 1 (by decide) (hts (.fieldLink RX4 19 "ArraySegments" "flow" "LArraySegments$Flow;") (List.mem_of_getElem? (i := 1) rfl)) (fun _ h9 => h9) rfl dX4_holds_1 ?_
  refine lv_aload_n hx hb dX4_holds_4 rfl (lv_at hl 0 rfl) ?_
  refine va_get (D := (dC, dI)) (ci := 4) (v := .ref ph) (C := RX4) (T := TX4) (N := 4) hx hb hts inc_X4_holds_X4 hown hK hP 0 rfl rfl 0 (by decide) (hts (.fieldLink RX4 10 "ArraySegments" "program" "LArraySegments$Program;") (List.mem_of_getElem? (i := 2) rfl)) (fun _ h9 => h9) rfl dX4_holds_5 ?_
  have hPc := hP.sub (ws' := [(lh, .inr (1, [.ref fh, lv_ahead, .int 1, .ref l3, .ref l4, lv_gatheredAny, lv_gatheredLeast, lv_gatheredGreatest])), (fh, .inr (0, [.int fr, .ref f1, .ref f2, .ref f3, .ref f4, .ref f5, fw_lanes, fw_shortest, fw_longest, fw_leastAt, fw_greatestAt])), (f1, .inl (cI, 6, .inl fl)), (f2, .inl (cI, 6, .inl fg)), (f3, .inl (cJ, 6, .inr (.inl fs))), (f4, .inl (cZ, 6, .inl fm)), (f5, .inl (cZ, 40, .inl fk)), (l3, .inl (cZ, 40, .inl lr)), (l4, .inl (cI, 40, .inl lm)), (ph, .inr (3, [pv_rows, pv_dropped, .int 0]))]) [1, 2, 3, 4, 5, 6, 7, 8, 9, 10] rfl
  have hDc := hD.sub (ws' := [(lh, .inr (1, [.ref fh, lv_ahead, .int 1, .ref l3, .ref l4, lv_gatheredAny, lv_gatheredLeast, lv_gatheredGreatest])), (fh, .inr (0, [.int fr, .ref f1, .ref f2, .ref f3, .ref f4, .ref f5, fw_lanes, fw_shortest, fw_longest, fw_leastAt, fw_greatestAt])), (f1, .inl (cI, 6, .inl fl)), (f2, .inl (cI, 6, .inl fg)), (f3, .inl (cJ, 6, .inr (.inl fs))), (f4, .inl (cZ, 6, .inl fm)), (f5, .inl (cZ, 40, .inl fk)), (l3, .inl (cZ, 40, .inl lr)), (l4, .inl (cI, 40, .inl lm)), (ph, .inr (3, [pv_rows, pv_dropped, .int 0]))]) [1, 2, 3, 4, 5, 6, 7, 8, 9, 10] (by decide) rfl
  have hFc := va_free (wc := [(lh, .inr (1, [.ref fh, lv_ahead, .int 1, .ref l3, .ref l4, lv_gatheredAny, lv_gatheredLeast, lv_gatheredGreatest])), (fh, .inr (0, [.int fr, .ref f1, .ref f2, .ref f3, .ref f4, .ref f5, fw_lanes, fw_shortest, fw_longest, fw_leastAt, fw_greatestAt])), (f1, .inl (cI, 6, .inl fl)), (f2, .inl (cI, 6, .inl fg)), (f3, .inl (cJ, 6, .inr (.inl fs))), (f4, .inl (cZ, 6, .inl fm)), (f5, .inl (cZ, 40, .inl fk)), (l3, .inl (cZ, 40, .inl lr)), (l4, .inl (cI, 40, .inl lm)), (ph, .inr (3, [pv_rows, pv_dropped, .int 0]))]) hD hS hA [1, 2, 3, 4, 5, 6, 7, 8, 9, 10] rfl
  refine va_callv (va_runV (As := [.ref ph]) (rest := []) ⟨hx, hb, hml, hown, hts⟩ (c_X1_follow l dC dI cI cJ cZ lh l3 l4 lv_ahead lv_gatheredAny lv_gatheredLeast lv_gatheredGreatest fh f1 f2 f3 f4 f5 fr fw_lanes fw_shortest fw_longest fw_leastAt fw_greatestAt fl fg fs fm fk lr lm ph pv_rows pv_dropped s.heap.size) (cwV 1 hts g_X4_holds_X1_follow_59 rfl rfl rfl (by decide +kernel) ⟨Nat.le_of_ble_eq_true rfl, Nat.le_of_ble_eq_true rfl⟩) ⟨cPre_blind, va_recv hK hPc (ci := 1) (q0 := 0) rfl rfl, cPre_of hK hN hPc hDc⟩ rfl rfl hl.1 rfl (lv_room (Nat.le_of_ble_eq_true rfl)) dX4_holds_8 ⟨Nat.le_of_ble_eq_true rfl, Nat.le_of_ble_eq_true rfl⟩) hS (fun q _ h => hFc q h) hFc (fun u_1 t_1 H_1 locs_1 ht hvm hw_1 hB hz1 hk1 hS1 => ?_)
  obtain ⟨hP1, hK1, hD1⟩ := hB
  rw [ht] at hP1
  obtain ⟨hP2, hD2⟩ := va_join (wr := [(xh, .inr (4, [.ref ph, .ref lh, .ref mh, xv_lastStatus])), (mh, .inr (2, [mv_hasRun, mv_thrown, mv_thrownAt, .ref m1, .ref m2, mv_lanes, mv_lengths, mv_cells, mv_state])), (m1, .inl (cI, 6, .inl mf1)), (m2, .inl (cI, 6, .inl mf2))]) (w1 := [(lh, .inr (1, [.ref fh, lv_ahead, .int 0, .ref l3, .ref l4, lv_gatheredAny, lv_gatheredLeast, lv_gatheredGreatest])), (fh, .inr (0, [.int 1, .ref f1, .ref f2, .ref f3, .ref f4, .ref f5, fw_lanes, fw_shortest, fw_longest, fw_leastAt, fw_greatestAt])), (f1, .inl (cI, 6, .inl (ov fl 6 0))), (f2, .inl (cI, 6, .inl (ov fg 6 0))), (f3, .inl (cJ, 6, .inr (.inl (ovL fs 6 0)))), (f4, .inl (cZ, 6, .inl (ov fm 6 1))), (f5, .inl (cZ, 40, .inl (ov fk 40 0))), (l3, .inl (cZ, 40, .inl (ov lr 40 0))), (l4, .inl (cI, 40, .inl (ov lm 40 0))), (ph, .inr (3, [pv_rows, pv_dropped, .int 0]))]) hP hD [1, 2, 3, 4, 5, 6, 7, 8, 9, 10] [0, 11, 12, 13] rfl rfl (by decide) (by decide) hk1 hFc hP1 hD1
  clear hPc hDc hFc hP1 hD1 hK1 hk1 hz1 hvm ht
  replace hP : va_P (dC, dI) vwCl [(xh, .inr (4, [.ref ph, .ref lh, .ref mh, xv_lastStatus])), (mh, .inr (2, [mv_hasRun, mv_thrown, mv_thrownAt, .ref m1, .ref m2, mv_lanes, mv_lengths, mv_cells, mv_state])), (m1, .inl (cI, 6, .inl mf1)), (m2, .inl (cI, 6, .inl mf2)), (lh, .inr (1, [.ref fh, lv_ahead, .int 0, .ref l3, .ref l4, lv_gatheredAny, lv_gatheredLeast, lv_gatheredGreatest])), (fh, .inr (0, [.int 1, .ref f1, .ref f2, .ref f3, .ref f4, .ref f5, fw_lanes, fw_shortest, fw_longest, fw_leastAt, fw_greatestAt])), (f1, .inl (cI, 6, .inl (ov fl 6 0))), (f2, .inl (cI, 6, .inl (ov fg 6 0))), (f3, .inl (cJ, 6, .inr (.inl (ovL fs 6 0)))), (f4, .inl (cZ, 6, .inl (ov fm 6 1))), (f5, .inl (cZ, 40, .inl (ov fk 40 0))), (l3, .inl (cZ, 40, .inl (ov lr 40 0))), (l4, .inl (cI, 40, .inl (ov lm 40 0))), (ph, .inr (3, [pv_rows, pv_dropped, .int 0]))] H_1 := hP2
  replace hD : va_D A [(xh, .inr (4, [.ref ph, .ref lh, .ref mh, xv_lastStatus])), (mh, .inr (2, [mv_hasRun, mv_thrown, mv_thrownAt, .ref m1, .ref m2, mv_lanes, mv_lengths, mv_cells, mv_state])), (m1, .inl (cI, 6, .inl mf1)), (m2, .inl (cI, 6, .inl mf2)), (lh, .inr (1, [.ref fh, lv_ahead, .int 0, .ref l3, .ref l4, lv_gatheredAny, lv_gatheredLeast, lv_gatheredGreatest])), (fh, .inr (0, [.int 1, .ref f1, .ref f2, .ref f3, .ref f4, .ref f5, fw_lanes, fw_shortest, fw_longest, fw_leastAt, fw_greatestAt])), (f1, .inl (cI, 6, .inl (ov fl 6 0))), (f2, .inl (cI, 6, .inl (ov fg 6 0))), (f3, .inl (cJ, 6, .inr (.inl (ovL fs 6 0)))), (f4, .inl (cZ, 6, .inl (ov fm 6 1))), (f5, .inl (cZ, 40, .inl (ov fk 40 0))), (l3, .inl (cZ, 40, .inl (ov lr 40 0))), (l4, .inl (cI, 40, .inl (ov lm 40 0))), (ph, .inr (3, [pv_rows, pv_dropped, .int 0]))] := hD2
  replace hS := hS1
  clear hP2 hD2 hS1
  refine lv_aload_n hx hb dX4_holds_11 rfl (lv_at hl 0 rfl) ?_
  refine va_get (D := (dC, dI)) (ci := 4) (v := .ref mh) (C := RX4) (T := TX4) (N := 4) hx hb hts inc_X4_holds_X4 hown hK hP 0 rfl rfl 2 (by decide) (hts (.fieldLink RX4 26 "ArraySegments" "machine" "LArraySegments$Machine;") (List.mem_of_getElem? (i := 33) rfl)) (fun _ h9 => h9) rfl dX4_holds_12 ?_
  refine lv_aload_n hx hb dX4_holds_15 rfl (lv_at hl 0 rfl) ?_
  refine va_get (D := (dC, dI)) (ci := 4) (v := .ref ph) (C := RX4) (T := TX4) (N := 4) hx hb hts inc_X4_holds_X4 hown hK hP 0 rfl rfl 0 (by decide) (hts (.fieldLink RX4 10 "ArraySegments" "program" "LArraySegments$Program;") (List.mem_of_getElem? (i := 2) rfl)) (fun _ h9 => h9) rfl dX4_holds_16 ?_
  refine lv_lload_n hx hb dX4_holds_19 rfl (lv_at hl 1 rfl) ?_
  have hPc := hP.sub (ws' := [(mh, .inr (2, [mv_hasRun, mv_thrown, mv_thrownAt, .ref m1, .ref m2, mv_lanes, mv_lengths, mv_cells, mv_state])), (m1, .inl (cI, 6, .inl mf1)), (m2, .inl (cI, 6, .inl mf2)), (ph, .inr (3, [pv_rows, pv_dropped, .int 0]))]) [1, 2, 3, 13] rfl
  have hDc := hD.sub (ws' := [(mh, .inr (2, [mv_hasRun, mv_thrown, mv_thrownAt, .ref m1, .ref m2, mv_lanes, mv_lengths, mv_cells, mv_state])), (m1, .inl (cI, 6, .inl mf1)), (m2, .inl (cI, 6, .inl mf2)), (ph, .inr (3, [pv_rows, pv_dropped, .int 0]))]) [1, 2, 3, 13] (by decide) rfl
  have hFc := va_free (wc := [(mh, .inr (2, [mv_hasRun, mv_thrown, mv_thrownAt, .ref m1, .ref m2, mv_lanes, mv_lengths, mv_cells, mv_state])), (m1, .inl (cI, 6, .inl mf1)), (m2, .inl (cI, 6, .inl mf2)), (ph, .inr (3, [pv_rows, pv_dropped, .int 0]))]) hD hS hA [1, 2, 3, 13] rfl
  refine va_callv (va_runV (As := [.ref ph, .long seed]) (rest := []) ⟨hx, hb, hml, hown, hts⟩ (c_X2_perform l dC dI cI cJ cZ mh m1 m2 mv_hasRun mv_thrown mv_thrownAt mv_lanes mv_lengths mv_cells mv_state mf1 mf2 ph pv_rows pv_dropped seed H_1.size) (cwV 2 hts g_X4_holds_X2_perform_146 rfl rfl rfl (by decide +kernel) ⟨Nat.le_of_ble_eq_true rfl, Nat.le_of_ble_eq_true rfl⟩) ⟨cPre_blind, va_recv hK hPc (ci := 2) (q0 := 0) rfl rfl, cPre_of hK hN hPc hDc⟩ rfl rfl hl.1 rfl (lv_room (Nat.le_of_ble_eq_true rfl)) dX4_holds_20 ⟨Nat.le_of_ble_eq_true rfl, Nat.le_of_ble_eq_true rfl⟩) hS (fun q _ h => hFc q h) hFc (fun u_2 t_2 H_2 locs_2 ht hvm hw_2 hB hz1 hk1 hS1 => ?_)
  obtain ⟨hP1, hK1, hD1⟩ := hB
  rw [ht] at hP1
  obtain ⟨hP2, hD2⟩ := va_join (wr := [(xh, .inr (4, [.ref ph, .ref lh, .ref mh, xv_lastStatus])), (lh, .inr (1, [.ref fh, lv_ahead, .int 0, .ref l3, .ref l4, lv_gatheredAny, lv_gatheredLeast, lv_gatheredGreatest])), (fh, .inr (0, [.int 1, .ref f1, .ref f2, .ref f3, .ref f4, .ref f5, fw_lanes, fw_shortest, fw_longest, fw_leastAt, fw_greatestAt])), (f1, .inl (cI, 6, .inl (ov fl 6 0))), (f2, .inl (cI, 6, .inl (ov fg 6 0))), (f3, .inl (cJ, 6, .inr (.inl (ovL fs 6 0)))), (f4, .inl (cZ, 6, .inl (ov fm 6 1))), (f5, .inl (cZ, 40, .inl (ov fk 40 0))), (l3, .inl (cZ, 40, .inl (ov lr 40 0))), (l4, .inl (cI, 40, .inl (ov lm 40 0)))]) (w1 := [(mh, .inr (2, [.int 1, .int 0, .int (-1), .ref m1, .ref m2, mv_lanes, mv_lengths, mv_cells, .long seed])), (m1, .inl (cI, 6, .inl (ov mf1 6 0))), (m2, .inl (cI, 6, .inl (ov mf2 6 (-1)))), (ph, .inr (3, [pv_rows, pv_dropped, .int 0]))]) hP hD [1, 2, 3, 13] [0, 4, 5, 6, 7, 8, 9, 10, 11, 12] rfl rfl (by decide) (by decide) hk1 hFc hP1 hD1
  clear hPc hDc hFc hP1 hD1 hK1 hk1 hz1 hvm ht
  replace hP : va_P (dC, dI) vwCl [(xh, .inr (4, [.ref ph, .ref lh, .ref mh, xv_lastStatus])), (lh, .inr (1, [.ref fh, lv_ahead, .int 0, .ref l3, .ref l4, lv_gatheredAny, lv_gatheredLeast, lv_gatheredGreatest])), (fh, .inr (0, [.int 1, .ref f1, .ref f2, .ref f3, .ref f4, .ref f5, fw_lanes, fw_shortest, fw_longest, fw_leastAt, fw_greatestAt])), (f1, .inl (cI, 6, .inl (ov fl 6 0))), (f2, .inl (cI, 6, .inl (ov fg 6 0))), (f3, .inl (cJ, 6, .inr (.inl (ovL fs 6 0)))), (f4, .inl (cZ, 6, .inl (ov fm 6 1))), (f5, .inl (cZ, 40, .inl (ov fk 40 0))), (l3, .inl (cZ, 40, .inl (ov lr 40 0))), (l4, .inl (cI, 40, .inl (ov lm 40 0))), (mh, .inr (2, [.int 1, .int 0, .int (-1), .ref m1, .ref m2, mv_lanes, mv_lengths, mv_cells, .long seed])), (m1, .inl (cI, 6, .inl (ov mf1 6 0))), (m2, .inl (cI, 6, .inl (ov mf2 6 (-1)))), (ph, .inr (3, [pv_rows, pv_dropped, .int 0]))] H_2 := hP2
  replace hD : va_D A [(xh, .inr (4, [.ref ph, .ref lh, .ref mh, xv_lastStatus])), (lh, .inr (1, [.ref fh, lv_ahead, .int 0, .ref l3, .ref l4, lv_gatheredAny, lv_gatheredLeast, lv_gatheredGreatest])), (fh, .inr (0, [.int 1, .ref f1, .ref f2, .ref f3, .ref f4, .ref f5, fw_lanes, fw_shortest, fw_longest, fw_leastAt, fw_greatestAt])), (f1, .inl (cI, 6, .inl (ov fl 6 0))), (f2, .inl (cI, 6, .inl (ov fg 6 0))), (f3, .inl (cJ, 6, .inr (.inl (ovL fs 6 0)))), (f4, .inl (cZ, 6, .inl (ov fm 6 1))), (f5, .inl (cZ, 40, .inl (ov fk 40 0))), (l3, .inl (cZ, 40, .inl (ov lr 40 0))), (l4, .inl (cI, 40, .inl (ov lm 40 0))), (mh, .inr (2, [.int 1, .int 0, .int (-1), .ref m1, .ref m2, mv_lanes, mv_lengths, mv_cells, .long seed])), (m1, .inl (cI, 6, .inl (ov mf1 6 0))), (m2, .inl (cI, 6, .inl (ov mf2 6 (-1)))), (ph, .inr (3, [pv_rows, pv_dropped, .int 0]))] := hD2
  replace hS := hS1
  clear hP2 hD2 hS1
  refine lv_aload_n hx hb dX4_holds_23 rfl (lv_at hl 0 rfl) ?_
  refine va_get (D := (dC, dI)) (ci := 4) (v := .ref mh) (C := RX4) (T := TX4) (N := 4) hx hb hts inc_X4_holds_X4 hown hK hP 0 rfl rfl 2 (by decide) (hts (.fieldLink RX4 26 "ArraySegments" "machine" "LArraySegments$Machine;") (List.mem_of_getElem? (i := 33) rfl)) (fun _ h9 => h9) rfl dX4_holds_24 ?_
  refine va_get (D := (dC, dI)) (ci := 2) (v := .int 0) (C := RX2) (T := TX2) (N := 9) hx hb hts inc_X4_holds_X2 hown hK hP 10 rfl rfl 1 (by decide) (hts (.fieldLink RX4 150 "ArraySegments$Machine" "thrown" "I") (List.mem_of_getElem? (i := 50) rfl)) (fun _ h9 => h9) rfl dX4_holds_27 ?_
  refine lv_if_ne (tgt := 40) hx hb dX4_holds_30 (by decide) (fun c_3 => ?_) (fun c_3 => ?_)
  · exact absurd (by decide) c_3
  · -- on
    refine lv_aload_n hx hb dX4_holds_33 rfl (lv_at hl 0 rfl) ?_
    have hPc := hP.sub (ws' := [(xh, .inr (4, [.ref ph, .ref lh, .ref mh, xv_lastStatus])), (lh, .inr (1, [.ref fh, lv_ahead, .int 0, .ref l3, .ref l4, lv_gatheredAny, lv_gatheredLeast, lv_gatheredGreatest])), (fh, .inr (0, [.int 1, .ref f1, .ref f2, .ref f3, .ref f4, .ref f5, fw_lanes, fw_shortest, fw_longest, fw_leastAt, fw_greatestAt])), (f1, .inl (cI, 6, .inl (ov fl 6 0))), (f2, .inl (cI, 6, .inl (ov fg 6 0))), (f4, .inl (cZ, 6, .inl (ov fm 6 1))), (mh, .inr (2, [.int 1, .int 0, .int (-1), .ref m1, .ref m2, mv_lanes, mv_lengths, mv_cells, .long seed])), (m1, .inl (cI, 6, .inl (ov mf1 6 0))), (m2, .inl (cI, 6, .inl (ov mf2 6 (-1))))]) [0, 1, 2, 3, 4, 6, 10, 11, 12] rfl
    have hDc := hD.sub (ws' := [(xh, .inr (4, [.ref ph, .ref lh, .ref mh, xv_lastStatus])), (lh, .inr (1, [.ref fh, lv_ahead, .int 0, .ref l3, .ref l4, lv_gatheredAny, lv_gatheredLeast, lv_gatheredGreatest])), (fh, .inr (0, [.int 1, .ref f1, .ref f2, .ref f3, .ref f4, .ref f5, fw_lanes, fw_shortest, fw_longest, fw_leastAt, fw_greatestAt])), (f1, .inl (cI, 6, .inl (ov fl 6 0))), (f2, .inl (cI, 6, .inl (ov fg 6 0))), (f4, .inl (cZ, 6, .inl (ov fm 6 1))), (mh, .inr (2, [.int 1, .int 0, .int (-1), .ref m1, .ref m2, mv_lanes, mv_lengths, mv_cells, .long seed])), (m1, .inl (cI, 6, .inl (ov mf1 6 0))), (m2, .inl (cI, 6, .inl (ov mf2 6 (-1))))]) [0, 1, 2, 3, 4, 6, 10, 11, 12] (by decide) rfl
    have hFc := va_free (wc := [(xh, .inr (4, [.ref ph, .ref lh, .ref mh, xv_lastStatus])), (lh, .inr (1, [.ref fh, lv_ahead, .int 0, .ref l3, .ref l4, lv_gatheredAny, lv_gatheredLeast, lv_gatheredGreatest])), (fh, .inr (0, [.int 1, .ref f1, .ref f2, .ref f3, .ref f4, .ref f5, fw_lanes, fw_shortest, fw_longest, fw_leastAt, fw_greatestAt])), (f1, .inl (cI, 6, .inl (ov fl 6 0))), (f2, .inl (cI, 6, .inl (ov fg 6 0))), (f4, .inl (cZ, 6, .inl (ov fm 6 1))), (mh, .inr (2, [.int 1, .int 0, .int (-1), .ref m1, .ref m2, mv_lanes, mv_lengths, mv_cells, .long seed])), (m1, .inl (cI, 6, .inl (ov mf1 6 0))), (m2, .inl (cI, 6, .inl (ov mf2 6 (-1))))]) hD hS hA [0, 1, 2, 3, 4, 6, 10, 11, 12] rfl
    refine va_calli (va_runV (As := []) (rest := []) ⟨hx, hb, hml, hown, hts⟩ (c_X4_endHolds l dC dI cI cJ cZ xh lh fh f1 f2 f4 (.ref ph) xv_lastStatus lv_ahead (.int 0) (.ref l3) (.ref l4) lv_gatheredAny lv_gatheredLeast lv_gatheredGreatest (.ref f3) (.ref f5) fw_lanes fw_shortest fw_longest fw_leastAt fw_greatestAt mh m1 m2 (.int 1) (.int 0) (.int (-1)) mv_lanes mv_lengths mv_cells (.long seed) mf1 mf2 fl fg fm H_2.size) (cwV 0 hts g_X4_holds_X4_endHolds_171 rfl rfl rfl (by decide +kernel) ⟨Nat.le_of_ble_eq_true rfl, Nat.le_of_ble_eq_true rfl⟩) ⟨cPre_blind, va_recv hK hPc (ci := 4) (q0 := 0) rfl rfl, cPre_of hK hN hPc hDc⟩ rfl rfl hl.1 rfl (lv_room (Nat.le_of_ble_eq_true rfl)) dX4_holds_34 ⟨Nat.le_of_ble_eq_true rfl, Nat.le_of_ble_eq_true rfl⟩) hS (fun q _ h => hFc q h) hFc (fun r_4 u_4 t_4 H_4 locs_4 ht hvm hw_4 hB hz1 hk1 hS1 => ?_)
    obtain ⟨hP1, hK1, hD1⟩ := hB
    rw [ht] at hP1
    obtain ⟨hP2, hD2⟩ := va_join (wr := [(f3, .inl (cJ, 6, .inr (.inl (ovL fs 6 0)))), (f5, .inl (cZ, 40, .inl (ov fk 40 0))), (l3, .inl (cZ, 40, .inl (ov lr 40 0))), (l4, .inl (cI, 40, .inl (ov lm 40 0))), (ph, .inr (3, [pv_rows, pv_dropped, .int 0]))]) (w1 := [(xh, .inr (4, [.ref ph, .ref lh, .ref mh, xv_lastStatus])), (lh, .inr (1, [.ref fh, lv_ahead, .int 0, .ref l3, .ref l4, lv_gatheredAny, lv_gatheredLeast, lv_gatheredGreatest])), (fh, .inr (0, [.int 1, .ref f1, .ref f2, .ref f3, .ref f4, .ref f5, fw_lanes, fw_shortest, fw_longest, fw_leastAt, fw_greatestAt])), (f1, .inl (cI, 6, .inl (ov fl 6 0))), (f2, .inl (cI, 6, .inl (ov fg 6 0))), (f4, .inl (cZ, 6, .inl (ov fm 6 1))), (mh, .inr (2, [.int 1, .int 0, .int (-1), .ref m1, .ref m2, mv_lanes, mv_lengths, mv_cells, .long seed])), (m1, .inl (cI, 6, .inl (ov mf1 6 0))), (m2, .inl (cI, 6, .inl (ov mf2 6 (-1))))]) hP hD [0, 1, 2, 3, 4, 6, 10, 11, 12] [5, 7, 8, 9, 13] rfl rfl (by decide) (by decide) hk1 hFc hP1 hD1
    clear hPc hDc hFc hP1 hD1 hK1 hk1 hz1 hvm ht
    replace hP : va_P (dC, dI) vwCl [(f3, .inl (cJ, 6, .inr (.inl (ovL fs 6 0)))), (f5, .inl (cZ, 40, .inl (ov fk 40 0))), (l3, .inl (cZ, 40, .inl (ov lr 40 0))), (l4, .inl (cI, 40, .inl (ov lm 40 0))), (ph, .inr (3, [pv_rows, pv_dropped, .int 0])), (xh, .inr (4, [.ref ph, .ref lh, .ref mh, xv_lastStatus])), (lh, .inr (1, [.ref fh, lv_ahead, .int 0, .ref l3, .ref l4, lv_gatheredAny, lv_gatheredLeast, lv_gatheredGreatest])), (fh, .inr (0, [.int 1, .ref f1, .ref f2, .ref f3, .ref f4, .ref f5, fw_lanes, fw_shortest, fw_longest, fw_leastAt, fw_greatestAt])), (f1, .inl (cI, 6, .inl (ov fl 6 0))), (f2, .inl (cI, 6, .inl (ov fg 6 0))), (f4, .inl (cZ, 6, .inl (ov fm 6 1))), (mh, .inr (2, [.int 1, .int 0, .int (-1), .ref m1, .ref m2, mv_lanes, mv_lengths, mv_cells, .long seed])), (m1, .inl (cI, 6, .inl (ov mf1 6 0))), (m2, .inl (cI, 6, .inl (ov mf2 6 (-1))))] H_4 := hP2
    replace hD : va_D A [(f3, .inl (cJ, 6, .inr (.inl (ovL fs 6 0)))), (f5, .inl (cZ, 40, .inl (ov fk 40 0))), (l3, .inl (cZ, 40, .inl (ov lr 40 0))), (l4, .inl (cI, 40, .inl (ov lm 40 0))), (ph, .inr (3, [pv_rows, pv_dropped, .int 0])), (xh, .inr (4, [.ref ph, .ref lh, .ref mh, xv_lastStatus])), (lh, .inr (1, [.ref fh, lv_ahead, .int 0, .ref l3, .ref l4, lv_gatheredAny, lv_gatheredLeast, lv_gatheredGreatest])), (fh, .inr (0, [.int 1, .ref f1, .ref f2, .ref f3, .ref f4, .ref f5, fw_lanes, fw_shortest, fw_longest, fw_leastAt, fw_greatestAt])), (f1, .inl (cI, 6, .inl (ov fl 6 0))), (f2, .inl (cI, 6, .inl (ov fg 6 0))), (f4, .inl (cZ, 6, .inl (ov fm 6 1))), (mh, .inr (2, [.int 1, .int 0, .int (-1), .ref m1, .ref m2, mv_lanes, mv_lengths, mv_cells, .long seed])), (m1, .inl (cI, 6, .inl (ov mf1 6 0))), (m2, .inl (cI, 6, .inl (ov mf2 6 (-1))))] := hD2
    replace hS := hS1
    clear hP2 hD2 hS1
    refine my_topi (y := 1) hw_4 ?_
    refine lv_goto (tgt := 44) hx hb dX4_holds_37 (by decide) ?_
    refine lv_istore_n (lv' := [(3, .int 1), (0, .ref xh), (1, .long seed)]) hx hb dX4_holds_44 rfl hl (by decide) rfl (fun ls1 hl1 => ?_)
    replace hl := hl1; clear hl1
    refine lv_iload_n hx hb dX4_holds_45 rfl (lv_at hl 0 rfl) ?_
    refine lv_if_eq (tgt := 53) hx hb dX4_holds_46 (by decide) (fun c_5 => ?_) (fun c_5 => ?_)
    · exact absurd c_5 (by decide)
    · -- on
      refine lv_iconst (v := 1) hx hb dX4_holds_49 (by decide) ?_
      refine lv_goto (tgt := 54) hx hb dX4_holds_50 (by decide) ?_
      have hP9 := hP.sub (ws' := []) [] rfl
      have hD9 := hD.sub (ws' := []) [] (by decide) rfl
      exact W.iret (v := 1) hx hb hr (fun t ht hW => ⟨⟨1, (fun _ => 0), rfl, rfl, by rw [ht]; exact hP9, va_K.moved hW.alike hK, hD9⟩, hS.F ht⟩) hS.2.2 dX4_holds_54

def w_X4_told : List Cond := .code yX4_told cX4_told 2 (some .int) :: ([.fieldLink RX4 19 "ArraySegments" "flow" "LArraySegments$Flow;", .fieldLink RX4 10 "ArraySegments" "program" "LArraySegments$Program;", .methodLink RX4 59 yX1_follow, .instanceMethod yX1_follow, .selects RX1 yX1_follow yX1_follow, .initialized RX1, .code yX1_follow cX1_follow 5 none, .fieldLink RX1 21 "ArraySegments$Flow" "isOld" "Z", .fieldLink RX1 12 "ArraySegments$Flow" "now" "LArraySegments$Facts;", .methodLink RX1 43 yX0_begin, .instanceMethod yX0_begin, .selects RX0 yX0_begin yX0_begin, .initialized RX0, .code yX0_begin cX0_begin 2 none, .fieldLink RX0 9 "ArraySegments$Facts" "isReached" "Z", .fieldLink RX0 30 "ArraySegments$Facts" "known" "[Z", .fieldLink RX0 22 "ArraySegments$Facts" "sites" "[J", .fieldLink RX0 26 "ArraySegments$Facts" "maybeNull" "[Z", .methodLink RX0 48 yX0_setSpan, .instanceMethod yX0_setSpan, .selects RX0 yX0_setSpan yX0_setSpan, .code yX0_setSpan cX0_setSpan 4 none, .fieldLink RX0 15 "ArraySegments$Facts" "least" "[I", .fieldLink RX0 19 "ArraySegments$Facts" "greatest" "[I", .methodLink RX1 46 yX3_hasAct, .instanceMethod yX3_hasAct, .selects RX3 yX3_hasAct yX3_hasAct, .initialized RX3, .code yX3_hasAct cX3_hasAct 2 (some .boolean), .fieldLink RX3 19 "ArraySegments$Program" "count" "I", .fieldLink RX1 25 "ArraySegments$Flow" "isReached" "[Z", .fieldLink RX1 29 "ArraySegments$Flow" "mayThrow" "[I", .fieldLink RX4 34 "ArraySegments$Program" "count" "I", .methodLink RX4 178 yX3_countKept, .instanceMethod yX3_countKept, .selects RX3 yX3_countKept yX3_countKept, .code yX3_countKept cX3_countKept 3 (some .int), .methodLink RX4 182 yX1_countReached, .instanceMethod yX1_countReached, .selects RX1 yX1_countReached yX1_countReached, .code yX1_countReached cX1_countReached 3 (some .int), .methodLink RX4 185 yX1_countThrowing, .instanceMethod yX1_countThrowing, .selects RX1 yX1_countThrowing yX1_countThrowing, .code yX1_countThrowing cX1_countThrowing 3 (some .int), .fieldLink RX4 70 "ArraySegments$Flow" "now" "LArraySegments$Facts;", .fieldLink RX4 74 "ArraySegments$Facts" "isReached" "Z", .methodLink RX4 188 yX0_countKnown, .instanceMethod yX0_countKnown, .selects RX0 yX0_countKnown yX0_countKnown, .code yX0_countKnown cX0_countKnown 3 (some .int)] ++ wsX40 ++ wsX10 ++ wsX00 ++ wsX30)
theorem inc_X4_told_X0 : ∀ w ∈ wsX00, w ∈ w_X4_told := fun _ h => List.mem_cons_of_mem _ (List.mem_append_left _ (List.mem_append_right _ h))
theorem inc_X4_told_X1 : ∀ w ∈ wsX10, w ∈ w_X4_told := fun _ h => List.mem_cons_of_mem _ (List.mem_append_left _ (List.mem_append_left _ (List.mem_append_right _ h)))
theorem inc_X4_told_X3 : ∀ w ∈ wsX30, w ∈ w_X4_told := fun _ h => List.mem_cons_of_mem _ (List.mem_append_right _ h)
theorem inc_X4_told_X4 : ∀ w ∈ wsX40, w ∈ w_X4_told := fun _ h => List.mem_cons_of_mem _ (List.mem_append_left _ (List.mem_append_left _ (List.mem_append_left _ (List.mem_append_right _ h))))
set_option maxRecDepth 20000 in
theorem g_X4_told_X1_follow_59 : GoodIn w_X4_told (wsV RX4 59 RX1 yX1_follow w_X1_follow) := goodIn_r _ [3, 4, 5, 6, 7, 8, 9, 10, 11, 12, 13, 14, 15, 16, 17, 18, 19, 20, 21, 22, 23, 24, 25, 26, 27, 28, 29, 30, 31, 32, 56, 57, 58, 59, 60, 61, 62, 63, 64, 65, 66, 67, 68, 69, 70, 71, 72, 73, 74, 75, 76, 77] (by decide +kernel) (by decide +kernel)
set_option maxRecDepth 20000 in
theorem g_X4_told_X3_countKept_178 : GoodIn w_X4_told (wsV RX4 178 RX3 yX3_countKept w_X3_countKept) := goodIn_r _ [34, 35, 36, 28, 37, 30, 75, 76, 77] (by decide +kernel) (by decide +kernel)
set_option maxRecDepth 20000 in
theorem g_X4_told_X1_countReached_182 : GoodIn w_X4_told (wsV RX4 182 RX1 yX1_countReached w_X1_countReached) := goodIn_r _ [38, 39, 40, 6, 41, 31, 56, 57, 58, 59, 60, 61, 62, 63] (by decide +kernel) (by decide +kernel)
set_option maxRecDepth 20000 in
theorem g_X4_told_X1_countThrowing_185 : GoodIn w_X4_told (wsV RX4 185 RX1 yX1_countThrowing w_X1_countThrowing) := goodIn_r _ [42, 43, 44, 6, 45, 32, 56, 57, 58, 59, 60, 61, 62, 63] (by decide +kernel) (by decide +kernel)
set_option maxRecDepth 20000 in
theorem g_X4_told_X0_countKnown_188 : GoodIn w_X4_told (wsV RX4 188 RX0 yX0_countKnown w_X0_countKnown) := goodIn_r _ [48, 49, 50, 13, 51, 16, 64, 65, 66, 67, 68, 69, 70, 71, 72, 73, 74] (by decide +kernel) (by decide +kernel)
abbrev pw_X4_told (cI cJ cZ : ClassId) (xh : Nat) (ph : Nat) (xf_machine : Value) (xf_lastStatus : Value) (lh : Nat) (l3 : Nat) (l4 : Nat) (lv_ahead : Value) (lv_gatheredAny : Value) (lv_gatheredLeast : Value) (lv_gatheredGreatest : Value) (fh : Nat) (f1 : Nat) (f2 : Nat) (f3 : Nat) (f4 : Nat) (f5 : Nat) (fr : Int32) (fw_lanes : Value) (fw_shortest : Value) (fw_longest : Value) (fw_leastAt : Value) (fw_greatestAt : Value) (fl : Nat → Int32) (fg : Nat → Int32) (fs : Nat → Int64) (fm : Nat → Int32) (fk : Nat → Int32) (lr : Nat → Int32) (lm : Nat → Int32) (pv_rows : Value) (pv_dropped : Value) (wa : Int32) : va_W := [(xh, .inr (4, [.ref ph, .ref lh, xf_machine, xf_lastStatus])), (lh, .inr (1, [.ref fh, lv_ahead, .int 1, .ref l3, .ref l4, lv_gatheredAny, lv_gatheredLeast, lv_gatheredGreatest])), (fh, .inr (0, [.int fr, .ref f1, .ref f2, .ref f3, .ref f4, .ref f5, fw_lanes, fw_shortest, fw_longest, fw_leastAt, fw_greatestAt])), (f1, .inl (cI, 6, .inl fl)), (f2, .inl (cI, 6, .inl fg)), (f3, .inl (cJ, 6, .inr (.inl fs))), (f4, .inl (cZ, 6, .inl fm)), (f5, .inl (cZ, 40, .inl fk)), (l3, .inl (cZ, 40, .inl lr)), (l4, .inl (cI, 40, .inl lm)), (ph, .inr (3, [pv_rows, pv_dropped, .int 0]))]
set_option maxHeartbeats 4000000 in
set_option maxRecDepth 100000 in
theorem c_X4_told (l : Launch) (dC : Nat → ClassId) (dI : Nat → Nat → Nat) (cI cJ cZ : ClassId) (xh : Nat) (ph : Nat) (xf_machine : Value) (xf_lastStatus : Value) (lh : Nat) (l3 : Nat) (l4 : Nat) (lv_ahead : Value) (lv_gatheredAny : Value) (lv_gatheredLeast : Value) (lv_gatheredGreatest : Value) (fh : Nat) (f1 : Nat) (f2 : Nat) (f3 : Nat) (f4 : Nat) (f5 : Nat) (fr : Int32) (fw_lanes : Value) (fw_shortest : Value) (fw_longest : Value) (fw_leastAt : Value) (fw_greatestAt : Value) (fl : Nat → Int32) (fg : Nat → Int32) (fs : Nat → Int64) (fm : Nat → Int32) (fk : Nat → Int32) (lr : Nat → Int32) (lm : Nat → Int32) (pv_rows : Value) (pv_dropped : Value) (wa : Int32) (sz : Nat) : Met l yX4_told w_X4_told ({ frames := 3, cells := 0, slots := 0, locals := 68 }) (va_Pc [.ref xh, .int wa] (cPre dC dI cI cJ cZ sz (pw_X4_told cI cJ cZ xh ph xf_machine xf_lastStatus lh l3 l4 lv_ahead lv_gatheredAny lv_gatheredLeast lv_gatheredGreatest fh f1 f2 f3 f4 f5 fr fw_lanes fw_shortest fw_longest fw_leastAt fw_greatestAt fl fg fs fm fk lr lm pv_rows pv_dropped wa))) (va_Qi (fun (r : Int32) (u : Nat → Nat) => two r (0 ≤ wa.toInt ∧ wa.toInt ≤ 4) 0 (-2)) (fun (u : Nat → Nat) => cPost dC dI cI cJ cZ (va_A (pw_X4_told cI cJ cZ xh ph xf_machine xf_lastStatus lh l3 l4 lv_ahead lv_gatheredAny lv_gatheredLeast lv_gatheredGreatest fh f1 f2 f3 f4 f5 fr fw_lanes fw_shortest fw_longest fw_leastAt fw_greatestAt fl fg fs fm fk lr lm pv_rows pv_dropped wa) sz) []) (va_A (pw_X4_told cI cJ cZ xh ph xf_machine xf_lastStatus lh l3 l4 lv_ahead lv_gatheredAny lv_gatheredLeast lv_gatheredGreatest fh f1 f2 f3 f4 f5 fr fw_lanes fw_shortest fw_longest fw_leastAt fw_greatestAt fl fg fs fm fk lr lm pv_rows pv_dropped wa) sz)) 0 0 (va_A (pw_X4_told cI cJ cZ xh ph xf_machine xf_lastStatus lh l3 l4 lv_ahead lv_gatheredAny lv_gatheredLeast lv_gatheredGreatest fh f1 f2 f3 f4 f5 fr fw_lanes fw_shortest fw_longest fw_leastAt fw_greatestAt fl fg fs fm fk lr lm pv_rows pv_dropped wa) sz) := by
  refine Met.ofW (cc := cX4_told) (maxL := 2) (ret := (some .int)) (by decide) rfl ?_
  intro p e s m args below meth c s₁ B hml hv
  obtain ⟨rfl, hsz, hP, hK, hD0, hN⟩ := hv
  have hx := B.exec
  have hb := B.bytes
  have hr := B.returns
  have hts := atoms_spec (ws := w_X4_told) B.pre
  have hown : s.vm.findClass RX4 = some m.cls := findClass_of_methodNamed B.named
  have hlocks := B.notSynchronized
  subst hsz
  have hD := hD0.self (sz := s.heap.size)
  generalize hAe : va_A (pw_X4_told cI cJ cZ xh ph xf_machine xf_lastStatus lh l3 l4 lv_ahead lv_gatheredAny lv_gatheredLeast lv_gatheredGreatest fh f1 f2 f3 f4 f5 fr fw_lanes fw_shortest fw_longest fw_leastAt fw_greatestAt fl fg fs fm fk lr lm pv_rows pv_dropped wa) s.heap.size = A at hD ⊢
  have hA : ∀ q : Nat, s.heap.size ≤ q → A q := fun q h => by rw [← hAe]; exact Or.inr h
  clear hAe hD0
  have hS : va_S A s.heap s.heap [] := va_S.rf
  replace hP : va_P (dC, dI) vwCl [(xh, .inr (4, [.ref ph, .ref lh, xf_machine, xf_lastStatus])), (lh, .inr (1, [.ref fh, lv_ahead, .int 1, .ref l3, .ref l4, lv_gatheredAny, lv_gatheredLeast, lv_gatheredGreatest])), (fh, .inr (0, [.int fr, .ref f1, .ref f2, .ref f3, .ref f4, .ref f5, fw_lanes, fw_shortest, fw_longest, fw_leastAt, fw_greatestAt])), (f1, .inl (cI, 6, .inl fl)), (f2, .inl (cI, 6, .inl fg)), (f3, .inl (cJ, 6, .inr (.inl fs))), (f4, .inl (cZ, 6, .inl fm)), (f5, .inl (cZ, 40, .inl fk)), (l3, .inl (cZ, 40, .inl lr)), (l4, .inl (cI, 40, .inl lm)), (ph, .inr (3, [pv_rows, pv_dropped, .int 0]))] s.heap := hP
  replace hD : va_D A [(xh, .inr (4, [.ref ph, .ref lh, xf_machine, xf_lastStatus])), (lh, .inr (1, [.ref fh, lv_ahead, .int 1, .ref l3, .ref l4, lv_gatheredAny, lv_gatheredLeast, lv_gatheredGreatest])), (fh, .inr (0, [.int fr, .ref f1, .ref f2, .ref f3, .ref f4, .ref f5, fw_lanes, fw_shortest, fw_longest, fw_leastAt, fw_greatestAt])), (f1, .inl (cI, 6, .inl fl)), (f2, .inl (cI, 6, .inl fg)), (f3, .inl (cJ, 6, .inr (.inl fs))), (f4, .inl (cZ, 6, .inl fm)), (f5, .inl (cZ, 40, .inl fk)), (l3, .inl (cZ, 40, .inl lr)), (l4, .inl (cI, 40, .inl lm)), (ph, .inr (3, [pv_rows, pv_dropped, .int 0]))] := hD
  have hl := lv_entry ([.ref xh, .int wa]) (n := 2) (Nat.le_of_ble_eq_true rfl)
  rw [lg_entry_eq]
  generalize (lg_sl ([.ref xh, .int wa]) ++ List.replicate (2 - (lg_sl ([.ref xh, .int wa])).length) Slot.unset).toArray = ls at hl ⊢
  replace hl : lv_has ls 2 [(0, .ref xh), (1, .int wa)] := hl
  refine lv_iload_n hx hb dX4_told_0 rfl (lv_at hl 1 rfl) ?_
  refine lv_if_lt (tgt := 9) hx hb dX4_told_1 (by decide) (fun c_1 => ?_) (fun c_1 => ?_)
  · -- yes
    have k_1 : (wa.toInt : Int) < (0 : Int) := by first | exact lt_i c_1 | simpa using lt_i c_1
    refine lv_bipush (v := (-2)) hx hb dX4_told_9 (by decide) ?_
    have hP9 := hP.sub (ws' := []) [] rfl
    have hD9 := hD.sub (ws' := []) [] (by decide) rfl
    exact W.iret (v := (-2)) hx hb hr (fun t ht hW => ⟨⟨(-2), (fun _ => 0), rfl, (by refine Or.inr ⟨rfl, ?_⟩; first | assumption | omega), by rw [ht]; exact hP9, va_K.moved hW.alike hK, hD9⟩, hS.F ht⟩) hS.2.2 dX4_told_11
  · -- no
    have k_1 : (0 : Int) ≤ (wa.toInt : Int) := by first | exact nlt_i c_1 | simpa using nlt_i c_1
    refine lv_iload_n hx hb dX4_told_4 rfl (lv_at hl 1 rfl) ?_
    refine lv_iconst (v := 4) hx hb dX4_told_5 (by decide) ?_
    refine lv_icmp_le (tgt := 12) hx hb dX4_told_6 (by decide) (fun c_2 => ?_) (fun c_2 => ?_)
    · -- yes
      have k_2 : (wa.toInt : Int) ≤ (4 : Int) := by first | exact le_i c_2 | simpa using le_i c_2
      refine lv_aload_n hx hb dX4_told_12 rfl (lv_at hl 0 rfl) ?_
      refine va_get (D := (dC, dI)) (ci := 4) (v := .ref lh) (C := RX4) (T := TX4) (N := 4) hx hb hts inc_X4_told_X4 hown hK hP 0 rfl rfl 1 (by decide) (hts (.fieldLink RX4 19 "ArraySegments" "flow" "LArraySegments$Flow;") (List.mem_of_getElem? (i := 1) rfl)) (fun _ h9 => h9) rfl dX4_told_13 ?_
      refine lv_aload_n hx hb dX4_told_16 rfl (lv_at hl 0 rfl) ?_
      refine va_get (D := (dC, dI)) (ci := 4) (v := .ref ph) (C := RX4) (T := TX4) (N := 4) hx hb hts inc_X4_told_X4 hown hK hP 0 rfl rfl 0 (by decide) (hts (.fieldLink RX4 10 "ArraySegments" "program" "LArraySegments$Program;") (List.mem_of_getElem? (i := 2) rfl)) (fun _ h9 => h9) rfl dX4_told_17 ?_
      have hPc := hP.sub (ws' := [(lh, .inr (1, [.ref fh, lv_ahead, .int 1, .ref l3, .ref l4, lv_gatheredAny, lv_gatheredLeast, lv_gatheredGreatest])), (fh, .inr (0, [.int fr, .ref f1, .ref f2, .ref f3, .ref f4, .ref f5, fw_lanes, fw_shortest, fw_longest, fw_leastAt, fw_greatestAt])), (f1, .inl (cI, 6, .inl fl)), (f2, .inl (cI, 6, .inl fg)), (f3, .inl (cJ, 6, .inr (.inl fs))), (f4, .inl (cZ, 6, .inl fm)), (f5, .inl (cZ, 40, .inl fk)), (l3, .inl (cZ, 40, .inl lr)), (l4, .inl (cI, 40, .inl lm)), (ph, .inr (3, [pv_rows, pv_dropped, .int 0]))]) [1, 2, 3, 4, 5, 6, 7, 8, 9, 10] rfl
      have hDc := hD.sub (ws' := [(lh, .inr (1, [.ref fh, lv_ahead, .int 1, .ref l3, .ref l4, lv_gatheredAny, lv_gatheredLeast, lv_gatheredGreatest])), (fh, .inr (0, [.int fr, .ref f1, .ref f2, .ref f3, .ref f4, .ref f5, fw_lanes, fw_shortest, fw_longest, fw_leastAt, fw_greatestAt])), (f1, .inl (cI, 6, .inl fl)), (f2, .inl (cI, 6, .inl fg)), (f3, .inl (cJ, 6, .inr (.inl fs))), (f4, .inl (cZ, 6, .inl fm)), (f5, .inl (cZ, 40, .inl fk)), (l3, .inl (cZ, 40, .inl lr)), (l4, .inl (cI, 40, .inl lm)), (ph, .inr (3, [pv_rows, pv_dropped, .int 0]))]) [1, 2, 3, 4, 5, 6, 7, 8, 9, 10] (by decide) rfl
      have hFc := va_free (wc := [(lh, .inr (1, [.ref fh, lv_ahead, .int 1, .ref l3, .ref l4, lv_gatheredAny, lv_gatheredLeast, lv_gatheredGreatest])), (fh, .inr (0, [.int fr, .ref f1, .ref f2, .ref f3, .ref f4, .ref f5, fw_lanes, fw_shortest, fw_longest, fw_leastAt, fw_greatestAt])), (f1, .inl (cI, 6, .inl fl)), (f2, .inl (cI, 6, .inl fg)), (f3, .inl (cJ, 6, .inr (.inl fs))), (f4, .inl (cZ, 6, .inl fm)), (f5, .inl (cZ, 40, .inl fk)), (l3, .inl (cZ, 40, .inl lr)), (l4, .inl (cI, 40, .inl lm)), (ph, .inr (3, [pv_rows, pv_dropped, .int 0]))]) hD hS hA [1, 2, 3, 4, 5, 6, 7, 8, 9, 10] rfl
      refine va_callv (va_runV (As := [.ref ph]) (rest := []) ⟨hx, hb, hml, hown, hts⟩ (c_X1_follow l dC dI cI cJ cZ lh l3 l4 lv_ahead lv_gatheredAny lv_gatheredLeast lv_gatheredGreatest fh f1 f2 f3 f4 f5 fr fw_lanes fw_shortest fw_longest fw_leastAt fw_greatestAt fl fg fs fm fk lr lm ph pv_rows pv_dropped s.heap.size) (cwV 1 hts g_X4_told_X1_follow_59 rfl rfl rfl (by decide +kernel) ⟨Nat.le_of_ble_eq_true rfl, Nat.le_of_ble_eq_true rfl⟩) ⟨cPre_blind, va_recv hK hPc (ci := 1) (q0 := 0) rfl rfl, cPre_of hK hN hPc hDc⟩ rfl rfl hl.1 rfl (lv_room (Nat.le_of_ble_eq_true rfl)) dX4_told_20 ⟨Nat.le_of_ble_eq_true rfl, Nat.le_of_ble_eq_true rfl⟩) hS (fun q _ h => hFc q h) hFc (fun u_3 t_3 H_3 locs_3 ht hvm hw_3 hB hz1 hk1 hS1 => ?_)
      obtain ⟨hP1, hK1, hD1⟩ := hB
      rw [ht] at hP1
      obtain ⟨hP2, hD2⟩ := va_join (wr := [(xh, .inr (4, [.ref ph, .ref lh, xf_machine, xf_lastStatus]))]) (w1 := [(lh, .inr (1, [.ref fh, lv_ahead, .int 0, .ref l3, .ref l4, lv_gatheredAny, lv_gatheredLeast, lv_gatheredGreatest])), (fh, .inr (0, [.int 1, .ref f1, .ref f2, .ref f3, .ref f4, .ref f5, fw_lanes, fw_shortest, fw_longest, fw_leastAt, fw_greatestAt])), (f1, .inl (cI, 6, .inl (ov fl 6 0))), (f2, .inl (cI, 6, .inl (ov fg 6 0))), (f3, .inl (cJ, 6, .inr (.inl (ovL fs 6 0)))), (f4, .inl (cZ, 6, .inl (ov fm 6 1))), (f5, .inl (cZ, 40, .inl (ov fk 40 0))), (l3, .inl (cZ, 40, .inl (ov lr 40 0))), (l4, .inl (cI, 40, .inl (ov lm 40 0))), (ph, .inr (3, [pv_rows, pv_dropped, .int 0]))]) hP hD [1, 2, 3, 4, 5, 6, 7, 8, 9, 10] [0] rfl rfl (by decide) (by decide) hk1 hFc hP1 hD1
      clear hPc hDc hFc hP1 hD1 hK1 hk1 hz1 hvm ht
      replace hP : va_P (dC, dI) vwCl [(xh, .inr (4, [.ref ph, .ref lh, xf_machine, xf_lastStatus])), (lh, .inr (1, [.ref fh, lv_ahead, .int 0, .ref l3, .ref l4, lv_gatheredAny, lv_gatheredLeast, lv_gatheredGreatest])), (fh, .inr (0, [.int 1, .ref f1, .ref f2, .ref f3, .ref f4, .ref f5, fw_lanes, fw_shortest, fw_longest, fw_leastAt, fw_greatestAt])), (f1, .inl (cI, 6, .inl (ov fl 6 0))), (f2, .inl (cI, 6, .inl (ov fg 6 0))), (f3, .inl (cJ, 6, .inr (.inl (ovL fs 6 0)))), (f4, .inl (cZ, 6, .inl (ov fm 6 1))), (f5, .inl (cZ, 40, .inl (ov fk 40 0))), (l3, .inl (cZ, 40, .inl (ov lr 40 0))), (l4, .inl (cI, 40, .inl (ov lm 40 0))), (ph, .inr (3, [pv_rows, pv_dropped, .int 0]))] H_3 := hP2
      replace hD : va_D A [(xh, .inr (4, [.ref ph, .ref lh, xf_machine, xf_lastStatus])), (lh, .inr (1, [.ref fh, lv_ahead, .int 0, .ref l3, .ref l4, lv_gatheredAny, lv_gatheredLeast, lv_gatheredGreatest])), (fh, .inr (0, [.int 1, .ref f1, .ref f2, .ref f3, .ref f4, .ref f5, fw_lanes, fw_shortest, fw_longest, fw_leastAt, fw_greatestAt])), (f1, .inl (cI, 6, .inl (ov fl 6 0))), (f2, .inl (cI, 6, .inl (ov fg 6 0))), (f3, .inl (cJ, 6, .inr (.inl (ovL fs 6 0)))), (f4, .inl (cZ, 6, .inl (ov fm 6 1))), (f5, .inl (cZ, 40, .inl (ov fk 40 0))), (l3, .inl (cZ, 40, .inl (ov lr 40 0))), (l4, .inl (cI, 40, .inl (ov lm 40 0))), (ph, .inr (3, [pv_rows, pv_dropped, .int 0]))] := hD2
      replace hS := hS1
      clear hP2 hD2 hS1
      refine lv_iload_n hx hb dX4_told_23 rfl (lv_at hl 1 rfl) ?_
      have sw_4 : wa.toInt = 0 ∨ wa.toInt = 1 ∨ wa.toInt = 2 ∨ wa.toInt = 3 ∨ wa.toInt = 4 := by omega
      rcases sw_4 with sv_4 | sv_4 | sv_4 | sv_4 | sv_4
      · -- case 0
        refine lv_tableIn (tgt := 56) (off := 32) hx hb dX4_told_24 (by omega) (by omega) (by rw [sv_4]; rfl) (by decide) ?_
        refine lv_aload_n hx hb dX4_told_56 rfl (lv_at hl 0 rfl) ?_
        refine va_get (D := (dC, dI)) (ci := 4) (v := .ref ph) (C := RX4) (T := TX4) (N := 4) hx hb hts inc_X4_told_X4 hown hK hP 0 rfl rfl 0 (by decide) (hts (.fieldLink RX4 10 "ArraySegments" "program" "LArraySegments$Program;") (List.mem_of_getElem? (i := 2) rfl)) (fun _ h9 => h9) rfl dX4_told_57 ?_
        refine va_get (D := (dC, dI)) (ci := 3) (v := .int 0) (C := RX3) (T := TX3) (N := 3) hx hb hts inc_X4_told_X3 hown hK hP 10 rfl rfl 2 (by decide) (hts (.fieldLink RX4 34 "ArraySegments$Program" "count" "I") (List.mem_of_getElem? (i := 33) rfl)) (fun _ h9 => h9) rfl dX4_told_60 ?_
        have hP9 := hP.sub (ws' := []) [] rfl
        have hD9 := hD.sub (ws' := []) [] (by decide) rfl
        exact W.iret (v := 0) hx hb hr (fun t ht hW => ⟨⟨0, (fun _ => 0), rfl, (by refine Or.inl ⟨rfl, ?_⟩; first | assumption | omega), by rw [ht]; exact hP9, va_K.moved hW.alike hK, hD9⟩, hS.F ht⟩) hS.2.2 dX4_told_63
      · -- case 1
        refine lv_tableIn (tgt := 64) (off := 40) hx hb dX4_told_24 (by omega) (by omega) (by rw [sv_4]; rfl) (by decide) ?_
        refine lv_aload_n hx hb dX4_told_64 rfl (lv_at hl 0 rfl) ?_
        refine va_get (D := (dC, dI)) (ci := 4) (v := .ref ph) (C := RX4) (T := TX4) (N := 4) hx hb hts inc_X4_told_X4 hown hK hP 0 rfl rfl 0 (by decide) (hts (.fieldLink RX4 10 "ArraySegments" "program" "LArraySegments$Program;") (List.mem_of_getElem? (i := 2) rfl)) (fun _ h9 => h9) rfl dX4_told_65 ?_
        have hPc := hP.sub (ws' := [(ph, .inr (3, [pv_rows, pv_dropped, .int 0]))]) [10] rfl
        have hDc := hD.sub (ws' := [(ph, .inr (3, [pv_rows, pv_dropped, .int 0]))]) [10] (by decide) rfl
        have hFc := va_free (wc := [(ph, .inr (3, [pv_rows, pv_dropped, .int 0]))]) hD hS hA [10] rfl
        refine va_calli (va_runV (As := []) (rest := []) ⟨hx, hb, hml, hown, hts⟩ (c_X3_countKept l dC dI cI cJ cZ ph pv_rows pv_dropped H_3.size) (cwV 0 hts g_X4_told_X3_countKept_178 rfl rfl rfl (by decide +kernel) ⟨Nat.le_of_ble_eq_true rfl, Nat.le_of_ble_eq_true rfl⟩) ⟨cPre_blind, va_recv hK hPc (ci := 3) (q0 := 0) rfl rfl, cPre_of hK hN hPc hDc⟩ rfl rfl hl.1 rfl (lv_room (Nat.le_of_ble_eq_true rfl)) dX4_told_68 ⟨Nat.le_of_ble_eq_true rfl, Nat.le_of_ble_eq_true rfl⟩) hS (fun q _ h => hFc q h) hFc (fun r_5 u_5 t_5 H_5 locs_5 ht hvm hw_5 hB hz1 hk1 hS1 => ?_)
        obtain ⟨hP1, hK1, hD1⟩ := hB
        rw [ht] at hP1
        obtain ⟨hP2, hD2⟩ := va_join (wr := [(xh, .inr (4, [.ref ph, .ref lh, xf_machine, xf_lastStatus])), (lh, .inr (1, [.ref fh, lv_ahead, .int 0, .ref l3, .ref l4, lv_gatheredAny, lv_gatheredLeast, lv_gatheredGreatest])), (fh, .inr (0, [.int 1, .ref f1, .ref f2, .ref f3, .ref f4, .ref f5, fw_lanes, fw_shortest, fw_longest, fw_leastAt, fw_greatestAt])), (f1, .inl (cI, 6, .inl (ov fl 6 0))), (f2, .inl (cI, 6, .inl (ov fg 6 0))), (f3, .inl (cJ, 6, .inr (.inl (ovL fs 6 0)))), (f4, .inl (cZ, 6, .inl (ov fm 6 1))), (f5, .inl (cZ, 40, .inl (ov fk 40 0))), (l3, .inl (cZ, 40, .inl (ov lr 40 0))), (l4, .inl (cI, 40, .inl (ov lm 40 0)))]) (w1 := [(ph, .inr (3, [pv_rows, pv_dropped, .int 0]))]) hP hD [10] [0, 1, 2, 3, 4, 5, 6, 7, 8, 9] rfl rfl (by decide) (by decide) hk1 hFc hP1 hD1
        clear hPc hDc hFc hP1 hD1 hK1 hk1 hz1 hvm ht
        replace hP : va_P (dC, dI) vwCl [(xh, .inr (4, [.ref ph, .ref lh, xf_machine, xf_lastStatus])), (lh, .inr (1, [.ref fh, lv_ahead, .int 0, .ref l3, .ref l4, lv_gatheredAny, lv_gatheredLeast, lv_gatheredGreatest])), (fh, .inr (0, [.int 1, .ref f1, .ref f2, .ref f3, .ref f4, .ref f5, fw_lanes, fw_shortest, fw_longest, fw_leastAt, fw_greatestAt])), (f1, .inl (cI, 6, .inl (ov fl 6 0))), (f2, .inl (cI, 6, .inl (ov fg 6 0))), (f3, .inl (cJ, 6, .inr (.inl (ovL fs 6 0)))), (f4, .inl (cZ, 6, .inl (ov fm 6 1))), (f5, .inl (cZ, 40, .inl (ov fk 40 0))), (l3, .inl (cZ, 40, .inl (ov lr 40 0))), (l4, .inl (cI, 40, .inl (ov lm 40 0))), (ph, .inr (3, [pv_rows, pv_dropped, .int 0]))] H_5 := hP2
        replace hD : va_D A [(xh, .inr (4, [.ref ph, .ref lh, xf_machine, xf_lastStatus])), (lh, .inr (1, [.ref fh, lv_ahead, .int 0, .ref l3, .ref l4, lv_gatheredAny, lv_gatheredLeast, lv_gatheredGreatest])), (fh, .inr (0, [.int 1, .ref f1, .ref f2, .ref f3, .ref f4, .ref f5, fw_lanes, fw_shortest, fw_longest, fw_leastAt, fw_greatestAt])), (f1, .inl (cI, 6, .inl (ov fl 6 0))), (f2, .inl (cI, 6, .inl (ov fg 6 0))), (f3, .inl (cJ, 6, .inr (.inl (ovL fs 6 0)))), (f4, .inl (cZ, 6, .inl (ov fm 6 1))), (f5, .inl (cZ, 40, .inl (ov fk 40 0))), (l3, .inl (cZ, 40, .inl (ov lr 40 0))), (l4, .inl (cI, 40, .inl (ov lm 40 0))), (ph, .inr (3, [pv_rows, pv_dropped, .int 0]))] := hD2
        replace hS := hS1
        clear hP2 hD2 hS1
        refine my_topi (y := 0) hw_5 ?_
        have hP9 := hP.sub (ws' := []) [] rfl
        have hD9 := hD.sub (ws' := []) [] (by decide) rfl
        exact W.iret (v := 0) hx hb hr (fun t ht hW => ⟨⟨0, (fun _ => 0), rfl, (by refine Or.inl ⟨rfl, ?_⟩; first | assumption | omega), by rw [ht]; exact hP9, va_K.moved hW.alike hK, hD9⟩, hS.F ht⟩) hS.2.2 dX4_told_71
      · -- case 2
        refine lv_tableIn (tgt := 72) (off := 48) hx hb dX4_told_24 (by omega) (by omega) (by rw [sv_4]; rfl) (by decide) ?_
        refine lv_aload_n hx hb dX4_told_72 rfl (lv_at hl 0 rfl) ?_
        refine va_get (D := (dC, dI)) (ci := 4) (v := .ref lh) (C := RX4) (T := TX4) (N := 4) hx hb hts inc_X4_told_X4 hown hK hP 0 rfl rfl 1 (by decide) (hts (.fieldLink RX4 19 "ArraySegments" "flow" "LArraySegments$Flow;") (List.mem_of_getElem? (i := 1) rfl)) (fun _ h9 => h9) rfl dX4_told_73 ?_
        have hPc := hP.sub (ws' := [(lh, .inr (1, [.ref fh, lv_ahead, .int 0, .ref l3, .ref l4, lv_gatheredAny, lv_gatheredLeast, lv_gatheredGreatest])), (l3, .inl (cZ, 40, .inl (ov lr 40 0)))]) [1, 8] rfl
        have hDc := hD.sub (ws' := [(lh, .inr (1, [.ref fh, lv_ahead, .int 0, .ref l3, .ref l4, lv_gatheredAny, lv_gatheredLeast, lv_gatheredGreatest])), (l3, .inl (cZ, 40, .inl (ov lr 40 0)))]) [1, 8] (by decide) rfl
        have hFc := va_free (wc := [(lh, .inr (1, [.ref fh, lv_ahead, .int 0, .ref l3, .ref l4, lv_gatheredAny, lv_gatheredLeast, lv_gatheredGreatest])), (l3, .inl (cZ, 40, .inl (ov lr 40 0)))]) hD hS hA [1, 8] rfl
        refine va_calli (va_runV (As := []) (rest := []) ⟨hx, hb, hml, hown, hts⟩ (c_X1_countReached l dC dI cI cJ cZ lh l3 (.ref fh) lv_ahead (.int 0) (.ref l4) lv_gatheredAny lv_gatheredLeast lv_gatheredGreatest lr H_3.size) (cwV 0 hts g_X4_told_X1_countReached_182 rfl rfl rfl (by decide +kernel) ⟨Nat.le_of_ble_eq_true rfl, Nat.le_of_ble_eq_true rfl⟩) ⟨cPre_blind, va_recv hK hPc (ci := 1) (q0 := 0) rfl rfl, cPre_of hK hN hPc hDc⟩ rfl rfl hl.1 rfl (lv_room (Nat.le_of_ble_eq_true rfl)) dX4_told_76 ⟨Nat.le_of_ble_eq_true rfl, Nat.le_of_ble_eq_true rfl⟩) hS (fun q _ h => hFc q h) hFc (fun r_6 u_6 t_6 H_6 locs_6 ht hvm hw_6 hB hz1 hk1 hS1 => ?_)
        obtain ⟨hP1, hK1, hD1⟩ := hB
        rw [ht] at hP1
        obtain ⟨hP2, hD2⟩ := va_join (wr := [(xh, .inr (4, [.ref ph, .ref lh, xf_machine, xf_lastStatus])), (fh, .inr (0, [.int 1, .ref f1, .ref f2, .ref f3, .ref f4, .ref f5, fw_lanes, fw_shortest, fw_longest, fw_leastAt, fw_greatestAt])), (f1, .inl (cI, 6, .inl (ov fl 6 0))), (f2, .inl (cI, 6, .inl (ov fg 6 0))), (f3, .inl (cJ, 6, .inr (.inl (ovL fs 6 0)))), (f4, .inl (cZ, 6, .inl (ov fm 6 1))), (f5, .inl (cZ, 40, .inl (ov fk 40 0))), (l4, .inl (cI, 40, .inl (ov lm 40 0))), (ph, .inr (3, [pv_rows, pv_dropped, .int 0]))]) (w1 := [(lh, .inr (1, [.ref fh, lv_ahead, .int 0, .ref l3, .ref l4, lv_gatheredAny, lv_gatheredLeast, lv_gatheredGreatest])), (l3, .inl (cZ, 40, .inl (ov lr 40 0)))]) hP hD [1, 8] [0, 2, 3, 4, 5, 6, 7, 9, 10] rfl rfl (by decide) (by decide) hk1 hFc hP1 hD1
        clear hPc hDc hFc hP1 hD1 hK1 hk1 hz1 hvm ht
        replace hP : va_P (dC, dI) vwCl [(xh, .inr (4, [.ref ph, .ref lh, xf_machine, xf_lastStatus])), (fh, .inr (0, [.int 1, .ref f1, .ref f2, .ref f3, .ref f4, .ref f5, fw_lanes, fw_shortest, fw_longest, fw_leastAt, fw_greatestAt])), (f1, .inl (cI, 6, .inl (ov fl 6 0))), (f2, .inl (cI, 6, .inl (ov fg 6 0))), (f3, .inl (cJ, 6, .inr (.inl (ovL fs 6 0)))), (f4, .inl (cZ, 6, .inl (ov fm 6 1))), (f5, .inl (cZ, 40, .inl (ov fk 40 0))), (l4, .inl (cI, 40, .inl (ov lm 40 0))), (ph, .inr (3, [pv_rows, pv_dropped, .int 0])), (lh, .inr (1, [.ref fh, lv_ahead, .int 0, .ref l3, .ref l4, lv_gatheredAny, lv_gatheredLeast, lv_gatheredGreatest])), (l3, .inl (cZ, 40, .inl (ov lr 40 0)))] H_6 := hP2
        replace hD : va_D A [(xh, .inr (4, [.ref ph, .ref lh, xf_machine, xf_lastStatus])), (fh, .inr (0, [.int 1, .ref f1, .ref f2, .ref f3, .ref f4, .ref f5, fw_lanes, fw_shortest, fw_longest, fw_leastAt, fw_greatestAt])), (f1, .inl (cI, 6, .inl (ov fl 6 0))), (f2, .inl (cI, 6, .inl (ov fg 6 0))), (f3, .inl (cJ, 6, .inr (.inl (ovL fs 6 0)))), (f4, .inl (cZ, 6, .inl (ov fm 6 1))), (f5, .inl (cZ, 40, .inl (ov fk 40 0))), (l4, .inl (cI, 40, .inl (ov lm 40 0))), (ph, .inr (3, [pv_rows, pv_dropped, .int 0])), (lh, .inr (1, [.ref fh, lv_ahead, .int 0, .ref l3, .ref l4, lv_gatheredAny, lv_gatheredLeast, lv_gatheredGreatest])), (l3, .inl (cZ, 40, .inl (ov lr 40 0)))] := hD2
        replace hS := hS1
        clear hP2 hD2 hS1
        refine my_topi (y := 0) hw_6 ?_
        have hP9 := hP.sub (ws' := []) [] rfl
        have hD9 := hD.sub (ws' := []) [] (by decide) rfl
        exact W.iret (v := 0) hx hb hr (fun t ht hW => ⟨⟨0, (fun _ => 0), rfl, (by refine Or.inl ⟨rfl, ?_⟩; first | assumption | omega), by rw [ht]; exact hP9, va_K.moved hW.alike hK, hD9⟩, hS.F ht⟩) hS.2.2 dX4_told_79
      · -- case 3
        refine lv_tableIn (tgt := 80) (off := 56) hx hb dX4_told_24 (by omega) (by omega) (by rw [sv_4]; rfl) (by decide) ?_
        refine lv_aload_n hx hb dX4_told_80 rfl (lv_at hl 0 rfl) ?_
        refine va_get (D := (dC, dI)) (ci := 4) (v := .ref lh) (C := RX4) (T := TX4) (N := 4) hx hb hts inc_X4_told_X4 hown hK hP 0 rfl rfl 1 (by decide) (hts (.fieldLink RX4 19 "ArraySegments" "flow" "LArraySegments$Flow;") (List.mem_of_getElem? (i := 1) rfl)) (fun _ h9 => h9) rfl dX4_told_81 ?_
        have hPc := hP.sub (ws' := [(lh, .inr (1, [.ref fh, lv_ahead, .int 0, .ref l3, .ref l4, lv_gatheredAny, lv_gatheredLeast, lv_gatheredGreatest])), (l4, .inl (cI, 40, .inl (ov lm 40 0)))]) [1, 9] rfl
        have hDc := hD.sub (ws' := [(lh, .inr (1, [.ref fh, lv_ahead, .int 0, .ref l3, .ref l4, lv_gatheredAny, lv_gatheredLeast, lv_gatheredGreatest])), (l4, .inl (cI, 40, .inl (ov lm 40 0)))]) [1, 9] (by decide) rfl
        have hFc := va_free (wc := [(lh, .inr (1, [.ref fh, lv_ahead, .int 0, .ref l3, .ref l4, lv_gatheredAny, lv_gatheredLeast, lv_gatheredGreatest])), (l4, .inl (cI, 40, .inl (ov lm 40 0)))]) hD hS hA [1, 9] rfl
        refine va_calli (va_runV (As := []) (rest := []) ⟨hx, hb, hml, hown, hts⟩ (c_X1_countThrowing l dC dI cI cJ cZ lh l4 (.ref fh) lv_ahead (.int 0) (.ref l3) lv_gatheredAny lv_gatheredLeast lv_gatheredGreatest lm H_3.size) (cwV 0 hts g_X4_told_X1_countThrowing_185 rfl rfl rfl (by decide +kernel) ⟨Nat.le_of_ble_eq_true rfl, Nat.le_of_ble_eq_true rfl⟩) ⟨cPre_blind, va_recv hK hPc (ci := 1) (q0 := 0) rfl rfl, cPre_of hK hN hPc hDc⟩ rfl rfl hl.1 rfl (lv_room (Nat.le_of_ble_eq_true rfl)) dX4_told_84 ⟨Nat.le_of_ble_eq_true rfl, Nat.le_of_ble_eq_true rfl⟩) hS (fun q _ h => hFc q h) hFc (fun r_7 u_7 t_7 H_7 locs_7 ht hvm hw_7 hB hz1 hk1 hS1 => ?_)
        obtain ⟨hP1, hK1, hD1⟩ := hB
        rw [ht] at hP1
        obtain ⟨hP2, hD2⟩ := va_join (wr := [(xh, .inr (4, [.ref ph, .ref lh, xf_machine, xf_lastStatus])), (fh, .inr (0, [.int 1, .ref f1, .ref f2, .ref f3, .ref f4, .ref f5, fw_lanes, fw_shortest, fw_longest, fw_leastAt, fw_greatestAt])), (f1, .inl (cI, 6, .inl (ov fl 6 0))), (f2, .inl (cI, 6, .inl (ov fg 6 0))), (f3, .inl (cJ, 6, .inr (.inl (ovL fs 6 0)))), (f4, .inl (cZ, 6, .inl (ov fm 6 1))), (f5, .inl (cZ, 40, .inl (ov fk 40 0))), (l3, .inl (cZ, 40, .inl (ov lr 40 0))), (ph, .inr (3, [pv_rows, pv_dropped, .int 0]))]) (w1 := [(lh, .inr (1, [.ref fh, lv_ahead, .int 0, .ref l3, .ref l4, lv_gatheredAny, lv_gatheredLeast, lv_gatheredGreatest])), (l4, .inl (cI, 40, .inl (ov lm 40 0)))]) hP hD [1, 9] [0, 2, 3, 4, 5, 6, 7, 8, 10] rfl rfl (by decide) (by decide) hk1 hFc hP1 hD1
        clear hPc hDc hFc hP1 hD1 hK1 hk1 hz1 hvm ht
        replace hP : va_P (dC, dI) vwCl [(xh, .inr (4, [.ref ph, .ref lh, xf_machine, xf_lastStatus])), (fh, .inr (0, [.int 1, .ref f1, .ref f2, .ref f3, .ref f4, .ref f5, fw_lanes, fw_shortest, fw_longest, fw_leastAt, fw_greatestAt])), (f1, .inl (cI, 6, .inl (ov fl 6 0))), (f2, .inl (cI, 6, .inl (ov fg 6 0))), (f3, .inl (cJ, 6, .inr (.inl (ovL fs 6 0)))), (f4, .inl (cZ, 6, .inl (ov fm 6 1))), (f5, .inl (cZ, 40, .inl (ov fk 40 0))), (l3, .inl (cZ, 40, .inl (ov lr 40 0))), (ph, .inr (3, [pv_rows, pv_dropped, .int 0])), (lh, .inr (1, [.ref fh, lv_ahead, .int 0, .ref l3, .ref l4, lv_gatheredAny, lv_gatheredLeast, lv_gatheredGreatest])), (l4, .inl (cI, 40, .inl (ov lm 40 0)))] H_7 := hP2
        replace hD : va_D A [(xh, .inr (4, [.ref ph, .ref lh, xf_machine, xf_lastStatus])), (fh, .inr (0, [.int 1, .ref f1, .ref f2, .ref f3, .ref f4, .ref f5, fw_lanes, fw_shortest, fw_longest, fw_leastAt, fw_greatestAt])), (f1, .inl (cI, 6, .inl (ov fl 6 0))), (f2, .inl (cI, 6, .inl (ov fg 6 0))), (f3, .inl (cJ, 6, .inr (.inl (ovL fs 6 0)))), (f4, .inl (cZ, 6, .inl (ov fm 6 1))), (f5, .inl (cZ, 40, .inl (ov fk 40 0))), (l3, .inl (cZ, 40, .inl (ov lr 40 0))), (ph, .inr (3, [pv_rows, pv_dropped, .int 0])), (lh, .inr (1, [.ref fh, lv_ahead, .int 0, .ref l3, .ref l4, lv_gatheredAny, lv_gatheredLeast, lv_gatheredGreatest])), (l4, .inl (cI, 40, .inl (ov lm 40 0)))] := hD2
        replace hS := hS1
        clear hP2 hD2 hS1
        refine my_topi (y := 0) hw_7 ?_
        have hP9 := hP.sub (ws' := []) [] rfl
        have hD9 := hD.sub (ws' := []) [] (by decide) rfl
        exact W.iret (v := 0) hx hb hr (fun t ht hW => ⟨⟨0, (fun _ => 0), rfl, (by refine Or.inl ⟨rfl, ?_⟩; first | assumption | omega), by rw [ht]; exact hP9, va_K.moved hW.alike hK, hD9⟩, hS.F ht⟩) hS.2.2 dX4_told_87
      · -- case 4
        refine lv_tableOut (tgt := 88) hx hb dX4_told_24 (by omega) (by decide) ?_
        refine lv_aload_n hx hb dX4_told_88 rfl (lv_at hl 0 rfl) ?_
        refine va_get (D := (dC, dI)) (ci := 4) (v := .ref lh) (C := RX4) (T := TX4) (N := 4) hx hb hts inc_X4_told_X4 hown hK hP 0 rfl rfl 1 (by decide) (hts (.fieldLink RX4 19 "ArraySegments" "flow" "LArraySegments$Flow;") (List.mem_of_getElem? (i := 1) rfl)) (fun _ h9 => h9) rfl dX4_told_89 ?_
        refine va_get (D := (dC, dI)) (ci := 1) (v := .ref fh) (C := RX1) (T := TX1) (N := 8) hx hb hts inc_X4_told_X1 hown hK hP 1 rfl rfl 0 (by decide) (hts (.fieldLink RX4 70 "ArraySegments$Flow" "now" "LArraySegments$Facts;") (List.mem_of_getElem? (i := 46) rfl)) (fun _ h9 => h9) rfl dX4_told_92 ?_
        refine va_get (D := (dC, dI)) (ci := 0) (v := .int 1) (C := RX0) (T := TX0) (N := 11) hx hb hts inc_X4_told_X0 hown hK hP 2 rfl rfl 0 (by decide) (hts (.fieldLink RX4 74 "ArraySegments$Facts" "isReached" "Z") (List.mem_of_getElem? (i := 47) rfl)) (fun _ h9 => h9) rfl dX4_told_95 ?_
        refine lv_if_eq (tgt := 114) hx hb dX4_told_98 (by decide) (fun c_8 => ?_) (fun c_8 => ?_)
        · exact absurd c_8 (by decide)
        · -- on
          refine lv_aload_n hx hb dX4_told_101 rfl (lv_at hl 0 rfl) ?_
          refine va_get (D := (dC, dI)) (ci := 4) (v := .ref lh) (C := RX4) (T := TX4) (N := 4) hx hb hts inc_X4_told_X4 hown hK hP 0 rfl rfl 1 (by decide) (hts (.fieldLink RX4 19 "ArraySegments" "flow" "LArraySegments$Flow;") (List.mem_of_getElem? (i := 1) rfl)) (fun _ h9 => h9) rfl dX4_told_102 ?_
          refine va_get (D := (dC, dI)) (ci := 1) (v := .ref fh) (C := RX1) (T := TX1) (N := 8) hx hb hts inc_X4_told_X1 hown hK hP 1 rfl rfl 0 (by decide) (hts (.fieldLink RX4 70 "ArraySegments$Flow" "now" "LArraySegments$Facts;") (List.mem_of_getElem? (i := 46) rfl)) (fun _ h9 => h9) rfl dX4_told_105 ?_
          have hPc := hP.sub (ws' := [(fh, .inr (0, [.int 1, .ref f1, .ref f2, .ref f3, .ref f4, .ref f5, fw_lanes, fw_shortest, fw_longest, fw_leastAt, fw_greatestAt])), (f5, .inl (cZ, 40, .inl (ov fk 40 0)))]) [2, 7] rfl
          have hDc := hD.sub (ws' := [(fh, .inr (0, [.int 1, .ref f1, .ref f2, .ref f3, .ref f4, .ref f5, fw_lanes, fw_shortest, fw_longest, fw_leastAt, fw_greatestAt])), (f5, .inl (cZ, 40, .inl (ov fk 40 0)))]) [2, 7] (by decide) rfl
          have hFc := va_free (wc := [(fh, .inr (0, [.int 1, .ref f1, .ref f2, .ref f3, .ref f4, .ref f5, fw_lanes, fw_shortest, fw_longest, fw_leastAt, fw_greatestAt])), (f5, .inl (cZ, 40, .inl (ov fk 40 0)))]) hD hS hA [2, 7] rfl
          refine va_calli (va_runV (As := []) (rest := []) ⟨hx, hb, hml, hown, hts⟩ (c_X0_countKnown l dC dI cI cJ cZ fh f5 (.int 1) (.ref f1) (.ref f2) (.ref f3) (.ref f4) fw_lanes fw_shortest fw_longest fw_leastAt fw_greatestAt fk H_3.size) (cwV 0 hts g_X4_told_X0_countKnown_188 rfl rfl rfl (by decide +kernel) ⟨Nat.le_of_ble_eq_true rfl, Nat.le_of_ble_eq_true rfl⟩) ⟨cPre_blind, va_recv hK hPc (ci := 0) (q0 := 0) rfl rfl, cPre_of hK hN hPc hDc⟩ rfl rfl hl.1 rfl (lv_room (Nat.le_of_ble_eq_true rfl)) dX4_told_108 ⟨Nat.le_of_ble_eq_true rfl, Nat.le_of_ble_eq_true rfl⟩) hS (fun q _ h => hFc q h) hFc (fun r_9 u_9 t_9 H_9 locs_9 ht hvm hw_9 hB hz1 hk1 hS1 => ?_)
          obtain ⟨hP1, hK1, hD1⟩ := hB
          rw [ht] at hP1
          obtain ⟨hP2, hD2⟩ := va_join (wr := [(xh, .inr (4, [.ref ph, .ref lh, xf_machine, xf_lastStatus])), (lh, .inr (1, [.ref fh, lv_ahead, .int 0, .ref l3, .ref l4, lv_gatheredAny, lv_gatheredLeast, lv_gatheredGreatest])), (f1, .inl (cI, 6, .inl (ov fl 6 0))), (f2, .inl (cI, 6, .inl (ov fg 6 0))), (f3, .inl (cJ, 6, .inr (.inl (ovL fs 6 0)))), (f4, .inl (cZ, 6, .inl (ov fm 6 1))), (l3, .inl (cZ, 40, .inl (ov lr 40 0))), (l4, .inl (cI, 40, .inl (ov lm 40 0))), (ph, .inr (3, [pv_rows, pv_dropped, .int 0]))]) (w1 := [(fh, .inr (0, [.int 1, .ref f1, .ref f2, .ref f3, .ref f4, .ref f5, fw_lanes, fw_shortest, fw_longest, fw_leastAt, fw_greatestAt])), (f5, .inl (cZ, 40, .inl (ov fk 40 0)))]) hP hD [2, 7] [0, 1, 3, 4, 5, 6, 8, 9, 10] rfl rfl (by decide) (by decide) hk1 hFc hP1 hD1
          clear hPc hDc hFc hP1 hD1 hK1 hk1 hz1 hvm ht
          replace hP : va_P (dC, dI) vwCl [(xh, .inr (4, [.ref ph, .ref lh, xf_machine, xf_lastStatus])), (lh, .inr (1, [.ref fh, lv_ahead, .int 0, .ref l3, .ref l4, lv_gatheredAny, lv_gatheredLeast, lv_gatheredGreatest])), (f1, .inl (cI, 6, .inl (ov fl 6 0))), (f2, .inl (cI, 6, .inl (ov fg 6 0))), (f3, .inl (cJ, 6, .inr (.inl (ovL fs 6 0)))), (f4, .inl (cZ, 6, .inl (ov fm 6 1))), (l3, .inl (cZ, 40, .inl (ov lr 40 0))), (l4, .inl (cI, 40, .inl (ov lm 40 0))), (ph, .inr (3, [pv_rows, pv_dropped, .int 0])), (fh, .inr (0, [.int 1, .ref f1, .ref f2, .ref f3, .ref f4, .ref f5, fw_lanes, fw_shortest, fw_longest, fw_leastAt, fw_greatestAt])), (f5, .inl (cZ, 40, .inl (ov fk 40 0)))] H_9 := hP2
          replace hD : va_D A [(xh, .inr (4, [.ref ph, .ref lh, xf_machine, xf_lastStatus])), (lh, .inr (1, [.ref fh, lv_ahead, .int 0, .ref l3, .ref l4, lv_gatheredAny, lv_gatheredLeast, lv_gatheredGreatest])), (f1, .inl (cI, 6, .inl (ov fl 6 0))), (f2, .inl (cI, 6, .inl (ov fg 6 0))), (f3, .inl (cJ, 6, .inr (.inl (ovL fs 6 0)))), (f4, .inl (cZ, 6, .inl (ov fm 6 1))), (l3, .inl (cZ, 40, .inl (ov lr 40 0))), (l4, .inl (cI, 40, .inl (ov lm 40 0))), (ph, .inr (3, [pv_rows, pv_dropped, .int 0])), (fh, .inr (0, [.int 1, .ref f1, .ref f2, .ref f3, .ref f4, .ref f5, fw_lanes, fw_shortest, fw_longest, fw_leastAt, fw_greatestAt])), (f5, .inl (cZ, 40, .inl (ov fk 40 0)))] := hD2
          replace hS := hS1
          clear hP2 hD2 hS1
          refine my_topi (y := 0) hw_9 ?_
          refine lv_goto (tgt := 115) hx hb dX4_told_111 (by decide) ?_
          have hP9 := hP.sub (ws' := []) [] rfl
          have hD9 := hD.sub (ws' := []) [] (by decide) rfl
          exact W.iret (v := 0) hx hb hr (fun t ht hW => ⟨⟨0, (fun _ => 0), rfl, (by refine Or.inl ⟨rfl, ?_⟩; first | assumption | omega), by rw [ht]; exact hP9, va_K.moved hW.alike hK, hD9⟩, hS.F ht⟩) hS.2.2 dX4_told_115
    · -- no
      have k_2 : (4 : Int) < (wa.toInt : Int) := by first | exact nle_i c_2 | simpa using nle_i c_2
      refine lv_bipush (v := (-2)) hx hb dX4_told_9 (by decide) ?_
      have hP9 := hP.sub (ws' := []) [] rfl
      have hD9 := hD.sub (ws' := []) [] (by decide) rfl
      exact W.iret (v := (-2)) hx hb hr (fun t ht hW => ⟨⟨(-2), (fun _ => 0), rfl, (by refine Or.inr ⟨rfl, ?_⟩; first | assumption | omega), by rw [ht]; exact hP9, va_K.moved hW.alike hK, hD9⟩, hS.F ht⟩) hS.2.2 dX4_told_11

def w_X4_init : List Cond := .code yX4_init cX4_init 1 none :: ([.methodLink RX4 1 objectInit, .instanceMethod objectInit, .code objectInit ⟨#[0xb1]⟩ 1 none, .classLink RX4 7 RX3, .instantiable RX3 3, .initialized RX3, .code yX3_init cX3_init 1 none, .methodLink RX3 3 objectInit, .arrayClass .int, .fieldLink RX3 11 "ArraySegments$Program" "rows" "[I", .arrayClass .boolean, .fieldLink RX3 15 "ArraySegments$Program" "dropped" "[Z", .fieldLink RX3 19 "ArraySegments$Program" "count" "I", .instanceMethod yX3_init, .fieldLink RX4 10 "ArraySegments" "program" "LArraySegments$Program;", .classLink RX4 16 RX1, .instantiable RX1 8, .initialized RX1, .code yX1_init cX1_init 1 none, .methodLink RX1 3 objectInit, .classLink RX1 9 RX0, .instantiable RX0 11, .initialized RX0, .code yX0_init cX0_init 1 none, .methodLink RX0 3 objectInit, .fieldLink RX0 9 "ArraySegments$Facts" "isReached" "Z", .fieldLink RX0 15 "ArraySegments$Facts" "least" "[I", .fieldLink RX0 19 "ArraySegments$Facts" "greatest" "[I", .arrayClass .long, .fieldLink RX0 22 "ArraySegments$Facts" "sites" "[J", .fieldLink RX0 26 "ArraySegments$Facts" "maybeNull" "[Z", .fieldLink RX0 30 "ArraySegments$Facts" "known" "[Z", .fieldLink RX0 33 "ArraySegments$Facts" "lanes" "[I", .fieldLink RX0 36 "ArraySegments$Facts" "shortest" "[I", .fieldLink RX0 39 "ArraySegments$Facts" "longest" "[I", .fieldLink RX0 42 "ArraySegments$Facts" "leastAt" "[I", .fieldLink RX0 45 "ArraySegments$Facts" "greatestAt" "[I", .instanceMethod yX0_init, .fieldLink RX1 12 "ArraySegments$Flow" "now" "LArraySegments$Facts;", .fieldLink RX1 18 "ArraySegments$Flow" "ahead" "LArraySegments$Facts;", .fieldLink RX1 21 "ArraySegments$Flow" "isOld" "Z", .fieldLink RX1 25 "ArraySegments$Flow" "isReached" "[Z", .fieldLink RX1 29 "ArraySegments$Flow" "mayThrow" "[I", .fieldLink RX1 33 "ArraySegments$Flow" "gatheredAny" "Z", .fieldLink RX1 36 "ArraySegments$Flow" "gatheredLeast" "I", .fieldLink RX1 40 "ArraySegments$Flow" "gatheredGreatest" "I", .instanceMethod yX1_init, .fieldLink RX4 19 "ArraySegments" "flow" "LArraySegments$Flow;", .classLink RX4 23 RX2, .instantiable RX2 9, .initialized RX2, .code yX2_init cX2_init 1 none, .methodLink RX2 3 objectInit, .fieldLink RX2 9 "ArraySegments$Machine" "hasRun" "Z", .fieldLink RX2 15 "ArraySegments$Machine" "thrown" "I", .fieldLink RX2 19 "ArraySegments$Machine" "thrownAt" "I", .fieldLink RX2 22 "ArraySegments$Machine" "values" "[I", .fieldLink RX2 26 "ArraySegments$Machine" "meant" "[I", .fieldLink RX2 29 "ArraySegments$Machine" "lanes" "[I", .fieldLink RX2 32 "ArraySegments$Machine" "lengths" "[I", .fieldLink RX2 35 "ArraySegments$Machine" "cells" "[I", .fieldLink RX2 38 "ArraySegments$Machine" "state" "J", .methodLink RX2 42 yX2_forget, .instanceMethod yX2_forget, .selects RX2 yX2_forget yX2_forget, .code yX2_forget cX2_forget 2 none, .methodLink RX4 25 yX2_init, .instanceMethod yX2_init, .fieldLink RX4 26 "ArraySegments" "machine" "LArraySegments$Machine;", .fieldLink RX4 30 "ArraySegments" "lastStatus" "I"] ++ wsX30 ++ wsX40 ++ wsX10 ++ wsX00 ++ wsX20)
theorem inc_X4_init_X1 : ∀ w ∈ wsX10, w ∈ w_X4_init := fun _ h => List.mem_cons_of_mem _ (List.mem_append_left _ (List.mem_append_left _ (List.mem_append_right _ h)))
theorem inc_X4_init_X2 : ∀ w ∈ wsX20, w ∈ w_X4_init := fun _ h => List.mem_cons_of_mem _ (List.mem_append_right _ h)
theorem inc_X4_init_X3 : ∀ w ∈ wsX30, w ∈ w_X4_init := fun _ h => List.mem_cons_of_mem _ (List.mem_append_left _ (List.mem_append_left _ (List.mem_append_left _ (List.mem_append_left _ (List.mem_append_right _ h)))))
theorem inc_X4_init_X4 : ∀ w ∈ wsX40, w ∈ w_X4_init := fun _ h => List.mem_cons_of_mem _ (List.mem_append_left _ (List.mem_append_left _ (List.mem_append_left _ (List.mem_append_right _ h))))
set_option maxRecDepth 20000 in
theorem g_X4_init_X3_init_9 : GoodIn w_X4_init (w_X3_init) := goodIn_r _ [7, 8, 2, 3, 9, 10, 11, 12, 13, 71, 72, 73] (by decide +kernel) (by decide +kernel)
set_option maxRecDepth 20000 in
theorem g_X4_init_X1_init_18 : GoodIn w_X4_init (w_X1_init) := goodIn_r _ [19, 20, 2, 3, 21, 22, 23, 24, 25, 26, 9, 27, 28, 29, 30, 11, 31, 32, 33, 34, 35, 36, 37, 38, 39, 40, 41, 42, 43, 44, 45, 46, 86, 87, 88, 89, 90, 91, 92, 93, 94, 95, 96, 78, 79, 80, 81, 82, 83, 84, 85] (by decide +kernel) (by decide +kernel)
set_option maxRecDepth 20000 in
theorem g_X4_init_X2_init_25 : GoodIn w_X4_init (w_X2_init) := goodIn_r _ [52, 53, 2, 3, 54, 55, 56, 9, 57, 58, 59, 60, 61, 62, 63, 64, 65, 51, 66, 97, 98, 99, 100, 101, 102, 103, 104, 105] (by decide +kernel) (by decide +kernel)
abbrev pw_X4_init (cI cJ cZ : ClassId) (xh : Nat) : va_W := [(xh, .inr (4, [.null, .null, .null, .int 0]))]
set_option maxHeartbeats 4000000 in
set_option maxRecDepth 100000 in
theorem c_X4_init (l : Launch) (dC : Nat → ClassId) (dI : Nat → Nat → Nat) (cI cJ cZ : ClassId) (xh : Nat) (sz : Nat) : Met l yX4_init w_X4_init ({ frames := 3, cells := 34, slots := 3262, locals := 52 }) (va_Pc [.ref xh] (cPre dC dI cI cJ cZ sz (pw_X4_init cI cJ cZ xh))) (va_Qv (fun (u : Nat → Nat) => True) (fun (u : Nat → Nat) => cPost dC dI cI cJ cZ (va_A (pw_X4_init cI cJ cZ xh) sz) [(xh, .inr (4, [.ref (u 0), .ref (u 3), .ref (u 28), .int 0])), ((u 0), .inr (3, [.ref (u 1), .ref (u 2), .int 0])), ((u 1), .inl (cI, 240, .inl (fun _ => 0))), ((u 2), .inl (cZ, 40, .inl (fun _ => 0))), ((u 3), .inr (1, [.ref (u 4), .ref (u 15), .int 1, .ref (u 26), .ref (u 27), .int 0, .int 0, .int 0])), ((u 4), .inr (0, [.int 0, .ref (u 5), .ref (u 6), .ref (u 7), .ref (u 8), .ref (u 9), .ref (u 10), .ref (u 11), .ref (u 12), .ref (u 13), .ref (u 14)])), ((u 5), .inl (cI, 6, .inl (fun _ => 0))), ((u 6), .inl (cI, 6, .inl (fun _ => 0))), ((u 7), .inl (cJ, 6, .inr (.inl (fun _ => 0)))), ((u 8), .inl (cZ, 6, .inl (fun _ => 0))), ((u 9), .inl (cZ, 40, .inl (fun _ => 0))), ((u 10), .inl (cI, 40, .inl (fun _ => 0))), ((u 11), .inl (cI, 40, .inl (fun _ => 0))), ((u 12), .inl (cI, 40, .inl (fun _ => 0))), ((u 13), .inl (cI, 480, .inl (fun _ => 0))), ((u 14), .inl (cI, 480, .inl (fun _ => 0))), ((u 15), .inr (0, [.int 0, .ref (u 16), .ref (u 17), .ref (u 18), .ref (u 19), .ref (u 20), .ref (u 21), .ref (u 22), .ref (u 23), .ref (u 24), .ref (u 25)])), ((u 16), .inl (cI, 6, .inl (fun _ => 0))), ((u 17), .inl (cI, 6, .inl (fun _ => 0))), ((u 18), .inl (cJ, 6, .inr (.inl (fun _ => 0)))), ((u 19), .inl (cZ, 6, .inl (fun _ => 0))), ((u 20), .inl (cZ, 40, .inl (fun _ => 0))), ((u 21), .inl (cI, 40, .inl (fun _ => 0))), ((u 22), .inl (cI, 40, .inl (fun _ => 0))), ((u 23), .inl (cI, 40, .inl (fun _ => 0))), ((u 24), .inl (cI, 480, .inl (fun _ => 0))), ((u 25), .inl (cI, 480, .inl (fun _ => 0))), ((u 26), .inl (cZ, 40, .inl (fun _ => 0))), ((u 27), .inl (cI, 40, .inl (fun _ => 0))), ((u 28), .inr (2, [.int 0, .int 0, .int (-1), .ref (u 29), .ref (u 30), .ref (u 31), .ref (u 32), .ref (u 33), .long 0])), ((u 29), .inl (cI, 6, .inl (ov (fun _ => 0) 6 0))), ((u 30), .inl (cI, 6, .inl (ov (fun _ => 0) 6 (-1)))), ((u 31), .inl (cI, 40, .inl (fun _ => 0))), ((u 32), .inl (cI, 40, .inl (fun _ => 0))), ((u 33), .inl (cI, 480, .inl (fun _ => 0)))]) (va_A (pw_X4_init cI cJ cZ xh) sz)) 34 3262 (va_A (pw_X4_init cI cJ cZ xh) sz) := by
  refine Met.ofW (cc := cX4_init) (maxL := 1) (ret := none) (by decide) rfl ?_
  intro p e s m args below meth c s₁ B hml hv
  obtain ⟨rfl, hsz, hP, hK, hD0, hN⟩ := hv
  have hx := B.exec
  have hb := B.bytes
  have hr := B.returns
  have hts := atoms_spec (ws := w_X4_init) B.pre
  have hown : s.vm.findClass RX4 = some m.cls := findClass_of_methodNamed B.named
  have hlocks := B.notSynchronized
  have hin : meth.name = "<init>" := (name_of_methodNamed B.named B.method).1
  subst hsz
  have hD := hD0.self (sz := s.heap.size)
  generalize hAe : va_A (pw_X4_init cI cJ cZ xh) s.heap.size = A at hD ⊢
  have hA : ∀ q : Nat, s.heap.size ≤ q → A q := fun q h => by rw [← hAe]; exact Or.inr h
  clear hAe hD0
  have hS : va_S A s.heap s.heap [] := va_S.rf
  replace hP : va_P (dC, dI) vwCl [(xh, .inr (4, [.null, .null, .null, .int 0]))] s.heap := hP
  replace hD : va_D A [(xh, .inr (4, [.null, .null, .null, .int 0]))] := hD
  have hl := lv_entry ([.ref xh]) (n := 1) (Nat.le_of_ble_eq_true rfl)
  rw [lg_entry_eq]
  generalize (lg_sl ([.ref xh]) ++ List.replicate (1 - (lg_sl ([.ref xh])).length) Slot.unset).toArray = ls at hl ⊢
  replace hl : lv_has ls 1 [(0, .ref xh)] := hl
  refine lv_aload_n hx hb dX4_init_0 rfl (lv_at hl 0 rfl) ?_
  refine W.objInit hx hb hown (hts (.methodLink RX4 1 objectInit) (List.mem_of_getElem? (i := 1) rfl)) (hts (.instanceMethod objectInit) (List.mem_of_getElem? (i := 2) rfl)) (hts (.code objectInit ⟨#[0xb1]⟩ 1 none) (List.mem_of_getElem? (i := 3) rfl)) rfl (by rw [hml]; exact hl.1) rfl dX4_init_1 (Nat.le_of_ble_eq_true rfl) (Nat.le_of_ble_eq_true rfl) ?_
  refine W.eq (g2 := F0 m 4 _ []) rfl ?_
  refine lv_aload_n hx hb dX4_init_4 rfl (lv_at hl 0 rfl) ?_
  refine va_new (ci := 3) (fs := [.null, .null, .int 0]) (C := RX3) (T := TX3) (N := 3) hx hb hts inc_X4_init_X3 tyX3 tyX3_ok hown (hts (.classLink RX4 7 RX3) (List.mem_of_getElem? (i := 4) rfl)) (hts (.instantiable RX3 3) (List.mem_of_getElem? (i := 5) rfl)) (hts (.initialized RX3) (List.mem_of_getElem? (i := 6) rfl)) hK hP hD hS hA rfl (fun j hj => by rcases (show j = 0 ∨ j = 1 ∨ j = 2 by omega) with rfl | rfl | rfl <;> rfl) (Nat.le_of_ble_eq_true rfl) (Nat.le_of_ble_eq_true rfl) dX4_init_5 (fun q_1 H_1 hP1 hD1 hS1 => ?_)
  replace hP : va_P (dC, dI) vwCl [(xh, .inr (4, [.null, .null, .null, .int 0])), (q_1, .inr (3, [.null, .null, .int 0]))] H_1 := hP1
  replace hD : va_D A [(xh, .inr (4, [.null, .null, .null, .int 0])), (q_1, .inr (3, [.null, .null, .int 0]))] := hD1
  replace hS := hS1
  clear hP1 hD1 hS1
  refine W.widen (k := 1) (n := 3) (Nat.le_of_ble_eq_true rfl) (Nat.le_of_ble_eq_true rfl) ?_
  refine lv_dup hx hb dX4_init_8 rfl ?_
  have hPc := hP.sub (ws' := [(q_1, .inr (3, [.null, .null, .int 0]))]) [1] rfl
  have hDc := hD.sub (ws' := [(q_1, .inr (3, [.null, .null, .int 0]))]) [1] (by decide) rfl
  have hFc := va_free (wc := [(q_1, .inr (3, [.null, .null, .int 0]))]) hD hS hA [1] rfl
  refine va_callv (va_runIN (As := []) (rest := [.ref q_1, .ref xh]) ⟨hx, hb, hml, hown, hts⟩ (c_X3_init l dC dI cI cJ cZ q_1 H_1.size) (⟨va_cnB 0 hts g_X4_init_X3_init_9 rfl rfl rfl (hN.1) (hts (.initialized RX3) (List.mem_of_getElem? (i := 6) rfl)) (by decide +kernel) ⟨Nat.le_of_ble_eq_true rfl, Nat.le_of_ble_eq_true rfl⟩, rfl, hts (.instanceMethod yX3_init) (List.mem_of_getElem? (i := 14) rfl)⟩) ⟨cPre_blind, cPre_of hK hN hPc hDc⟩ rfl rfl hl.1 rfl (lv_room (Nat.le_of_ble_eq_true rfl)) dX4_init_9 ⟨Nat.le_of_ble_eq_true rfl, Nat.le_of_ble_eq_true rfl⟩) hS (fun q _ h => hFc q h) hFc (fun u_2 t_2 H_2 locs_2 ht hvm hw_2 hB hz1 hk1 hS1 => ?_)
  obtain ⟨hP1, hK1, hD1⟩ := hB
  rw [ht] at hP1
  obtain ⟨hP2, hD2⟩ := va_join (wr := [(xh, .inr (4, [.null, .null, .null, .int 0]))]) (w1 := [(q_1, .inr (3, [.ref (u_2 0), .ref (u_2 1), .int 0])), ((u_2 0), .inl (cI, 240, .inl (fun _ => 0))), ((u_2 1), .inl (cZ, 40, .inl (fun _ => 0)))]) hP hD [1] [0] rfl rfl (by decide) (by decide) hk1 hFc hP1 hD1
  clear hPc hDc hFc hP1 hD1 hK1 hk1 hz1 hvm ht
  replace hP : va_P (dC, dI) vwCl [(xh, .inr (4, [.null, .null, .null, .int 0])), (q_1, .inr (3, [.ref (u_2 0), .ref (u_2 1), .int 0])), ((u_2 0), .inl (cI, 240, .inl (fun _ => 0))), ((u_2 1), .inl (cZ, 40, .inl (fun _ => 0)))] H_2 := hP2
  replace hD : va_D A [(xh, .inr (4, [.null, .null, .null, .int 0])), (q_1, .inr (3, [.ref (u_2 0), .ref (u_2 1), .int 0])), ((u_2 0), .inl (cI, 240, .inl (fun _ => 0))), ((u_2 1), .inl (cZ, 40, .inl (fun _ => 0)))] := hD2
  replace hS := hS1
  clear hP2 hD2 hS1
  refine W.widen (k := 3) (n := 283) (Nat.le_of_ble_eq_true rfl) (Nat.le_of_ble_eq_true rfl) ?_
  refine va_putF (D := (dC, dI)) (ci := 4) (v := .ref q_1) (ty := .object "ArraySegments$Program") (C := RX4) (T := TX4) (N := 4) hx hb hts inc_X4_init_X4 tyX4 tyX4_ok nmX4 hown hK hP hD hS 0 rfl rfl 0 (by decide) (hts (.fieldLink RX4 10 "ArraySegments" "program" "LArraySegments$Program;") (List.mem_of_getElem? (i := 15) rfl)) (fun _ h9 => h9) rfl hin rfl (by decide +kernel) rfl rfl (Nat.le_of_ble_eq_true rfl) dX4_init_12 (fun H_3 locs_3 hP1 hD1 hS1 => ?_)
  replace hP : va_P (dC, dI) vwCl [(xh, .inr (4, [.ref q_1, .null, .null, .int 0])), (q_1, .inr (3, [.ref (u_2 0), .ref (u_2 1), .int 0])), ((u_2 0), .inl (cI, 240, .inl (fun _ => 0))), ((u_2 1), .inl (cZ, 40, .inl (fun _ => 0)))] H_3 := hP1
  replace hD : va_D A [(xh, .inr (4, [.ref q_1, .null, .null, .int 0])), (q_1, .inr (3, [.ref (u_2 0), .ref (u_2 1), .int 0])), ((u_2 0), .inl (cI, 240, .inl (fun _ => 0))), ((u_2 1), .inl (cZ, 40, .inl (fun _ => 0)))] := hD1
  replace hS := hS1
  clear hP1 hD1 hS1
  refine lv_aload_n hx hb dX4_init_15 rfl (lv_at hl 0 rfl) ?_
  refine va_new (ci := 1) (fs := [.null, .null, .int 0, .null, .null, .int 0, .int 0, .int 0]) (C := RX1) (T := TX1) (N := 8) hx hb hts inc_X4_init_X1 tyX1 tyX1_ok hown (hts (.classLink RX4 16 RX1) (List.mem_of_getElem? (i := 16) rfl)) (hts (.instantiable RX1 8) (List.mem_of_getElem? (i := 17) rfl)) (hts (.initialized RX1) (List.mem_of_getElem? (i := 18) rfl)) hK hP hD hS hA rfl (fun j hj => by rcases (show j = 0 ∨ j = 1 ∨ j = 2 ∨ j = 3 ∨ j = 4 ∨ j = 5 ∨ j = 6 ∨ j = 7 by omega) with rfl | rfl | rfl | rfl | rfl | rfl | rfl | rfl <;> rfl) (Nat.le_of_ble_eq_true rfl) (Nat.le_of_ble_eq_true rfl) dX4_init_16 (fun q_4 H_4 hP1 hD1 hS1 => ?_)
  replace hP : va_P (dC, dI) vwCl [(xh, .inr (4, [.ref q_1, .null, .null, .int 0])), (q_1, .inr (3, [.ref (u_2 0), .ref (u_2 1), .int 0])), ((u_2 0), .inl (cI, 240, .inl (fun _ => 0))), ((u_2 1), .inl (cZ, 40, .inl (fun _ => 0))), (q_4, .inr (1, [.null, .null, .int 0, .null, .null, .int 0, .int 0, .int 0]))] H_4 := hP1
  replace hD : va_D A [(xh, .inr (4, [.ref q_1, .null, .null, .int 0])), (q_1, .inr (3, [.ref (u_2 0), .ref (u_2 1), .int 0])), ((u_2 0), .inl (cI, 240, .inl (fun _ => 0))), ((u_2 1), .inl (cZ, 40, .inl (fun _ => 0))), (q_4, .inr (1, [.null, .null, .int 0, .null, .null, .int 0, .int 0, .int 0]))] := hD1
  replace hS := hS1
  clear hP1 hD1 hS1
  refine W.widen (k := 4) (n := 291) (Nat.le_of_ble_eq_true rfl) (Nat.le_of_ble_eq_true rfl) ?_
  refine lv_dup hx hb dX4_init_19 rfl ?_
  have hPc := hP.sub (ws' := [(q_4, .inr (1, [.null, .null, .int 0, .null, .null, .int 0, .int 0, .int 0]))]) [4] rfl
  have hDc := hD.sub (ws' := [(q_4, .inr (1, [.null, .null, .int 0, .null, .null, .int 0, .int 0, .int 0]))]) [4] (by decide) rfl
  have hFc := va_free (wc := [(q_4, .inr (1, [.null, .null, .int 0, .null, .null, .int 0, .int 0, .int 0]))]) hD hS hA [4] rfl
  refine va_callv (va_runIN (As := []) (rest := [.ref q_4, .ref xh]) ⟨hx, hb, hml, hown, hts⟩ (c_X1_init l dC dI cI cJ cZ q_4 H_4.size) (⟨va_cnB 0 hts g_X4_init_X1_init_18 rfl rfl rfl (hN.2.1) (hts (.initialized RX1) (List.mem_of_getElem? (i := 18) rfl)) (by decide +kernel) ⟨Nat.le_of_ble_eq_true rfl, Nat.le_of_ble_eq_true rfl⟩, rfl, hts (.instanceMethod yX1_init) (List.mem_of_getElem? (i := 47) rfl)⟩) ⟨cPre_blind, cPre_of hK hN hPc hDc⟩ rfl rfl hl.1 rfl (lv_room (Nat.le_of_ble_eq_true rfl)) dX4_init_20 ⟨Nat.le_of_ble_eq_true rfl, Nat.le_of_ble_eq_true rfl⟩) hS (fun q _ h => hFc q h) hFc (fun u_5 t_5 H_5 locs_5 ht hvm hw_5 hB hz1 hk1 hS1 => ?_)
  obtain ⟨hP1, hK1, hD1⟩ := hB
  rw [ht] at hP1
  obtain ⟨hP2, hD2⟩ := va_join (wr := [(xh, .inr (4, [.ref q_1, .null, .null, .int 0])), (q_1, .inr (3, [.ref (u_2 0), .ref (u_2 1), .int 0])), ((u_2 0), .inl (cI, 240, .inl (fun _ => 0))), ((u_2 1), .inl (cZ, 40, .inl (fun _ => 0)))]) (w1 := [(q_4, .inr (1, [.ref (u_5 0), .ref (u_5 11), .int 1, .ref (u_5 22), .ref (u_5 23), .int 0, .int 0, .int 0])), ((u_5 0), .inr (0, [.int 0, .ref (u_5 1), .ref (u_5 2), .ref (u_5 3), .ref (u_5 4), .ref (u_5 5), .ref (u_5 6), .ref (u_5 7), .ref (u_5 8), .ref (u_5 9), .ref (u_5 10)])), ((u_5 1), .inl (cI, 6, .inl (fun _ => 0))), ((u_5 2), .inl (cI, 6, .inl (fun _ => 0))), ((u_5 3), .inl (cJ, 6, .inr (.inl (fun _ => 0)))), ((u_5 4), .inl (cZ, 6, .inl (fun _ => 0))), ((u_5 5), .inl (cZ, 40, .inl (fun _ => 0))), ((u_5 6), .inl (cI, 40, .inl (fun _ => 0))), ((u_5 7), .inl (cI, 40, .inl (fun _ => 0))), ((u_5 8), .inl (cI, 40, .inl (fun _ => 0))), ((u_5 9), .inl (cI, 480, .inl (fun _ => 0))), ((u_5 10), .inl (cI, 480, .inl (fun _ => 0))), ((u_5 11), .inr (0, [.int 0, .ref (u_5 12), .ref (u_5 13), .ref (u_5 14), .ref (u_5 15), .ref (u_5 16), .ref (u_5 17), .ref (u_5 18), .ref (u_5 19), .ref (u_5 20), .ref (u_5 21)])), ((u_5 12), .inl (cI, 6, .inl (fun _ => 0))), ((u_5 13), .inl (cI, 6, .inl (fun _ => 0))), ((u_5 14), .inl (cJ, 6, .inr (.inl (fun _ => 0)))), ((u_5 15), .inl (cZ, 6, .inl (fun _ => 0))), ((u_5 16), .inl (cZ, 40, .inl (fun _ => 0))), ((u_5 17), .inl (cI, 40, .inl (fun _ => 0))), ((u_5 18), .inl (cI, 40, .inl (fun _ => 0))), ((u_5 19), .inl (cI, 40, .inl (fun _ => 0))), ((u_5 20), .inl (cI, 480, .inl (fun _ => 0))), ((u_5 21), .inl (cI, 480, .inl (fun _ => 0))), ((u_5 22), .inl (cZ, 40, .inl (fun _ => 0))), ((u_5 23), .inl (cI, 40, .inl (fun _ => 0)))]) hP hD [4] [0, 1, 2, 3] rfl rfl (by decide) (by decide) hk1 hFc hP1 hD1
  clear hPc hDc hFc hP1 hD1 hK1 hk1 hz1 hvm ht
  replace hP : va_P (dC, dI) vwCl [(xh, .inr (4, [.ref q_1, .null, .null, .int 0])), (q_1, .inr (3, [.ref (u_2 0), .ref (u_2 1), .int 0])), ((u_2 0), .inl (cI, 240, .inl (fun _ => 0))), ((u_2 1), .inl (cZ, 40, .inl (fun _ => 0))), (q_4, .inr (1, [.ref (u_5 0), .ref (u_5 11), .int 1, .ref (u_5 22), .ref (u_5 23), .int 0, .int 0, .int 0])), ((u_5 0), .inr (0, [.int 0, .ref (u_5 1), .ref (u_5 2), .ref (u_5 3), .ref (u_5 4), .ref (u_5 5), .ref (u_5 6), .ref (u_5 7), .ref (u_5 8), .ref (u_5 9), .ref (u_5 10)])), ((u_5 1), .inl (cI, 6, .inl (fun _ => 0))), ((u_5 2), .inl (cI, 6, .inl (fun _ => 0))), ((u_5 3), .inl (cJ, 6, .inr (.inl (fun _ => 0)))), ((u_5 4), .inl (cZ, 6, .inl (fun _ => 0))), ((u_5 5), .inl (cZ, 40, .inl (fun _ => 0))), ((u_5 6), .inl (cI, 40, .inl (fun _ => 0))), ((u_5 7), .inl (cI, 40, .inl (fun _ => 0))), ((u_5 8), .inl (cI, 40, .inl (fun _ => 0))), ((u_5 9), .inl (cI, 480, .inl (fun _ => 0))), ((u_5 10), .inl (cI, 480, .inl (fun _ => 0))), ((u_5 11), .inr (0, [.int 0, .ref (u_5 12), .ref (u_5 13), .ref (u_5 14), .ref (u_5 15), .ref (u_5 16), .ref (u_5 17), .ref (u_5 18), .ref (u_5 19), .ref (u_5 20), .ref (u_5 21)])), ((u_5 12), .inl (cI, 6, .inl (fun _ => 0))), ((u_5 13), .inl (cI, 6, .inl (fun _ => 0))), ((u_5 14), .inl (cJ, 6, .inr (.inl (fun _ => 0)))), ((u_5 15), .inl (cZ, 6, .inl (fun _ => 0))), ((u_5 16), .inl (cZ, 40, .inl (fun _ => 0))), ((u_5 17), .inl (cI, 40, .inl (fun _ => 0))), ((u_5 18), .inl (cI, 40, .inl (fun _ => 0))), ((u_5 19), .inl (cI, 40, .inl (fun _ => 0))), ((u_5 20), .inl (cI, 480, .inl (fun _ => 0))), ((u_5 21), .inl (cI, 480, .inl (fun _ => 0))), ((u_5 22), .inl (cZ, 40, .inl (fun _ => 0))), ((u_5 23), .inl (cI, 40, .inl (fun _ => 0)))] H_5 := hP2
  replace hD : va_D A [(xh, .inr (4, [.ref q_1, .null, .null, .int 0])), (q_1, .inr (3, [.ref (u_2 0), .ref (u_2 1), .int 0])), ((u_2 0), .inl (cI, 240, .inl (fun _ => 0))), ((u_2 1), .inl (cZ, 40, .inl (fun _ => 0))), (q_4, .inr (1, [.ref (u_5 0), .ref (u_5 11), .int 1, .ref (u_5 22), .ref (u_5 23), .int 0, .int 0, .int 0])), ((u_5 0), .inr (0, [.int 0, .ref (u_5 1), .ref (u_5 2), .ref (u_5 3), .ref (u_5 4), .ref (u_5 5), .ref (u_5 6), .ref (u_5 7), .ref (u_5 8), .ref (u_5 9), .ref (u_5 10)])), ((u_5 1), .inl (cI, 6, .inl (fun _ => 0))), ((u_5 2), .inl (cI, 6, .inl (fun _ => 0))), ((u_5 3), .inl (cJ, 6, .inr (.inl (fun _ => 0)))), ((u_5 4), .inl (cZ, 6, .inl (fun _ => 0))), ((u_5 5), .inl (cZ, 40, .inl (fun _ => 0))), ((u_5 6), .inl (cI, 40, .inl (fun _ => 0))), ((u_5 7), .inl (cI, 40, .inl (fun _ => 0))), ((u_5 8), .inl (cI, 40, .inl (fun _ => 0))), ((u_5 9), .inl (cI, 480, .inl (fun _ => 0))), ((u_5 10), .inl (cI, 480, .inl (fun _ => 0))), ((u_5 11), .inr (0, [.int 0, .ref (u_5 12), .ref (u_5 13), .ref (u_5 14), .ref (u_5 15), .ref (u_5 16), .ref (u_5 17), .ref (u_5 18), .ref (u_5 19), .ref (u_5 20), .ref (u_5 21)])), ((u_5 12), .inl (cI, 6, .inl (fun _ => 0))), ((u_5 13), .inl (cI, 6, .inl (fun _ => 0))), ((u_5 14), .inl (cJ, 6, .inr (.inl (fun _ => 0)))), ((u_5 15), .inl (cZ, 6, .inl (fun _ => 0))), ((u_5 16), .inl (cZ, 40, .inl (fun _ => 0))), ((u_5 17), .inl (cI, 40, .inl (fun _ => 0))), ((u_5 18), .inl (cI, 40, .inl (fun _ => 0))), ((u_5 19), .inl (cI, 40, .inl (fun _ => 0))), ((u_5 20), .inl (cI, 480, .inl (fun _ => 0))), ((u_5 21), .inl (cI, 480, .inl (fun _ => 0))), ((u_5 22), .inl (cZ, 40, .inl (fun _ => 0))), ((u_5 23), .inl (cI, 40, .inl (fun _ => 0)))] := hD2
  replace hS := hS1
  clear hP2 hD2 hS1
  refine W.widen (k := 28) (n := 2681) (Nat.le_of_ble_eq_true rfl) (Nat.le_of_ble_eq_true rfl) ?_
  refine va_putF (D := (dC, dI)) (ci := 4) (v := .ref q_4) (ty := .object "ArraySegments$Flow") (C := RX4) (T := TX4) (N := 4) hx hb hts inc_X4_init_X4 tyX4 tyX4_ok nmX4 hown hK hP hD hS 0 rfl rfl 1 (by decide) (hts (.fieldLink RX4 19 "ArraySegments" "flow" "LArraySegments$Flow;") (List.mem_of_getElem? (i := 48) rfl)) (fun _ h9 => h9) rfl hin rfl (by decide +kernel) rfl rfl (Nat.le_of_ble_eq_true rfl) dX4_init_23 (fun H_6 locs_6 hP1 hD1 hS1 => ?_)
  replace hP : va_P (dC, dI) vwCl [(xh, .inr (4, [.ref q_1, .ref q_4, .null, .int 0])), (q_1, .inr (3, [.ref (u_2 0), .ref (u_2 1), .int 0])), ((u_2 0), .inl (cI, 240, .inl (fun _ => 0))), ((u_2 1), .inl (cZ, 40, .inl (fun _ => 0))), (q_4, .inr (1, [.ref (u_5 0), .ref (u_5 11), .int 1, .ref (u_5 22), .ref (u_5 23), .int 0, .int 0, .int 0])), ((u_5 0), .inr (0, [.int 0, .ref (u_5 1), .ref (u_5 2), .ref (u_5 3), .ref (u_5 4), .ref (u_5 5), .ref (u_5 6), .ref (u_5 7), .ref (u_5 8), .ref (u_5 9), .ref (u_5 10)])), ((u_5 1), .inl (cI, 6, .inl (fun _ => 0))), ((u_5 2), .inl (cI, 6, .inl (fun _ => 0))), ((u_5 3), .inl (cJ, 6, .inr (.inl (fun _ => 0)))), ((u_5 4), .inl (cZ, 6, .inl (fun _ => 0))), ((u_5 5), .inl (cZ, 40, .inl (fun _ => 0))), ((u_5 6), .inl (cI, 40, .inl (fun _ => 0))), ((u_5 7), .inl (cI, 40, .inl (fun _ => 0))), ((u_5 8), .inl (cI, 40, .inl (fun _ => 0))), ((u_5 9), .inl (cI, 480, .inl (fun _ => 0))), ((u_5 10), .inl (cI, 480, .inl (fun _ => 0))), ((u_5 11), .inr (0, [.int 0, .ref (u_5 12), .ref (u_5 13), .ref (u_5 14), .ref (u_5 15), .ref (u_5 16), .ref (u_5 17), .ref (u_5 18), .ref (u_5 19), .ref (u_5 20), .ref (u_5 21)])), ((u_5 12), .inl (cI, 6, .inl (fun _ => 0))), ((u_5 13), .inl (cI, 6, .inl (fun _ => 0))), ((u_5 14), .inl (cJ, 6, .inr (.inl (fun _ => 0)))), ((u_5 15), .inl (cZ, 6, .inl (fun _ => 0))), ((u_5 16), .inl (cZ, 40, .inl (fun _ => 0))), ((u_5 17), .inl (cI, 40, .inl (fun _ => 0))), ((u_5 18), .inl (cI, 40, .inl (fun _ => 0))), ((u_5 19), .inl (cI, 40, .inl (fun _ => 0))), ((u_5 20), .inl (cI, 480, .inl (fun _ => 0))), ((u_5 21), .inl (cI, 480, .inl (fun _ => 0))), ((u_5 22), .inl (cZ, 40, .inl (fun _ => 0))), ((u_5 23), .inl (cI, 40, .inl (fun _ => 0)))] H_6 := hP1
  replace hD : va_D A [(xh, .inr (4, [.ref q_1, .ref q_4, .null, .int 0])), (q_1, .inr (3, [.ref (u_2 0), .ref (u_2 1), .int 0])), ((u_2 0), .inl (cI, 240, .inl (fun _ => 0))), ((u_2 1), .inl (cZ, 40, .inl (fun _ => 0))), (q_4, .inr (1, [.ref (u_5 0), .ref (u_5 11), .int 1, .ref (u_5 22), .ref (u_5 23), .int 0, .int 0, .int 0])), ((u_5 0), .inr (0, [.int 0, .ref (u_5 1), .ref (u_5 2), .ref (u_5 3), .ref (u_5 4), .ref (u_5 5), .ref (u_5 6), .ref (u_5 7), .ref (u_5 8), .ref (u_5 9), .ref (u_5 10)])), ((u_5 1), .inl (cI, 6, .inl (fun _ => 0))), ((u_5 2), .inl (cI, 6, .inl (fun _ => 0))), ((u_5 3), .inl (cJ, 6, .inr (.inl (fun _ => 0)))), ((u_5 4), .inl (cZ, 6, .inl (fun _ => 0))), ((u_5 5), .inl (cZ, 40, .inl (fun _ => 0))), ((u_5 6), .inl (cI, 40, .inl (fun _ => 0))), ((u_5 7), .inl (cI, 40, .inl (fun _ => 0))), ((u_5 8), .inl (cI, 40, .inl (fun _ => 0))), ((u_5 9), .inl (cI, 480, .inl (fun _ => 0))), ((u_5 10), .inl (cI, 480, .inl (fun _ => 0))), ((u_5 11), .inr (0, [.int 0, .ref (u_5 12), .ref (u_5 13), .ref (u_5 14), .ref (u_5 15), .ref (u_5 16), .ref (u_5 17), .ref (u_5 18), .ref (u_5 19), .ref (u_5 20), .ref (u_5 21)])), ((u_5 12), .inl (cI, 6, .inl (fun _ => 0))), ((u_5 13), .inl (cI, 6, .inl (fun _ => 0))), ((u_5 14), .inl (cJ, 6, .inr (.inl (fun _ => 0)))), ((u_5 15), .inl (cZ, 6, .inl (fun _ => 0))), ((u_5 16), .inl (cZ, 40, .inl (fun _ => 0))), ((u_5 17), .inl (cI, 40, .inl (fun _ => 0))), ((u_5 18), .inl (cI, 40, .inl (fun _ => 0))), ((u_5 19), .inl (cI, 40, .inl (fun _ => 0))), ((u_5 20), .inl (cI, 480, .inl (fun _ => 0))), ((u_5 21), .inl (cI, 480, .inl (fun _ => 0))), ((u_5 22), .inl (cZ, 40, .inl (fun _ => 0))), ((u_5 23), .inl (cI, 40, .inl (fun _ => 0)))] := hD1
  replace hS := hS1
  clear hP1 hD1 hS1
  refine lv_aload_n hx hb dX4_init_26 rfl (lv_at hl 0 rfl) ?_
  refine va_new (ci := 2) (fs := [.int 0, .int 0, .int 0, .null, .null, .null, .null, .null, .long 0]) (C := RX2) (T := TX2) (N := 9) hx hb hts inc_X4_init_X2 tyX2 tyX2_ok hown (hts (.classLink RX4 23 RX2) (List.mem_of_getElem? (i := 49) rfl)) (hts (.instantiable RX2 9) (List.mem_of_getElem? (i := 50) rfl)) (hts (.initialized RX2) (List.mem_of_getElem? (i := 51) rfl)) hK hP hD hS hA rfl (fun j hj => by rcases (show j = 0 ∨ j = 1 ∨ j = 2 ∨ j = 3 ∨ j = 4 ∨ j = 5 ∨ j = 6 ∨ j = 7 ∨ j = 8 by omega) with rfl | rfl | rfl | rfl | rfl | rfl | rfl | rfl | rfl <;> rfl) (Nat.le_of_ble_eq_true rfl) (Nat.le_of_ble_eq_true rfl) dX4_init_27 (fun q_7 H_7 hP1 hD1 hS1 => ?_)
  replace hP : va_P (dC, dI) vwCl [(xh, .inr (4, [.ref q_1, .ref q_4, .null, .int 0])), (q_1, .inr (3, [.ref (u_2 0), .ref (u_2 1), .int 0])), ((u_2 0), .inl (cI, 240, .inl (fun _ => 0))), ((u_2 1), .inl (cZ, 40, .inl (fun _ => 0))), (q_4, .inr (1, [.ref (u_5 0), .ref (u_5 11), .int 1, .ref (u_5 22), .ref (u_5 23), .int 0, .int 0, .int 0])), ((u_5 0), .inr (0, [.int 0, .ref (u_5 1), .ref (u_5 2), .ref (u_5 3), .ref (u_5 4), .ref (u_5 5), .ref (u_5 6), .ref (u_5 7), .ref (u_5 8), .ref (u_5 9), .ref (u_5 10)])), ((u_5 1), .inl (cI, 6, .inl (fun _ => 0))), ((u_5 2), .inl (cI, 6, .inl (fun _ => 0))), ((u_5 3), .inl (cJ, 6, .inr (.inl (fun _ => 0)))), ((u_5 4), .inl (cZ, 6, .inl (fun _ => 0))), ((u_5 5), .inl (cZ, 40, .inl (fun _ => 0))), ((u_5 6), .inl (cI, 40, .inl (fun _ => 0))), ((u_5 7), .inl (cI, 40, .inl (fun _ => 0))), ((u_5 8), .inl (cI, 40, .inl (fun _ => 0))), ((u_5 9), .inl (cI, 480, .inl (fun _ => 0))), ((u_5 10), .inl (cI, 480, .inl (fun _ => 0))), ((u_5 11), .inr (0, [.int 0, .ref (u_5 12), .ref (u_5 13), .ref (u_5 14), .ref (u_5 15), .ref (u_5 16), .ref (u_5 17), .ref (u_5 18), .ref (u_5 19), .ref (u_5 20), .ref (u_5 21)])), ((u_5 12), .inl (cI, 6, .inl (fun _ => 0))), ((u_5 13), .inl (cI, 6, .inl (fun _ => 0))), ((u_5 14), .inl (cJ, 6, .inr (.inl (fun _ => 0)))), ((u_5 15), .inl (cZ, 6, .inl (fun _ => 0))), ((u_5 16), .inl (cZ, 40, .inl (fun _ => 0))), ((u_5 17), .inl (cI, 40, .inl (fun _ => 0))), ((u_5 18), .inl (cI, 40, .inl (fun _ => 0))), ((u_5 19), .inl (cI, 40, .inl (fun _ => 0))), ((u_5 20), .inl (cI, 480, .inl (fun _ => 0))), ((u_5 21), .inl (cI, 480, .inl (fun _ => 0))), ((u_5 22), .inl (cZ, 40, .inl (fun _ => 0))), ((u_5 23), .inl (cI, 40, .inl (fun _ => 0))), (q_7, .inr (2, [.int 0, .int 0, .int 0, .null, .null, .null, .null, .null, .long 0]))] H_7 := hP1
  replace hD : va_D A [(xh, .inr (4, [.ref q_1, .ref q_4, .null, .int 0])), (q_1, .inr (3, [.ref (u_2 0), .ref (u_2 1), .int 0])), ((u_2 0), .inl (cI, 240, .inl (fun _ => 0))), ((u_2 1), .inl (cZ, 40, .inl (fun _ => 0))), (q_4, .inr (1, [.ref (u_5 0), .ref (u_5 11), .int 1, .ref (u_5 22), .ref (u_5 23), .int 0, .int 0, .int 0])), ((u_5 0), .inr (0, [.int 0, .ref (u_5 1), .ref (u_5 2), .ref (u_5 3), .ref (u_5 4), .ref (u_5 5), .ref (u_5 6), .ref (u_5 7), .ref (u_5 8), .ref (u_5 9), .ref (u_5 10)])), ((u_5 1), .inl (cI, 6, .inl (fun _ => 0))), ((u_5 2), .inl (cI, 6, .inl (fun _ => 0))), ((u_5 3), .inl (cJ, 6, .inr (.inl (fun _ => 0)))), ((u_5 4), .inl (cZ, 6, .inl (fun _ => 0))), ((u_5 5), .inl (cZ, 40, .inl (fun _ => 0))), ((u_5 6), .inl (cI, 40, .inl (fun _ => 0))), ((u_5 7), .inl (cI, 40, .inl (fun _ => 0))), ((u_5 8), .inl (cI, 40, .inl (fun _ => 0))), ((u_5 9), .inl (cI, 480, .inl (fun _ => 0))), ((u_5 10), .inl (cI, 480, .inl (fun _ => 0))), ((u_5 11), .inr (0, [.int 0, .ref (u_5 12), .ref (u_5 13), .ref (u_5 14), .ref (u_5 15), .ref (u_5 16), .ref (u_5 17), .ref (u_5 18), .ref (u_5 19), .ref (u_5 20), .ref (u_5 21)])), ((u_5 12), .inl (cI, 6, .inl (fun _ => 0))), ((u_5 13), .inl (cI, 6, .inl (fun _ => 0))), ((u_5 14), .inl (cJ, 6, .inr (.inl (fun _ => 0)))), ((u_5 15), .inl (cZ, 6, .inl (fun _ => 0))), ((u_5 16), .inl (cZ, 40, .inl (fun _ => 0))), ((u_5 17), .inl (cI, 40, .inl (fun _ => 0))), ((u_5 18), .inl (cI, 40, .inl (fun _ => 0))), ((u_5 19), .inl (cI, 40, .inl (fun _ => 0))), ((u_5 20), .inl (cI, 480, .inl (fun _ => 0))), ((u_5 21), .inl (cI, 480, .inl (fun _ => 0))), ((u_5 22), .inl (cZ, 40, .inl (fun _ => 0))), ((u_5 23), .inl (cI, 40, .inl (fun _ => 0))), (q_7, .inr (2, [.int 0, .int 0, .int 0, .null, .null, .null, .null, .null, .long 0]))] := hD1
  replace hS := hS1
  clear hP1 hD1 hS1
  refine W.widen (k := 29) (n := 2690) (Nat.le_of_ble_eq_true rfl) (Nat.le_of_ble_eq_true rfl) ?_
  refine lv_dup hx hb dX4_init_30 rfl ?_
  have hPc := hP.sub (ws' := [(q_7, .inr (2, [.int 0, .int 0, .int 0, .null, .null, .null, .null, .null, .long 0]))]) [29] rfl
  have hDc := hD.sub (ws' := [(q_7, .inr (2, [.int 0, .int 0, .int 0, .null, .null, .null, .null, .null, .long 0]))]) [29] (by decide) rfl
  have hFc := va_free (wc := [(q_7, .inr (2, [.int 0, .int 0, .int 0, .null, .null, .null, .null, .null, .long 0]))]) hD hS hA [29] rfl
  refine va_callv (va_runI (As := []) (rest := [.ref q_7, .ref xh]) ⟨hx, hb, hml, hown, hts⟩ (c_X2_init l dC dI cI cJ cZ q_7 H_7.size) (cwI 0 hts g_X4_init_X2_init_25 rfl rfl rfl (hts (.initialized RX2) (List.mem_of_getElem? (i := 51) rfl)) (hts (.methodLink RX4 25 yX2_init) (List.mem_of_getElem? (i := 67) rfl)) (hts (.instanceMethod yX2_init) (List.mem_of_getElem? (i := 68) rfl)) rfl (by decide +kernel) ⟨Nat.le_of_ble_eq_true rfl, Nat.le_of_ble_eq_true rfl⟩) ⟨cPre_blind, cPre_of hK hN hPc hDc⟩ rfl rfl hl.1 rfl (lv_room (Nat.le_of_ble_eq_true rfl)) dX4_init_31 ⟨Nat.le_of_ble_eq_true rfl, Nat.le_of_ble_eq_true rfl⟩) hS (fun q _ h => hFc q h) hFc (fun u_8 t_8 H_8 locs_8 ht hvm hw_8 hB hz1 hk1 hS1 => ?_)
  obtain ⟨hP1, hK1, hD1⟩ := hB
  rw [ht] at hP1
  obtain ⟨hP2, hD2⟩ := va_join (wr := [(xh, .inr (4, [.ref q_1, .ref q_4, .null, .int 0])), (q_1, .inr (3, [.ref (u_2 0), .ref (u_2 1), .int 0])), ((u_2 0), .inl (cI, 240, .inl (fun _ => 0))), ((u_2 1), .inl (cZ, 40, .inl (fun _ => 0))), (q_4, .inr (1, [.ref (u_5 0), .ref (u_5 11), .int 1, .ref (u_5 22), .ref (u_5 23), .int 0, .int 0, .int 0])), ((u_5 0), .inr (0, [.int 0, .ref (u_5 1), .ref (u_5 2), .ref (u_5 3), .ref (u_5 4), .ref (u_5 5), .ref (u_5 6), .ref (u_5 7), .ref (u_5 8), .ref (u_5 9), .ref (u_5 10)])), ((u_5 1), .inl (cI, 6, .inl (fun _ => 0))), ((u_5 2), .inl (cI, 6, .inl (fun _ => 0))), ((u_5 3), .inl (cJ, 6, .inr (.inl (fun _ => 0)))), ((u_5 4), .inl (cZ, 6, .inl (fun _ => 0))), ((u_5 5), .inl (cZ, 40, .inl (fun _ => 0))), ((u_5 6), .inl (cI, 40, .inl (fun _ => 0))), ((u_5 7), .inl (cI, 40, .inl (fun _ => 0))), ((u_5 8), .inl (cI, 40, .inl (fun _ => 0))), ((u_5 9), .inl (cI, 480, .inl (fun _ => 0))), ((u_5 10), .inl (cI, 480, .inl (fun _ => 0))), ((u_5 11), .inr (0, [.int 0, .ref (u_5 12), .ref (u_5 13), .ref (u_5 14), .ref (u_5 15), .ref (u_5 16), .ref (u_5 17), .ref (u_5 18), .ref (u_5 19), .ref (u_5 20), .ref (u_5 21)])), ((u_5 12), .inl (cI, 6, .inl (fun _ => 0))), ((u_5 13), .inl (cI, 6, .inl (fun _ => 0))), ((u_5 14), .inl (cJ, 6, .inr (.inl (fun _ => 0)))), ((u_5 15), .inl (cZ, 6, .inl (fun _ => 0))), ((u_5 16), .inl (cZ, 40, .inl (fun _ => 0))), ((u_5 17), .inl (cI, 40, .inl (fun _ => 0))), ((u_5 18), .inl (cI, 40, .inl (fun _ => 0))), ((u_5 19), .inl (cI, 40, .inl (fun _ => 0))), ((u_5 20), .inl (cI, 480, .inl (fun _ => 0))), ((u_5 21), .inl (cI, 480, .inl (fun _ => 0))), ((u_5 22), .inl (cZ, 40, .inl (fun _ => 0))), ((u_5 23), .inl (cI, 40, .inl (fun _ => 0)))]) (w1 := [(q_7, .inr (2, [.int 0, .int 0, .int (-1), .ref (u_8 0), .ref (u_8 1), .ref (u_8 2), .ref (u_8 3), .ref (u_8 4), .long 0])), ((u_8 0), .inl (cI, 6, .inl (ov (fun _ => 0) 6 0))), ((u_8 1), .inl (cI, 6, .inl (ov (fun _ => 0) 6 (-1)))), ((u_8 2), .inl (cI, 40, .inl (fun _ => 0))), ((u_8 3), .inl (cI, 40, .inl (fun _ => 0))), ((u_8 4), .inl (cI, 480, .inl (fun _ => 0)))]) hP hD [29] [0, 1, 2, 3, 4, 5, 6, 7, 8, 9, 10, 11, 12, 13, 14, 15, 16, 17, 18, 19, 20, 21, 22, 23, 24, 25, 26, 27, 28] rfl rfl (by decide) (by decide) hk1 hFc hP1 hD1
  clear hPc hDc hFc hP1 hD1 hK1 hk1 hz1 hvm ht
  replace hP : va_P (dC, dI) vwCl [(xh, .inr (4, [.ref q_1, .ref q_4, .null, .int 0])), (q_1, .inr (3, [.ref (u_2 0), .ref (u_2 1), .int 0])), ((u_2 0), .inl (cI, 240, .inl (fun _ => 0))), ((u_2 1), .inl (cZ, 40, .inl (fun _ => 0))), (q_4, .inr (1, [.ref (u_5 0), .ref (u_5 11), .int 1, .ref (u_5 22), .ref (u_5 23), .int 0, .int 0, .int 0])), ((u_5 0), .inr (0, [.int 0, .ref (u_5 1), .ref (u_5 2), .ref (u_5 3), .ref (u_5 4), .ref (u_5 5), .ref (u_5 6), .ref (u_5 7), .ref (u_5 8), .ref (u_5 9), .ref (u_5 10)])), ((u_5 1), .inl (cI, 6, .inl (fun _ => 0))), ((u_5 2), .inl (cI, 6, .inl (fun _ => 0))), ((u_5 3), .inl (cJ, 6, .inr (.inl (fun _ => 0)))), ((u_5 4), .inl (cZ, 6, .inl (fun _ => 0))), ((u_5 5), .inl (cZ, 40, .inl (fun _ => 0))), ((u_5 6), .inl (cI, 40, .inl (fun _ => 0))), ((u_5 7), .inl (cI, 40, .inl (fun _ => 0))), ((u_5 8), .inl (cI, 40, .inl (fun _ => 0))), ((u_5 9), .inl (cI, 480, .inl (fun _ => 0))), ((u_5 10), .inl (cI, 480, .inl (fun _ => 0))), ((u_5 11), .inr (0, [.int 0, .ref (u_5 12), .ref (u_5 13), .ref (u_5 14), .ref (u_5 15), .ref (u_5 16), .ref (u_5 17), .ref (u_5 18), .ref (u_5 19), .ref (u_5 20), .ref (u_5 21)])), ((u_5 12), .inl (cI, 6, .inl (fun _ => 0))), ((u_5 13), .inl (cI, 6, .inl (fun _ => 0))), ((u_5 14), .inl (cJ, 6, .inr (.inl (fun _ => 0)))), ((u_5 15), .inl (cZ, 6, .inl (fun _ => 0))), ((u_5 16), .inl (cZ, 40, .inl (fun _ => 0))), ((u_5 17), .inl (cI, 40, .inl (fun _ => 0))), ((u_5 18), .inl (cI, 40, .inl (fun _ => 0))), ((u_5 19), .inl (cI, 40, .inl (fun _ => 0))), ((u_5 20), .inl (cI, 480, .inl (fun _ => 0))), ((u_5 21), .inl (cI, 480, .inl (fun _ => 0))), ((u_5 22), .inl (cZ, 40, .inl (fun _ => 0))), ((u_5 23), .inl (cI, 40, .inl (fun _ => 0))), (q_7, .inr (2, [.int 0, .int 0, .int (-1), .ref (u_8 0), .ref (u_8 1), .ref (u_8 2), .ref (u_8 3), .ref (u_8 4), .long 0])), ((u_8 0), .inl (cI, 6, .inl (ov (fun _ => 0) 6 0))), ((u_8 1), .inl (cI, 6, .inl (ov (fun _ => 0) 6 (-1)))), ((u_8 2), .inl (cI, 40, .inl (fun _ => 0))), ((u_8 3), .inl (cI, 40, .inl (fun _ => 0))), ((u_8 4), .inl (cI, 480, .inl (fun _ => 0)))] H_8 := hP2
  replace hD : va_D A [(xh, .inr (4, [.ref q_1, .ref q_4, .null, .int 0])), (q_1, .inr (3, [.ref (u_2 0), .ref (u_2 1), .int 0])), ((u_2 0), .inl (cI, 240, .inl (fun _ => 0))), ((u_2 1), .inl (cZ, 40, .inl (fun _ => 0))), (q_4, .inr (1, [.ref (u_5 0), .ref (u_5 11), .int 1, .ref (u_5 22), .ref (u_5 23), .int 0, .int 0, .int 0])), ((u_5 0), .inr (0, [.int 0, .ref (u_5 1), .ref (u_5 2), .ref (u_5 3), .ref (u_5 4), .ref (u_5 5), .ref (u_5 6), .ref (u_5 7), .ref (u_5 8), .ref (u_5 9), .ref (u_5 10)])), ((u_5 1), .inl (cI, 6, .inl (fun _ => 0))), ((u_5 2), .inl (cI, 6, .inl (fun _ => 0))), ((u_5 3), .inl (cJ, 6, .inr (.inl (fun _ => 0)))), ((u_5 4), .inl (cZ, 6, .inl (fun _ => 0))), ((u_5 5), .inl (cZ, 40, .inl (fun _ => 0))), ((u_5 6), .inl (cI, 40, .inl (fun _ => 0))), ((u_5 7), .inl (cI, 40, .inl (fun _ => 0))), ((u_5 8), .inl (cI, 40, .inl (fun _ => 0))), ((u_5 9), .inl (cI, 480, .inl (fun _ => 0))), ((u_5 10), .inl (cI, 480, .inl (fun _ => 0))), ((u_5 11), .inr (0, [.int 0, .ref (u_5 12), .ref (u_5 13), .ref (u_5 14), .ref (u_5 15), .ref (u_5 16), .ref (u_5 17), .ref (u_5 18), .ref (u_5 19), .ref (u_5 20), .ref (u_5 21)])), ((u_5 12), .inl (cI, 6, .inl (fun _ => 0))), ((u_5 13), .inl (cI, 6, .inl (fun _ => 0))), ((u_5 14), .inl (cJ, 6, .inr (.inl (fun _ => 0)))), ((u_5 15), .inl (cZ, 6, .inl (fun _ => 0))), ((u_5 16), .inl (cZ, 40, .inl (fun _ => 0))), ((u_5 17), .inl (cI, 40, .inl (fun _ => 0))), ((u_5 18), .inl (cI, 40, .inl (fun _ => 0))), ((u_5 19), .inl (cI, 40, .inl (fun _ => 0))), ((u_5 20), .inl (cI, 480, .inl (fun _ => 0))), ((u_5 21), .inl (cI, 480, .inl (fun _ => 0))), ((u_5 22), .inl (cZ, 40, .inl (fun _ => 0))), ((u_5 23), .inl (cI, 40, .inl (fun _ => 0))), (q_7, .inr (2, [.int 0, .int 0, .int (-1), .ref (u_8 0), .ref (u_8 1), .ref (u_8 2), .ref (u_8 3), .ref (u_8 4), .long 0])), ((u_8 0), .inl (cI, 6, .inl (ov (fun _ => 0) 6 0))), ((u_8 1), .inl (cI, 6, .inl (ov (fun _ => 0) 6 (-1)))), ((u_8 2), .inl (cI, 40, .inl (fun _ => 0))), ((u_8 3), .inl (cI, 40, .inl (fun _ => 0))), ((u_8 4), .inl (cI, 480, .inl (fun _ => 0)))] := hD2
  replace hS := hS1
  clear hP2 hD2 hS1
  refine W.widen (k := 34) (n := 3262) (Nat.le_of_ble_eq_true rfl) (Nat.le_of_ble_eq_true rfl) ?_
  refine va_putF (D := (dC, dI)) (ci := 4) (v := .ref q_7) (ty := .object "ArraySegments$Machine") (C := RX4) (T := TX4) (N := 4) hx hb hts inc_X4_init_X4 tyX4 tyX4_ok nmX4 hown hK hP hD hS 0 rfl rfl 2 (by decide) (hts (.fieldLink RX4 26 "ArraySegments" "machine" "LArraySegments$Machine;") (List.mem_of_getElem? (i := 69) rfl)) (fun _ h9 => h9) rfl hin rfl (by decide +kernel) rfl rfl (Nat.le_of_ble_eq_true rfl) dX4_init_34 (fun H_9 locs_9 hP1 hD1 hS1 => ?_)
  replace hP : va_P (dC, dI) vwCl [(xh, .inr (4, [.ref q_1, .ref q_4, .ref q_7, .int 0])), (q_1, .inr (3, [.ref (u_2 0), .ref (u_2 1), .int 0])), ((u_2 0), .inl (cI, 240, .inl (fun _ => 0))), ((u_2 1), .inl (cZ, 40, .inl (fun _ => 0))), (q_4, .inr (1, [.ref (u_5 0), .ref (u_5 11), .int 1, .ref (u_5 22), .ref (u_5 23), .int 0, .int 0, .int 0])), ((u_5 0), .inr (0, [.int 0, .ref (u_5 1), .ref (u_5 2), .ref (u_5 3), .ref (u_5 4), .ref (u_5 5), .ref (u_5 6), .ref (u_5 7), .ref (u_5 8), .ref (u_5 9), .ref (u_5 10)])), ((u_5 1), .inl (cI, 6, .inl (fun _ => 0))), ((u_5 2), .inl (cI, 6, .inl (fun _ => 0))), ((u_5 3), .inl (cJ, 6, .inr (.inl (fun _ => 0)))), ((u_5 4), .inl (cZ, 6, .inl (fun _ => 0))), ((u_5 5), .inl (cZ, 40, .inl (fun _ => 0))), ((u_5 6), .inl (cI, 40, .inl (fun _ => 0))), ((u_5 7), .inl (cI, 40, .inl (fun _ => 0))), ((u_5 8), .inl (cI, 40, .inl (fun _ => 0))), ((u_5 9), .inl (cI, 480, .inl (fun _ => 0))), ((u_5 10), .inl (cI, 480, .inl (fun _ => 0))), ((u_5 11), .inr (0, [.int 0, .ref (u_5 12), .ref (u_5 13), .ref (u_5 14), .ref (u_5 15), .ref (u_5 16), .ref (u_5 17), .ref (u_5 18), .ref (u_5 19), .ref (u_5 20), .ref (u_5 21)])), ((u_5 12), .inl (cI, 6, .inl (fun _ => 0))), ((u_5 13), .inl (cI, 6, .inl (fun _ => 0))), ((u_5 14), .inl (cJ, 6, .inr (.inl (fun _ => 0)))), ((u_5 15), .inl (cZ, 6, .inl (fun _ => 0))), ((u_5 16), .inl (cZ, 40, .inl (fun _ => 0))), ((u_5 17), .inl (cI, 40, .inl (fun _ => 0))), ((u_5 18), .inl (cI, 40, .inl (fun _ => 0))), ((u_5 19), .inl (cI, 40, .inl (fun _ => 0))), ((u_5 20), .inl (cI, 480, .inl (fun _ => 0))), ((u_5 21), .inl (cI, 480, .inl (fun _ => 0))), ((u_5 22), .inl (cZ, 40, .inl (fun _ => 0))), ((u_5 23), .inl (cI, 40, .inl (fun _ => 0))), (q_7, .inr (2, [.int 0, .int 0, .int (-1), .ref (u_8 0), .ref (u_8 1), .ref (u_8 2), .ref (u_8 3), .ref (u_8 4), .long 0])), ((u_8 0), .inl (cI, 6, .inl (ov (fun _ => 0) 6 0))), ((u_8 1), .inl (cI, 6, .inl (ov (fun _ => 0) 6 (-1)))), ((u_8 2), .inl (cI, 40, .inl (fun _ => 0))), ((u_8 3), .inl (cI, 40, .inl (fun _ => 0))), ((u_8 4), .inl (cI, 480, .inl (fun _ => 0)))] H_9 := hP1
  replace hD : va_D A [(xh, .inr (4, [.ref q_1, .ref q_4, .ref q_7, .int 0])), (q_1, .inr (3, [.ref (u_2 0), .ref (u_2 1), .int 0])), ((u_2 0), .inl (cI, 240, .inl (fun _ => 0))), ((u_2 1), .inl (cZ, 40, .inl (fun _ => 0))), (q_4, .inr (1, [.ref (u_5 0), .ref (u_5 11), .int 1, .ref (u_5 22), .ref (u_5 23), .int 0, .int 0, .int 0])), ((u_5 0), .inr (0, [.int 0, .ref (u_5 1), .ref (u_5 2), .ref (u_5 3), .ref (u_5 4), .ref (u_5 5), .ref (u_5 6), .ref (u_5 7), .ref (u_5 8), .ref (u_5 9), .ref (u_5 10)])), ((u_5 1), .inl (cI, 6, .inl (fun _ => 0))), ((u_5 2), .inl (cI, 6, .inl (fun _ => 0))), ((u_5 3), .inl (cJ, 6, .inr (.inl (fun _ => 0)))), ((u_5 4), .inl (cZ, 6, .inl (fun _ => 0))), ((u_5 5), .inl (cZ, 40, .inl (fun _ => 0))), ((u_5 6), .inl (cI, 40, .inl (fun _ => 0))), ((u_5 7), .inl (cI, 40, .inl (fun _ => 0))), ((u_5 8), .inl (cI, 40, .inl (fun _ => 0))), ((u_5 9), .inl (cI, 480, .inl (fun _ => 0))), ((u_5 10), .inl (cI, 480, .inl (fun _ => 0))), ((u_5 11), .inr (0, [.int 0, .ref (u_5 12), .ref (u_5 13), .ref (u_5 14), .ref (u_5 15), .ref (u_5 16), .ref (u_5 17), .ref (u_5 18), .ref (u_5 19), .ref (u_5 20), .ref (u_5 21)])), ((u_5 12), .inl (cI, 6, .inl (fun _ => 0))), ((u_5 13), .inl (cI, 6, .inl (fun _ => 0))), ((u_5 14), .inl (cJ, 6, .inr (.inl (fun _ => 0)))), ((u_5 15), .inl (cZ, 6, .inl (fun _ => 0))), ((u_5 16), .inl (cZ, 40, .inl (fun _ => 0))), ((u_5 17), .inl (cI, 40, .inl (fun _ => 0))), ((u_5 18), .inl (cI, 40, .inl (fun _ => 0))), ((u_5 19), .inl (cI, 40, .inl (fun _ => 0))), ((u_5 20), .inl (cI, 480, .inl (fun _ => 0))), ((u_5 21), .inl (cI, 480, .inl (fun _ => 0))), ((u_5 22), .inl (cZ, 40, .inl (fun _ => 0))), ((u_5 23), .inl (cI, 40, .inl (fun _ => 0))), (q_7, .inr (2, [.int 0, .int 0, .int (-1), .ref (u_8 0), .ref (u_8 1), .ref (u_8 2), .ref (u_8 3), .ref (u_8 4), .long 0])), ((u_8 0), .inl (cI, 6, .inl (ov (fun _ => 0) 6 0))), ((u_8 1), .inl (cI, 6, .inl (ov (fun _ => 0) 6 (-1)))), ((u_8 2), .inl (cI, 40, .inl (fun _ => 0))), ((u_8 3), .inl (cI, 40, .inl (fun _ => 0))), ((u_8 4), .inl (cI, 480, .inl (fun _ => 0)))] := hD1
  replace hS := hS1
  clear hP1 hD1 hS1
  refine lv_aload_n hx hb dX4_init_37 rfl (lv_at hl 0 rfl) ?_
  refine lv_iconst (v := 0) hx hb dX4_init_38 (by decide) ?_
  refine va_put (D := (dC, dI)) (ci := 4) (v := .int 0) (ty := .int) (C := RX4) (T := TX4) (N := 4) hx hb hts inc_X4_init_X4 tyX4 tyX4_ok nmX4 hown hK hP hD hS 0 rfl rfl 3 (by decide) (hts (.fieldLink RX4 30 "ArraySegments" "lastStatus" "I") (List.mem_of_getElem? (i := 70) rfl)) (fun _ h9 => h9) rfl (by decide +kernel) rfl rfl (Nat.le_of_ble_eq_true rfl) dX4_init_39 (fun H_10 locs_10 hP1 hD1 hS1 => ?_)
  replace hP : va_P (dC, dI) vwCl [(xh, .inr (4, [.ref q_1, .ref q_4, .ref q_7, .int 0])), (q_1, .inr (3, [.ref (u_2 0), .ref (u_2 1), .int 0])), ((u_2 0), .inl (cI, 240, .inl (fun _ => 0))), ((u_2 1), .inl (cZ, 40, .inl (fun _ => 0))), (q_4, .inr (1, [.ref (u_5 0), .ref (u_5 11), .int 1, .ref (u_5 22), .ref (u_5 23), .int 0, .int 0, .int 0])), ((u_5 0), .inr (0, [.int 0, .ref (u_5 1), .ref (u_5 2), .ref (u_5 3), .ref (u_5 4), .ref (u_5 5), .ref (u_5 6), .ref (u_5 7), .ref (u_5 8), .ref (u_5 9), .ref (u_5 10)])), ((u_5 1), .inl (cI, 6, .inl (fun _ => 0))), ((u_5 2), .inl (cI, 6, .inl (fun _ => 0))), ((u_5 3), .inl (cJ, 6, .inr (.inl (fun _ => 0)))), ((u_5 4), .inl (cZ, 6, .inl (fun _ => 0))), ((u_5 5), .inl (cZ, 40, .inl (fun _ => 0))), ((u_5 6), .inl (cI, 40, .inl (fun _ => 0))), ((u_5 7), .inl (cI, 40, .inl (fun _ => 0))), ((u_5 8), .inl (cI, 40, .inl (fun _ => 0))), ((u_5 9), .inl (cI, 480, .inl (fun _ => 0))), ((u_5 10), .inl (cI, 480, .inl (fun _ => 0))), ((u_5 11), .inr (0, [.int 0, .ref (u_5 12), .ref (u_5 13), .ref (u_5 14), .ref (u_5 15), .ref (u_5 16), .ref (u_5 17), .ref (u_5 18), .ref (u_5 19), .ref (u_5 20), .ref (u_5 21)])), ((u_5 12), .inl (cI, 6, .inl (fun _ => 0))), ((u_5 13), .inl (cI, 6, .inl (fun _ => 0))), ((u_5 14), .inl (cJ, 6, .inr (.inl (fun _ => 0)))), ((u_5 15), .inl (cZ, 6, .inl (fun _ => 0))), ((u_5 16), .inl (cZ, 40, .inl (fun _ => 0))), ((u_5 17), .inl (cI, 40, .inl (fun _ => 0))), ((u_5 18), .inl (cI, 40, .inl (fun _ => 0))), ((u_5 19), .inl (cI, 40, .inl (fun _ => 0))), ((u_5 20), .inl (cI, 480, .inl (fun _ => 0))), ((u_5 21), .inl (cI, 480, .inl (fun _ => 0))), ((u_5 22), .inl (cZ, 40, .inl (fun _ => 0))), ((u_5 23), .inl (cI, 40, .inl (fun _ => 0))), (q_7, .inr (2, [.int 0, .int 0, .int (-1), .ref (u_8 0), .ref (u_8 1), .ref (u_8 2), .ref (u_8 3), .ref (u_8 4), .long 0])), ((u_8 0), .inl (cI, 6, .inl (ov (fun _ => 0) 6 0))), ((u_8 1), .inl (cI, 6, .inl (ov (fun _ => 0) 6 (-1)))), ((u_8 2), .inl (cI, 40, .inl (fun _ => 0))), ((u_8 3), .inl (cI, 40, .inl (fun _ => 0))), ((u_8 4), .inl (cI, 480, .inl (fun _ => 0)))] H_10 := hP1
  replace hD : va_D A [(xh, .inr (4, [.ref q_1, .ref q_4, .ref q_7, .int 0])), (q_1, .inr (3, [.ref (u_2 0), .ref (u_2 1), .int 0])), ((u_2 0), .inl (cI, 240, .inl (fun _ => 0))), ((u_2 1), .inl (cZ, 40, .inl (fun _ => 0))), (q_4, .inr (1, [.ref (u_5 0), .ref (u_5 11), .int 1, .ref (u_5 22), .ref (u_5 23), .int 0, .int 0, .int 0])), ((u_5 0), .inr (0, [.int 0, .ref (u_5 1), .ref (u_5 2), .ref (u_5 3), .ref (u_5 4), .ref (u_5 5), .ref (u_5 6), .ref (u_5 7), .ref (u_5 8), .ref (u_5 9), .ref (u_5 10)])), ((u_5 1), .inl (cI, 6, .inl (fun _ => 0))), ((u_5 2), .inl (cI, 6, .inl (fun _ => 0))), ((u_5 3), .inl (cJ, 6, .inr (.inl (fun _ => 0)))), ((u_5 4), .inl (cZ, 6, .inl (fun _ => 0))), ((u_5 5), .inl (cZ, 40, .inl (fun _ => 0))), ((u_5 6), .inl (cI, 40, .inl (fun _ => 0))), ((u_5 7), .inl (cI, 40, .inl (fun _ => 0))), ((u_5 8), .inl (cI, 40, .inl (fun _ => 0))), ((u_5 9), .inl (cI, 480, .inl (fun _ => 0))), ((u_5 10), .inl (cI, 480, .inl (fun _ => 0))), ((u_5 11), .inr (0, [.int 0, .ref (u_5 12), .ref (u_5 13), .ref (u_5 14), .ref (u_5 15), .ref (u_5 16), .ref (u_5 17), .ref (u_5 18), .ref (u_5 19), .ref (u_5 20), .ref (u_5 21)])), ((u_5 12), .inl (cI, 6, .inl (fun _ => 0))), ((u_5 13), .inl (cI, 6, .inl (fun _ => 0))), ((u_5 14), .inl (cJ, 6, .inr (.inl (fun _ => 0)))), ((u_5 15), .inl (cZ, 6, .inl (fun _ => 0))), ((u_5 16), .inl (cZ, 40, .inl (fun _ => 0))), ((u_5 17), .inl (cI, 40, .inl (fun _ => 0))), ((u_5 18), .inl (cI, 40, .inl (fun _ => 0))), ((u_5 19), .inl (cI, 40, .inl (fun _ => 0))), ((u_5 20), .inl (cI, 480, .inl (fun _ => 0))), ((u_5 21), .inl (cI, 480, .inl (fun _ => 0))), ((u_5 22), .inl (cZ, 40, .inl (fun _ => 0))), ((u_5 23), .inl (cI, 40, .inl (fun _ => 0))), (q_7, .inr (2, [.int 0, .int 0, .int (-1), .ref (u_8 0), .ref (u_8 1), .ref (u_8 2), .ref (u_8 3), .ref (u_8 4), .long 0])), ((u_8 0), .inl (cI, 6, .inl (ov (fun _ => 0) 6 0))), ((u_8 1), .inl (cI, 6, .inl (ov (fun _ => 0) 6 (-1)))), ((u_8 2), .inl (cI, 40, .inl (fun _ => 0))), ((u_8 3), .inl (cI, 40, .inl (fun _ => 0))), ((u_8 4), .inl (cI, 480, .inl (fun _ => 0)))] := hD1
  replace hS := hS1
  clear hP1 hD1 hS1
  have hP9 := hP.sub (ws' := [(xh, .inr (4, [.ref q_1, .ref q_4, .ref q_7, .int 0])), (q_1, .inr (3, [.ref (u_2 0), .ref (u_2 1), .int 0])), ((u_2 0), .inl (cI, 240, .inl (fun _ => 0))), ((u_2 1), .inl (cZ, 40, .inl (fun _ => 0))), (q_4, .inr (1, [.ref (u_5 0), .ref (u_5 11), .int 1, .ref (u_5 22), .ref (u_5 23), .int 0, .int 0, .int 0])), ((u_5 0), .inr (0, [.int 0, .ref (u_5 1), .ref (u_5 2), .ref (u_5 3), .ref (u_5 4), .ref (u_5 5), .ref (u_5 6), .ref (u_5 7), .ref (u_5 8), .ref (u_5 9), .ref (u_5 10)])), ((u_5 1), .inl (cI, 6, .inl (fun _ => 0))), ((u_5 2), .inl (cI, 6, .inl (fun _ => 0))), ((u_5 3), .inl (cJ, 6, .inr (.inl (fun _ => 0)))), ((u_5 4), .inl (cZ, 6, .inl (fun _ => 0))), ((u_5 5), .inl (cZ, 40, .inl (fun _ => 0))), ((u_5 6), .inl (cI, 40, .inl (fun _ => 0))), ((u_5 7), .inl (cI, 40, .inl (fun _ => 0))), ((u_5 8), .inl (cI, 40, .inl (fun _ => 0))), ((u_5 9), .inl (cI, 480, .inl (fun _ => 0))), ((u_5 10), .inl (cI, 480, .inl (fun _ => 0))), ((u_5 11), .inr (0, [.int 0, .ref (u_5 12), .ref (u_5 13), .ref (u_5 14), .ref (u_5 15), .ref (u_5 16), .ref (u_5 17), .ref (u_5 18), .ref (u_5 19), .ref (u_5 20), .ref (u_5 21)])), ((u_5 12), .inl (cI, 6, .inl (fun _ => 0))), ((u_5 13), .inl (cI, 6, .inl (fun _ => 0))), ((u_5 14), .inl (cJ, 6, .inr (.inl (fun _ => 0)))), ((u_5 15), .inl (cZ, 6, .inl (fun _ => 0))), ((u_5 16), .inl (cZ, 40, .inl (fun _ => 0))), ((u_5 17), .inl (cI, 40, .inl (fun _ => 0))), ((u_5 18), .inl (cI, 40, .inl (fun _ => 0))), ((u_5 19), .inl (cI, 40, .inl (fun _ => 0))), ((u_5 20), .inl (cI, 480, .inl (fun _ => 0))), ((u_5 21), .inl (cI, 480, .inl (fun _ => 0))), ((u_5 22), .inl (cZ, 40, .inl (fun _ => 0))), ((u_5 23), .inl (cI, 40, .inl (fun _ => 0))), (q_7, .inr (2, [.int 0, .int 0, .int (-1), .ref (u_8 0), .ref (u_8 1), .ref (u_8 2), .ref (u_8 3), .ref (u_8 4), .long 0])), ((u_8 0), .inl (cI, 6, .inl (ov (fun _ => 0) 6 0))), ((u_8 1), .inl (cI, 6, .inl (ov (fun _ => 0) 6 (-1)))), ((u_8 2), .inl (cI, 40, .inl (fun _ => 0))), ((u_8 3), .inl (cI, 40, .inl (fun _ => 0))), ((u_8 4), .inl (cI, 480, .inl (fun _ => 0)))]) [0, 1, 2, 3, 4, 5, 6, 7, 8, 9, 10, 11, 12, 13, 14, 15, 16, 17, 18, 19, 20, 21, 22, 23, 24, 25, 26, 27, 28, 29, 30, 31, 32, 33, 34] rfl
  have hD9 := hD.sub (ws' := [(xh, .inr (4, [.ref q_1, .ref q_4, .ref q_7, .int 0])), (q_1, .inr (3, [.ref (u_2 0), .ref (u_2 1), .int 0])), ((u_2 0), .inl (cI, 240, .inl (fun _ => 0))), ((u_2 1), .inl (cZ, 40, .inl (fun _ => 0))), (q_4, .inr (1, [.ref (u_5 0), .ref (u_5 11), .int 1, .ref (u_5 22), .ref (u_5 23), .int 0, .int 0, .int 0])), ((u_5 0), .inr (0, [.int 0, .ref (u_5 1), .ref (u_5 2), .ref (u_5 3), .ref (u_5 4), .ref (u_5 5), .ref (u_5 6), .ref (u_5 7), .ref (u_5 8), .ref (u_5 9), .ref (u_5 10)])), ((u_5 1), .inl (cI, 6, .inl (fun _ => 0))), ((u_5 2), .inl (cI, 6, .inl (fun _ => 0))), ((u_5 3), .inl (cJ, 6, .inr (.inl (fun _ => 0)))), ((u_5 4), .inl (cZ, 6, .inl (fun _ => 0))), ((u_5 5), .inl (cZ, 40, .inl (fun _ => 0))), ((u_5 6), .inl (cI, 40, .inl (fun _ => 0))), ((u_5 7), .inl (cI, 40, .inl (fun _ => 0))), ((u_5 8), .inl (cI, 40, .inl (fun _ => 0))), ((u_5 9), .inl (cI, 480, .inl (fun _ => 0))), ((u_5 10), .inl (cI, 480, .inl (fun _ => 0))), ((u_5 11), .inr (0, [.int 0, .ref (u_5 12), .ref (u_5 13), .ref (u_5 14), .ref (u_5 15), .ref (u_5 16), .ref (u_5 17), .ref (u_5 18), .ref (u_5 19), .ref (u_5 20), .ref (u_5 21)])), ((u_5 12), .inl (cI, 6, .inl (fun _ => 0))), ((u_5 13), .inl (cI, 6, .inl (fun _ => 0))), ((u_5 14), .inl (cJ, 6, .inr (.inl (fun _ => 0)))), ((u_5 15), .inl (cZ, 6, .inl (fun _ => 0))), ((u_5 16), .inl (cZ, 40, .inl (fun _ => 0))), ((u_5 17), .inl (cI, 40, .inl (fun _ => 0))), ((u_5 18), .inl (cI, 40, .inl (fun _ => 0))), ((u_5 19), .inl (cI, 40, .inl (fun _ => 0))), ((u_5 20), .inl (cI, 480, .inl (fun _ => 0))), ((u_5 21), .inl (cI, 480, .inl (fun _ => 0))), ((u_5 22), .inl (cZ, 40, .inl (fun _ => 0))), ((u_5 23), .inl (cI, 40, .inl (fun _ => 0))), (q_7, .inr (2, [.int 0, .int 0, .int (-1), .ref (u_8 0), .ref (u_8 1), .ref (u_8 2), .ref (u_8 3), .ref (u_8 4), .long 0])), ((u_8 0), .inl (cI, 6, .inl (ov (fun _ => 0) 6 0))), ((u_8 1), .inl (cI, 6, .inl (ov (fun _ => 0) 6 (-1)))), ((u_8 2), .inl (cI, 40, .inl (fun _ => 0))), ((u_8 3), .inl (cI, 40, .inl (fun _ => 0))), ((u_8 4), .inl (cI, 480, .inl (fun _ => 0)))]) [0, 1, 2, 3, 4, 5, 6, 7, 8, 9, 10, 11, 12, 13, 14, 15, 16, 17, 18, 19, 20, 21, 22, 23, 24, 25, 26, 27, 28, 29, 30, 31, 32, 33, 34] (by decide) rfl
  refine W.widen (k := 34) (n := 3262) (Nat.le_of_ble_eq_true rfl) (Nat.le_of_ble_eq_true rfl) ?_
  exact W.vret hx hb hr (fun t ht hW => ⟨⟨(fun k => match k with | 0 => q_1 | 1 => (u_2 0) | 2 => (u_2 1) | 3 => q_4 | 4 => (u_5 0) | 5 => (u_5 1) | 6 => (u_5 2) | 7 => (u_5 3) | 8 => (u_5 4) | 9 => (u_5 5) | 10 => (u_5 6) | 11 => (u_5 7) | 12 => (u_5 8) | 13 => (u_5 9) | 14 => (u_5 10) | 15 => (u_5 11) | 16 => (u_5 12) | 17 => (u_5 13) | 18 => (u_5 14) | 19 => (u_5 15) | 20 => (u_5 16) | 21 => (u_5 17) | 22 => (u_5 18) | 23 => (u_5 19) | 24 => (u_5 20) | 25 => (u_5 21) | 26 => (u_5 22) | 27 => (u_5 23) | 28 => q_7 | 29 => (u_8 0) | 30 => (u_8 1) | 31 => (u_8 2) | 32 => (u_8 3) | 33 => (u_8 4) | _ => 0), rfl, trivial, by rw [ht]; exact hP9, va_K.moved hW.alike hK, hD9⟩, hS.F ht⟩) hS.2.2 dX4_init_42
