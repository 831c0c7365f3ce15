def v_X4_status : List Cond := .code yX4_status cX4_status 1 (some .int) :: ([.fieldLink RX4 30 "ArraySegments" "lastStatus" "I"] ++ (wsX40))
theorem inv_X4_status_X4 : ∀ w ∈ wsX40, w ∈ v_X4_status := fun _ h => List.mem_cons_of_mem _ (List.mem_append_right _ (h))
set_option maxRecDepth 20000 in
theorem gd_X4_status : gdL v_X4_status := gdC (gdW (by decide +kernel)) (gdA (gdW (by decide +kernel)) gd_wsX40)
abbrev sw_X4_status (cI cJ cZ : ClassId) (xh : Nat) (x_program : Value) (x_flow : Value) (x_machine : Value) (x_lastStatus : Int32) : va_W := [(xh, .inr (4, [x_program, x_flow, x_machine, .int x_lastStatus]))]
set_option maxHeartbeats 8000000 in
set_option maxRecDepth 100000 in
theorem s_X4_status (l : Launch) (dC : Nat → ClassId) (dI : Nat → Nat → Nat) (cI cJ cZ : ClassId) (xh : Nat) (x_program : Value) (x_flow : Value) (x_machine : Value) (x_lastStatus : Int32) (sz : Nat) : Met l yX4_status v_X4_status ({ frames := 0, cells := 0, slots := 0, locals := 0 }) (va_Pc [.ref xh] (cPre dC dI cI cJ cZ sz (sw_X4_status cI cJ cZ xh x_program x_flow x_machine x_lastStatus))) (va_Qi (fun (r : Int32) (u : Unit) => True) (fun (u : Unit) => cPost dC dI cI cJ cZ (va_A (sw_X4_status cI cJ cZ xh x_program x_flow x_machine x_lastStatus) sz) [(xh, .inr (4, [x_program, x_flow, x_machine, .int x_lastStatus]))]) (va_A (sw_X4_status cI cJ cZ xh x_program x_flow x_machine x_lastStatus) sz)) 0 0 (va_A (sw_X4_status cI cJ cZ xh x_program x_flow x_machine x_lastStatus) sz) := by
  refine Met.ofW (cc := cX4_status) (maxL := 1) (ret := (some .int)) (by decide) rfl ?_
  intro p e s m args below meth c s₁ B hml hv
  obtain ⟨rfl, hsz, hP, hK, hD0, hN⟩ := hv
  have hx := B.exec
  have hb := B.bytes
  have hr := B.returns
  have hts := atoms_spec (ws := v_X4_status) B.pre
  have hown : s.vm.findClass RX4 = some m.cls := findClass_of_methodNamed B.named
  have hlocks := B.notSynchronized
  subst hsz
  have hD := hD0.self (sz := s.heap.size)
  generalize hAe : va_A (sw_X4_status cI cJ cZ xh x_program x_flow x_machine x_lastStatus) s.heap.size = A at hD ⊢
  have hA : ∀ q : Nat, s.heap.size ≤ q → A q := fun q h => by rw [← hAe]; exact Or.inr h
  clear hAe hD0
  have hS : va_S A s.heap s.heap [] := va_S.rf
  replace hP : va_P (dC, dI) vwCl [(xh, .inr (4, [x_program, x_flow, x_machine, .int x_lastStatus]))] s.heap := hP
  replace hD : va_D A [(xh, .inr (4, [x_program, x_flow, x_machine, .int x_lastStatus]))] := hD
  have hl := lv_entry ([.ref xh]) (n := 1) (Nat.le_of_ble_eq_true rfl)
  rw [lg_entry_eq]
  generalize (lg_sl ([.ref xh]) ++ List.replicate (1 - (lg_sl ([.ref xh])).length) Slot.unset).toArray = ls at hl ⊢
  replace hl : lv_has ls 1 [(0, .ref xh)] := hl
  have z_0 : (0 : Int32).toInt = 0 := by decide
  have z_1 : (1 : Int32).toInt = 1 := by decide
  refine lv_aload_n hx hb dX4_status_0 rfl (lv_at hl 0 rfl) ?_
  refine va_get (D := (dC, dI)) (ci := 4) (v := .int x_lastStatus) (C := RX4) (T := TX4) (N := 4) hx hb hts inv_X4_status_X4 hown hK hP 0 rfl rfl 3 (by decide) (hts (.fieldLink RX4 30 "ArraySegments" "lastStatus" "I") (List.mem_of_getElem? (i := 1) rfl)) (fun _ h9 => h9) rfl dX4_status_1 ?_
  have hP9 := hP.sub (ws' := [(xh, .inr (4, [x_program, x_flow, x_machine, .int x_lastStatus]))]) [0] rfl
  have hD9 := hD.sub (ws' := [(xh, .inr (4, [x_program, x_flow, x_machine, .int x_lastStatus]))]) [0] (by decide) rfl
  exact W.iret (v := x_lastStatus) hx hb hr (fun t ht hW => ⟨⟨x_lastStatus, (), rfl, trivial, by rw [ht]; exact hP9, va_K.moved hW.alike hK, hD9⟩, hS.F ht⟩) hS.2.2 dX4_status_4
