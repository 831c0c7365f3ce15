def v_X4_tell : List Cond := .code yX4_tell cX4_tell 2 (some .int) :: ([.fieldLink RX4 30 "ArraySegments" "lastStatus" "I"] ++ (wsX40))
theorem inv_X4_tell_X4 : ∀ w ∈ wsX40, w ∈ v_X4_tell := fun _ h => List.mem_cons_of_mem _ (List.mem_append_right _ (h))
set_option maxRecDepth 20000 in
theorem gd_X4_tell : gdL v_X4_tell := gdC (gdW (by decide +kernel)) (gdA (gdW (by decide +kernel)) gd_wsX40)
abbrev sw_X4_tell (cI cJ cZ : ClassId) (xh : Nat) (x_program : Value) (x_flow : Value) (x_machine : Value) (x_lastStatus : Int32) (va : Int32) : va_W := [(xh, .inr (4, [x_program, x_flow, x_machine, .int x_lastStatus]))]
set_option maxHeartbeats 8000000 in
set_option maxRecDepth 100000 in
theorem s_X4_tell (l : Launch) (dC : Nat → ClassId) (dI : Nat → Nat → Nat) (cI cJ cZ : ClassId) (xh : Nat) (x_program : Value) (x_flow : Value) (x_machine : Value) (x_lastStatus : Int32) (va : Int32) (sz : Nat) : Met l yX4_tell v_X4_tell ({ frames := 0, cells := 0, slots := 0, locals := 0 }) (va_Pc [.ref xh, .int va] (cPre dC dI cI cJ cZ sz (sw_X4_tell cI cJ cZ xh x_program x_flow x_machine x_lastStatus va))) (va_Qi (fun (r : Int32) (u : Int32) => True) (fun (u : Int32) => cPost dC dI cI cJ cZ (va_A (sw_X4_tell cI cJ cZ xh x_program x_flow x_machine x_lastStatus va) sz) [(xh, .inr (4, [x_program, x_flow, x_machine, .int (u)]))]) (va_A (sw_X4_tell cI cJ cZ xh x_program x_flow x_machine x_lastStatus va) sz)) 0 0 (va_A (sw_X4_tell cI cJ cZ xh x_program x_flow x_machine x_lastStatus va) sz) := by
  refine Met.ofW (cc := cX4_tell) (maxL := 2) (ret := (some .int)) (by decide) rfl ?_
  intro p e s m args below meth c s₁ B hml hv
  obtain ⟨rfl, hsz, hP, hK, hD0, hN⟩ := hv
  have hx := B.exec
  have hb := B.bytes
  have hr := B.returns
  have hts := atoms_spec (ws := v_X4_tell) B.pre
  have hown : s.vm.findClass RX4 = some m.cls := findClass_of_methodNamed B.named
  have hlocks := B.notSynchronized
  subst hsz
  have hD := hD0.self (sz := s.heap.size)
  generalize hAe : va_A (sw_X4_tell cI cJ cZ xh x_program x_flow x_machine x_lastStatus va) s.heap.size = A at hD ⊢
  have hA : ∀ q : Nat, s.heap.size ≤ q → A q := fun q h => by rw [← hAe]; exact Or.inr h
  clear hAe hD0
  have hS : va_S A s.heap s.heap [] := va_S.rf
  replace hP : va_P (dC, dI) vwCl [(xh, .inr (4, [x_program, x_flow, x_machine, .int x_lastStatus]))] s.heap := hP
  replace hD : va_D A [(xh, .inr (4, [x_program, x_flow, x_machine, .int x_lastStatus]))] := hD
  have hl := lv_entry ([.ref xh, .int va]) (n := 2) (Nat.le_of_ble_eq_true rfl)
  rw [lg_entry_eq]
  generalize (lg_sl ([.ref xh, .int va]) ++ List.replicate (2 - (lg_sl ([.ref xh, .int va])).length) Slot.unset).toArray = ls at hl ⊢
  replace hl : lv_has ls 2 [(0, .ref xh), (1, .int va)] := hl
  have z_0 : (0 : Int32).toInt = 0 := by decide
  have z_1 : (1 : Int32).toInt = 1 := by decide
  refine lv_aload_n hx hb dX4_tell_0 rfl (lv_at hl 0 rfl) ?_
  refine lv_iconst (v := 0) hx hb dX4_tell_1 (by decide) ?_
  refine va_put (D := (dC, dI)) (ci := 4) (v := .int 0) (ty := .int) (C := RX4) (T := TX4) (N := 4) hx hb hts inv_X4_tell_X4 tyX4 tyX4_ok nmX4 hown hK hP hD hS 0 rfl rfl 3 (by decide) (hts (.fieldLink RX4 30 "ArraySegments" "lastStatus" "I") (List.mem_of_getElem? (i := 1) rfl)) (fun _ h9 => h9) rfl (by decide +kernel) rfl rfl (Nat.le_of_ble_eq_true rfl) dX4_tell_2 (fun H_1 locs_1 hP1 hD1 hS1 => ?_)
  replace hP : va_P (dC, dI) vwCl [(xh, .inr (4, [x_program, x_flow, x_machine, .int 0]))] H_1 := hP1
  replace hD : va_D A [(xh, .inr (4, [x_program, x_flow, x_machine, .int 0]))] := hD1
  replace hS := hS1
  clear hP1 hD1 hS1
  refine lv_iload_n hx hb dX4_tell_5 rfl (lv_at hl 1 rfl) ?_
  have hP9 := hP.sub (ws' := [(xh, .inr (4, [x_program, x_flow, x_machine, .int 0]))]) [0] rfl
  have hD9 := hD.sub (ws' := [(xh, .inr (4, [x_program, x_flow, x_machine, .int 0]))]) [0] (by decide) rfl
  exact W.iret (v := va) hx hb hr (fun t ht hW => ⟨⟨va, (0 : Int32), rfl, trivial, by rw [ht]; exact hP9, va_K.moved hW.alike hK, hD9⟩, hS.F ht⟩) hS.2.2 dX4_tell_6
