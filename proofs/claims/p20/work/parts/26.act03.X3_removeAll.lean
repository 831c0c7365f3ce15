def v_X3_removeAll : List Cond := .code yX3_removeAll cX3_removeAll 1 none :: ([.fieldLink RX3 19 "ArraySegments$Program" "count" "I"] ++ (wsX30))
theorem inv_X3_removeAll_X3 : ∀ w ∈ wsX30, w ∈ v_X3_removeAll := fun _ h => List.mem_cons_of_mem _ (List.mem_append_right _ (h))
set_option maxRecDepth 20000 in
theorem gd_X3_removeAll : gdL v_X3_removeAll := gdC (gdW (by decide +kernel)) (gdA (gdW (by decide +kernel)) gd_wsX30)
abbrev sw_X3_removeAll (cI cJ cZ : ClassId) (ph : Nat) (p_rows : Value) (p_dropped : Value) (p_count : Int32) : va_W := [(ph, .inr (3, [p_rows, p_dropped, .int p_count]))]
set_option maxHeartbeats 8000000 in
set_option maxRecDepth 100000 in
theorem s_X3_removeAll (l : Launch) (dC : Nat → ClassId) (dI : Nat → Nat → Nat) (cI cJ cZ : ClassId) (ph : Nat) (p_rows : Value) (p_dropped : Value) (p_count : Int32) (sz : Nat) : Met l yX3_removeAll v_X3_removeAll ({ frames := 0, cells := 0, slots := 0, locals := 0 }) (va_Pc [.ref ph] (cPre dC dI cI cJ cZ sz (sw_X3_removeAll cI cJ cZ ph p_rows p_dropped p_count))) (va_Qv (fun (u : Int32) => ((u) = 0)) (fun (u : Int32) => cPost dC dI cI cJ cZ (va_A (sw_X3_removeAll cI cJ cZ ph p_rows p_dropped p_count) sz) [(ph, .inr (3, [p_rows, p_dropped, .int (u)]))]) (va_A (sw_X3_removeAll cI cJ cZ ph p_rows p_dropped p_count) sz)) 0 0 (va_A (sw_X3_removeAll cI cJ cZ ph p_rows p_dropped p_count) sz) := by
  refine Met.ofW (cc := cX3_removeAll) (maxL := 1) (ret := none) (by decide) rfl ?_
  intro p e s m args below meth c s₁ B hml hv
  obtain ⟨rfl, hsz, hP, hK, hD0, hN⟩ := hv
  have hx := B.exec
  have hb := B.bytes
  have hr := B.returns
  have hts := atoms_spec (ws := v_X3_removeAll) B.pre
  have hown : s.vm.findClass RX3 = some m.cls := findClass_of_methodNamed B.named
  have hlocks := B.notSynchronized
  subst hsz
  have hD := hD0.self (sz := s.heap.size)
  generalize hAe : va_A (sw_X3_removeAll cI cJ cZ ph p_rows p_dropped p_count) s.heap.size = A at hD ⊢
  have hA : ∀ q : Nat, s.heap.size ≤ q → A q := fun q h => by rw [← hAe]; exact Or.inr h
  clear hAe hD0
  have hS : va_S A s.heap s.heap [] := va_S.rf
  replace hP : va_P (dC, dI) vwCl [(ph, .inr (3, [p_rows, p_dropped, .int p_count]))] s.heap := hP
  replace hD : va_D A [(ph, .inr (3, [p_rows, p_dropped, .int p_count]))] := hD
  have hl := lv_entry ([.ref ph]) (n := 1) (Nat.le_of_ble_eq_true rfl)
  rw [lg_entry_eq]
  generalize (lg_sl ([.ref ph]) ++ List.replicate (1 - (lg_sl ([.ref ph])).length) Slot.unset).toArray = ls at hl ⊢
  replace hl : lv_has ls 1 [(0, .ref ph)] := hl
  have z_0 : (0 : Int32).toInt = 0 := by decide
  have z_1 : (1 : Int32).toInt = 1 := by decide
  refine lv_aload_n hx hb dX3_removeAll_0 rfl (lv_at hl 0 rfl) ?_
  refine lv_iconst (v := 0) hx hb dX3_removeAll_1 (by decide) ?_
  refine va_put (D := (dC, dI)) (ci := 3) (v := .int 0) (ty := .int) (C := RX3) (T := TX3) (N := 3) hx hb hts inv_X3_removeAll_X3 tyX3 tyX3_ok nmX3 hown hK hP hD hS 0 rfl rfl 2 (by decide) (hts (.fieldLink RX3 19 "ArraySegments$Program" "count" "I") (List.mem_of_getElem? (i := 1) rfl)) (fun _ h9 => h9) rfl (by decide +kernel) rfl rfl (Nat.le_of_ble_eq_true rfl) dX3_removeAll_2 (fun H_1 locs_1 hP1 hD1 hS1 => ?_)
  replace hP : va_P (dC, dI) vwCl [(ph, .inr (3, [p_rows, p_dropped, .int 0]))] H_1 := hP1
  replace hD : va_D A [(ph, .inr (3, [p_rows, p_dropped, .int 0]))] := hD1
  replace hS := hS1
  clear hP1 hD1 hS1
  have hP9 := hP.sub (ws' := [(ph, .inr (3, [p_rows, p_dropped, .int 0]))]) [0] rfl
  have hD9 := hD.sub (ws' := [(ph, .inr (3, [p_rows, p_dropped, .int 0]))]) [0] (by decide) rfl
  exact W.vret hx hb hr (fun t ht hW => ⟨⟨(0 : Int32), rfl, (show (0 : Int32) = 0 from rfl), by rw [ht]; exact hP9, va_K.moved hW.alike hK, hD9⟩, hS.F ht⟩) hS.2.2 dX3_removeAll_5
