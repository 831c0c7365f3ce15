def v_X0_setSpan : List Cond := .code yX0_setSpan cX0_setSpan 4 none :: ([.fieldLink RX0 15 "ArraySegments$Facts" "least" "[I", .fieldLink RX0 19 "ArraySegments$Facts" "greatest" "[I"] ++ (wsX00))
theorem inv_X0_setSpan_X0 : ∀ w ∈ wsX00, w ∈ v_X0_setSpan := fun _ h => List.mem_cons_of_mem _ (List.mem_append_right _ (h))
set_option maxRecDepth 20000 in
theorem gd_X0_setSpan : gdL v_X0_setSpan := gdC (gdW (by decide +kernel)) (gdA (gdW (by decide +kernel)) gd_wsX00)
abbrev sw_X0_setSpan (cI cJ cZ : ClassId) (fh : Nat) (f_isReached : Int32) (fa_least : Nat) (fa_greatest : Nat) (f_sites : Value) (f_maybeNull : Value) (f_known : Value) (f_lanes : Value) (f_shortest : Value) (f_longest : Value) (f_leastAt : Value) (f_greatestAt : Value) (fc_least : Nat → Int32) (fc_greatest : Nat → Int32) (xa : Int32) (loa : Int32) (hia : Int32) : va_W := [(fh, .inr (0, [.int f_isReached, .ref fa_least, .ref fa_greatest, f_sites, f_maybeNull, f_known, f_lanes, f_shortest, f_longest, f_leastAt, f_greatestAt])), (fa_least, .inl (cI, 6, .inl fc_least)), (fa_greatest, .inl (cI, 6, .inl fc_greatest))]
set_option maxHeartbeats 8000000 in
set_option maxRecDepth 100000 in
theorem s_X0_setSpan (l : Launch) (dC : Nat → ClassId) (dI : Nat → Nat → Nat) (cI cJ cZ : ClassId) (fh : Nat) (f_isReached : Int32) (fa_least : Nat) (fa_greatest : Nat) (f_sites : Value) (f_maybeNull : Value) (f_known : Value) (f_lanes : Value) (f_shortest : Value) (f_longest : Value) (f_leastAt : Value) (f_greatestAt : Value) (fc_least : Nat → Int32) (fc_greatest : Nat → Int32) (xa : Int32) (loa : Int32) (hia : Int32) (sz : Nat) (q_f_isReached : kZ f_isReached) (hy_xa : V6 xa) : Met l yX0_setSpan v_X0_setSpan ({ frames := 0, cells := 0, slots := 0, locals := 0 }) (va_Pc [.ref fh, .int xa, .int loa, .int hia] (cPre dC dI cI cJ cZ sz (sw_X0_setSpan cI cJ cZ fh f_isReached fa_least fa_greatest f_sites f_maybeNull f_known f_lanes f_shortest f_longest f_leastAt f_greatestAt fc_least fc_greatest xa loa hia))) (va_Qv (fun (u : (Nat → Int32) × (Nat → Int32)) => (upI fc_least (xa).toNatClampNeg loa.toInt (u.1)) ∧ (upI fc_greatest (xa).toNatClampNeg hia.toInt (u.2))) (fun (u : (Nat → Int32) × (Nat → Int32)) => cPost dC dI cI cJ cZ (va_A (sw_X0_setSpan cI cJ cZ fh f_isReached fa_least fa_greatest f_sites f_maybeNull f_known f_lanes f_shortest f_longest f_leastAt f_greatestAt fc_least fc_greatest xa loa hia) sz) [(fh, .inr (0, [.int f_isReached, .ref fa_least, .ref fa_greatest, f_sites, f_maybeNull, f_known, f_lanes, f_shortest, f_longest, f_leastAt, f_greatestAt])), (fa_least, .inl (cI, 6, .inl (u.1))), (fa_greatest, .inl (cI, 6, .inl (u.2)))]) (va_A (sw_X0_setSpan cI cJ cZ fh f_isReached fa_least fa_greatest f_sites f_maybeNull f_known f_lanes f_shortest f_longest f_leastAt f_greatestAt fc_least fc_greatest xa loa hia) sz)) 0 0 (va_A (sw_X0_setSpan cI cJ cZ fh f_isReached fa_least fa_greatest f_sites f_maybeNull f_known f_lanes f_shortest f_longest f_leastAt f_greatestAt fc_least fc_greatest xa loa hia) sz) := by
  refine Met.ofW (cc := cX0_setSpan) (maxL := 4) (ret := none) (by decide) rfl ?_
  intro p e s m args below meth c s₁ B hml hv
  obtain ⟨rfl, hsz, hP, hK, hD0, hN⟩ := hv
  have hx := B.exec
  have hb := B.bytes
  have hr := B.returns
  have hts := atoms_spec (ws := v_X0_setSpan) B.pre
  have hown : s.vm.findClass RX0 = some m.cls := findClass_of_methodNamed B.named
  have hlocks := B.notSynchronized
  subst hsz
  have hD := hD0.self (sz := s.heap.size)
  generalize hAe : va_A (sw_X0_setSpan cI cJ cZ fh f_isReached fa_least fa_greatest f_sites f_maybeNull f_known f_lanes f_shortest f_longest f_leastAt f_greatestAt fc_least fc_greatest xa loa hia) s.heap.size = A at hD ⊢
  have hA : ∀ q : Nat, s.heap.size ≤ q → A q := fun q h => by rw [← hAe]; exact Or.inr h
  clear hAe hD0
  have hS : va_S A s.heap s.heap [] := va_S.rf
  replace hP : va_P (dC, dI) vwCl [(fh, .inr (0, [.int f_isReached, .ref fa_least, .ref fa_greatest, f_sites, f_maybeNull, f_known, f_lanes, f_shortest, f_longest, f_leastAt, f_greatestAt])), (fa_least, .inl (cI, 6, .inl fc_least)), (fa_greatest, .inl (cI, 6, .inl fc_greatest))] s.heap := hP
  replace hD : va_D A [(fh, .inr (0, [.int f_isReached, .ref fa_least, .ref fa_greatest, f_sites, f_maybeNull, f_known, f_lanes, f_shortest, f_longest, f_leastAt, f_greatestAt])), (fa_least, .inl (cI, 6, .inl fc_least)), (fa_greatest, .inl (cI, 6, .inl fc_greatest))] := hD
  have hl := lv_entry ([.ref fh, .int xa, .int loa, .int hia]) (n := 4) (Nat.le_of_ble_eq_true rfl)
  rw [lg_entry_eq]
  generalize (lg_sl ([.ref fh, .int xa, .int loa, .int hia]) ++ List.replicate (4 - (lg_sl ([.ref fh, .int xa, .int loa, .int hia])).length) Slot.unset).toArray = ls at hl ⊢
  replace hl : lv_has ls 4 [(0, .ref fh), (1, .int xa), (2, .int loa), (3, .int hia)] := hl
  have z_0 : (0 : Int32).toInt = 0 := by decide
  have z_1 : (1 : Int32).toInt = 1 := by decide
  refine lv_aload_n hx hb dX0_setSpan_0 rfl (lv_at hl 0 rfl) ?_
  refine va_get (D := (dC, dI)) (ci := 0) (v := .ref fa_least) (C := RX0) (T := TX0) (N := 11) hx hb hts inv_X0_setSpan_X0 hown hK hP 0 rfl rfl 1 (by decide) (hts (.fieldLink RX0 15 "ArraySegments$Facts" "least" "[I") (List.mem_of_getElem? (i := 1) rfl)) (fun _ h9 => h9) rfl dX0_setSpan_1 ?_
  refine lv_iload_n hx hb dX0_setSpan_4 rfl (lv_at hl 1 rfl) ?_
  refine lv_iload_n hx hb dX0_setSpan_5 rfl (lv_at hl 2 rfl) ?_
  have ni_3 := nn_cl (z := xa) (by omega)
  refine sf_iastU kT hx hb hK hP hD hS 1 0 rfl rfl (fun _ => trivial) trivial (vp_in_iff.mpr ⟨by omega, by omega⟩) dX0_setSpan_6 (fun f_1 h_f_1 u_f_1 H_2 locs_2 hP1 hD1 hS1 => ?_)
  replace hP : va_P (dC, dI) vwCl [(fh, .inr (0, [.int f_isReached, .ref fa_least, .ref fa_greatest, f_sites, f_maybeNull, f_known, f_lanes, f_shortest, f_longest, f_leastAt, f_greatestAt])), (fa_least, .inl (cI, 6, .inl f_1)), (fa_greatest, .inl (cI, 6, .inl fc_greatest))] H_2 := hP1
  replace hD : va_D A [(fh, .inr (0, [.int f_isReached, .ref fa_least, .ref fa_greatest, f_sites, f_maybeNull, f_known, f_lanes, f_shortest, f_longest, f_leastAt, f_greatestAt])), (fa_least, .inl (cI, 6, .inl f_1)), (fa_greatest, .inl (cI, 6, .inl fc_greatest))] := hD1
  replace hS := hS1
  clear hP1 hD1 hS1
  refine lv_aload_n hx hb dX0_setSpan_7 rfl (lv_at hl 0 rfl) ?_
  refine va_get (D := (dC, dI)) (ci := 0) (v := .ref fa_greatest) (C := RX0) (T := TX0) (N := 11) hx hb hts inv_X0_setSpan_X0 hown hK hP 0 rfl rfl 2 (by decide) (hts (.fieldLink RX0 19 "ArraySegments$Facts" "greatest" "[I") (List.mem_of_getElem? (i := 2) rfl)) (fun _ h9 => h9) rfl dX0_setSpan_8 ?_
  refine lv_iload_n hx hb dX0_setSpan_11 rfl (lv_at hl 1 rfl) ?_
  refine lv_iload_n hx hb dX0_setSpan_12 rfl (lv_at hl 3 rfl) ?_
  have ni_6 := nn_cl (z := xa) (by omega)
  refine sf_iastU kT hx hb hK hP hD hS 2 0 rfl rfl (fun _ => trivial) trivial (vp_in_iff.mpr ⟨by omega, by omega⟩) dX0_setSpan_13 (fun f_4 h_f_4 u_f_4 H_5 locs_5 hP1 hD1 hS1 => ?_)
  replace hP : va_P (dC, dI) vwCl [(fh, .inr (0, [.int f_isReached, .ref fa_least, .ref fa_greatest, f_sites, f_maybeNull, f_known, f_lanes, f_shortest, f_longest, f_leastAt, f_greatestAt])), (fa_least, .inl (cI, 6, .inl f_1)), (fa_greatest, .inl (cI, 6, .inl f_4))] H_5 := hP1
  replace hD : va_D A [(fh, .inr (0, [.int f_isReached, .ref fa_least, .ref fa_greatest, f_sites, f_maybeNull, f_known, f_lanes, f_shortest, f_longest, f_leastAt, f_greatestAt])), (fa_least, .inl (cI, 6, .inl f_1)), (fa_greatest, .inl (cI, 6, .inl f_4))] := hD1
  replace hS := hS1
  clear hP1 hD1 hS1
  have hP9 := hP.sub (ws' := [(fh, .inr (0, [.int f_isReached, .ref fa_least, .ref fa_greatest, f_sites, f_maybeNull, f_known, f_lanes, f_shortest, f_longest, f_leastAt, f_greatestAt])), (fa_least, .inl (cI, 6, .inl f_1)), (fa_greatest, .inl (cI, 6, .inl f_4))]) [0, 1, 2] rfl
  have hD9 := hD.sub (ws' := [(fh, .inr (0, [.int f_isReached, .ref fa_least, .ref fa_greatest, f_sites, f_maybeNull, f_known, f_lanes, f_shortest, f_longest, f_leastAt, f_greatestAt])), (fa_least, .inl (cI, 6, .inl f_1)), (fa_greatest, .inl (cI, 6, .inl f_4))]) [0, 1, 2] (by decide) rfl
  exact W.vret hx hb hr (fun t ht hW => ⟨⟨(f_1, f_4), rfl, ⟨(show upI fc_least (xa).toNatClampNeg loa.toInt f_1 from u_f_1), (show upI fc_greatest (xa).toNatClampNeg hia.toInt f_4 from u_f_4)⟩, by rw [ht]; exact hP9, va_K.moved hW.alike hK, hD9⟩, hS.F ht⟩) hS.2.2 dX0_setSpan_14
