def v_X0_setReference : List Cond := .code yX0_setReference cX0_setReference 5 none :: ([.fieldLink RX0 22 "ArraySegments$Facts" "sites" "[J", .fieldLink RX0 26 "ArraySegments$Facts" "maybeNull" "[Z"] ++ (wsX00))
theorem inv_X0_setReference_X0 : ∀ w ∈ wsX00, w ∈ v_X0_setReference := fun _ h => List.mem_cons_of_mem _ (List.mem_append_right _ (h))
set_option maxRecDepth 20000 in
theorem gd_X0_setReference : gdL v_X0_setReference := gdC (gdW (by decide +kernel)) (gdA (gdW (by decide +kernel)) gd_wsX00)
abbrev sw_X0_setReference (cI cJ cZ : ClassId) (fh : Nat) (f_isReached : Int32) (f_least : Value) (f_greatest : Value) (fa_sites : Nat) (fa_maybeNull : Nat) (f_known : Value) (f_lanes : Value) (f_shortest : Value) (f_longest : Value) (f_leastAt : Value) (f_greatestAt : Value) (fc_sites : Nat → Int64) (fc_maybeNull : Nat → Int32) (ra : Int32) (sa : Int64) (na : Int32) : va_W := [(fh, .inr (0, [.int f_isReached, f_least, f_greatest, .ref fa_sites, .ref fa_maybeNull, f_known, f_lanes, f_shortest, f_longest, f_leastAt, f_greatestAt])), (fa_sites, .inl (cJ, 6, .inr (.inl fc_sites))), (fa_maybeNull, .inl (cZ, 6, .inl fc_maybeNull))]
set_option maxHeartbeats 8000000 in
set_option maxRecDepth 100000 in
theorem s_X0_setReference (l : Launch) (dC : Nat → ClassId) (dI : Nat → Nat → Nat) (cI cJ cZ : ClassId) (fh : Nat) (f_isReached : Int32) (f_least : Value) (f_greatest : Value) (fa_sites : Nat) (fa_maybeNull : Nat) (f_known : Value) (f_lanes : Value) (f_shortest : Value) (f_longest : Value) (f_leastAt : Value) (f_greatestAt : Value) (fc_sites : Nat → Int64) (fc_maybeNull : Nat → Int32) (ra : Int32) (sa : Int64) (na : Int32) (sz : Nat) (q_f_isReached : kZ f_isReached) (h_fc_maybeNull : ∀ j : Nat, kZ (fc_maybeNull j)) (hy_ra : V6 ra) (hy_na : kZ na) : Met l yX0_setReference v_X0_setReference ({ frames := 0, cells := 0, slots := 0, locals := 0 }) (va_Pc [.ref fh, .int ra, .long sa, .int na] (cPre dC dI cI cJ cZ sz (sw_X0_setReference cI cJ cZ fh f_isReached f_least f_greatest fa_sites fa_maybeNull f_known f_lanes f_shortest f_longest f_leastAt f_greatestAt fc_sites fc_maybeNull ra sa na))) (va_Qv (fun (u : (Nat → Int64) × (Nat → Int32)) => (∀ j : Nat, kZ ((u.2) j)) ∧ (∀ j : Nat, (j = (ra).toNatClampNeg → (u.1) j = sa) ∧ (¬ j = (ra).toNatClampNeg → (u.1) j = fc_sites j)) ∧ (upI fc_maybeNull (ra).toNatClampNeg na.toInt (u.2))) (fun (u : (Nat → Int64) × (Nat → Int32)) => cPost dC dI cI cJ cZ (va_A (sw_X0_setReference cI cJ cZ fh f_isReached f_least f_greatest fa_sites fa_maybeNull f_known f_lanes f_shortest f_longest f_leastAt f_greatestAt fc_sites fc_maybeNull ra sa na) sz) [(fh, .inr (0, [.int f_isReached, f_least, f_greatest, .ref fa_sites, .ref fa_maybeNull, f_known, f_lanes, f_shortest, f_longest, f_leastAt, f_greatestAt])), (fa_sites, .inl (cJ, 6, .inr (.inl (u.1)))), (fa_maybeNull, .inl (cZ, 6, .inl (u.2)))]) (va_A (sw_X0_setReference cI cJ cZ fh f_isReached f_least f_greatest fa_sites fa_maybeNull f_known f_lanes f_shortest f_longest f_leastAt f_greatestAt fc_sites fc_maybeNull ra sa na) sz)) 0 0 (va_A (sw_X0_setReference cI cJ cZ fh f_isReached f_least f_greatest fa_sites fa_maybeNull f_known f_lanes f_shortest f_longest f_leastAt f_greatestAt fc_sites fc_maybeNull ra sa na) sz) := by
  refine Met.ofW (cc := cX0_setReference) (maxL := 5) (ret := none) (by decide) rfl ?_
  intro p e s m args below meth c s₁ B hml hv
  obtain ⟨rfl, hsz, hP, hK, hD0, hN⟩ := hv
  have hx := B.exec
  have hb := B.bytes
  have hr := B.returns
  have hts := atoms_spec (ws := v_X0_setReference) B.pre
  have hown : s.vm.findClass RX0 = some m.cls := findClass_of_methodNamed B.named
  have hlocks := B.notSynchronized
  subst hsz
  have hD := hD0.self (sz := s.heap.size)
  generalize hAe : va_A (sw_X0_setReference cI cJ cZ fh f_isReached f_least f_greatest fa_sites fa_maybeNull f_known f_lanes f_shortest f_longest f_leastAt f_greatestAt fc_sites fc_maybeNull ra sa na) s.heap.size = A at hD ⊢
  have hA : ∀ q : Nat, s.heap.size ≤ q → A q := fun q h => by rw [← hAe]; exact Or.inr h
  clear hAe hD0
  have hS : va_S A s.heap s.heap [] := va_S.rf
  replace hP : va_P (dC, dI) vwCl [(fh, .inr (0, [.int f_isReached, f_least, f_greatest, .ref fa_sites, .ref fa_maybeNull, f_known, f_lanes, f_shortest, f_longest, f_leastAt, f_greatestAt])), (fa_sites, .inl (cJ, 6, .inr (.inl fc_sites))), (fa_maybeNull, .inl (cZ, 6, .inl fc_maybeNull))] s.heap := hP
  replace hD : va_D A [(fh, .inr (0, [.int f_isReached, f_least, f_greatest, .ref fa_sites, .ref fa_maybeNull, f_known, f_lanes, f_shortest, f_longest, f_leastAt, f_greatestAt])), (fa_sites, .inl (cJ, 6, .inr (.inl fc_sites))), (fa_maybeNull, .inl (cZ, 6, .inl fc_maybeNull))] := hD
  have hl := lv_entry ([.ref fh, .int ra, .long sa, .int na]) (n := 5) (Nat.le_of_ble_eq_true rfl)
  rw [lg_entry_eq]
  generalize (lg_sl ([.ref fh, .int ra, .long sa, .int na]) ++ List.replicate (5 - (lg_sl ([.ref fh, .int ra, .long sa, .int na])).length) Slot.unset).toArray = ls at hl ⊢
  replace hl : lv_has ls 5 [(0, .ref fh), (1, .int ra), (2, .long sa), (4, .int na)] := hl
  have z_0 : (0 : Int32).toInt = 0 := by decide
  have z_1 : (1 : Int32).toInt = 1 := by decide
  refine lv_aload_n hx hb dX0_setReference_0 rfl (lv_at hl 0 rfl) ?_
  refine va_get (D := (dC, dI)) (ci := 0) (v := .ref fa_sites) (C := RX0) (T := TX0) (N := 11) hx hb hts inv_X0_setReference_X0 hown hK hP 0 rfl rfl 3 (by decide) (hts (.fieldLink RX0 22 "ArraySegments$Facts" "sites" "[J") (List.mem_of_getElem? (i := 1) rfl)) (fun _ h9 => h9) rfl dX0_setReference_1 ?_
  refine lv_iload_n hx hb dX0_setReference_4 rfl (lv_at hl 1 rfl) ?_
  refine lv_lload_n hx hb dX0_setReference_5 rfl (lv_at hl 2 rfl) ?_
  have ni_3 := nn_cl (z := ra) (by omega)
  refine sf_lastU2 lT hx hb hK hP hD hS 1 1 rfl rfl (fun _ => trivial) trivial (vp_in_iff.mpr ⟨by omega, by omega⟩) dX0_setReference_6 (fun f_1 h_f_1 u_f_1 H_2 locs_2 hP1 hD1 hS1 => ?_)
  replace hP : va_P (dC, dI) vwCl [(fh, .inr (0, [.int f_isReached, f_least, f_greatest, .ref fa_sites, .ref fa_maybeNull, f_known, f_lanes, f_shortest, f_longest, f_leastAt, f_greatestAt])), (fa_sites, .inl (cJ, 6, .inr (.inl f_1))), (fa_maybeNull, .inl (cZ, 6, .inl fc_maybeNull))] H_2 := hP1
  replace hD : va_D A [(fh, .inr (0, [.int f_isReached, f_least, f_greatest, .ref fa_sites, .ref fa_maybeNull, f_known, f_lanes, f_shortest, f_longest, f_leastAt, f_greatestAt])), (fa_sites, .inl (cJ, 6, .inr (.inl f_1))), (fa_maybeNull, .inl (cZ, 6, .inl fc_maybeNull))] := hD1
  replace hS := hS1
  clear hP1 hD1 hS1
  refine lv_aload_n hx hb dX0_setReference_7 rfl (lv_at hl 0 rfl) ?_
  refine va_get (D := (dC, dI)) (ci := 0) (v := .ref fa_maybeNull) (C := RX0) (T := TX0) (N := 11) hx hb hts inv_X0_setReference_X0 hown hK hP 0 rfl rfl 4 (by decide) (hts (.fieldLink RX0 26 "ArraySegments$Facts" "maybeNull" "[Z") (List.mem_of_getElem? (i := 2) rfl)) (fun _ h9 => h9) rfl dX0_setReference_8 ?_
  refine lv_iload_n hx hb dX0_setReference_11 rfl (lv_at hl 1 rfl) ?_
  refine lv_iload hx hb dX0_setReference_12 (lv_at hl 3 rfl) ?_
  have ni_6 := nn_cl (z := ra) (by omega)
  refine sf_zastU hx hb hK hP hD hS 2 2 rfl rfl h_fc_maybeNull hy_na (vp_in_iff.mpr ⟨by omega, by omega⟩) dX0_setReference_14 (fun f_4 h_f_4 u_f_4 H_5 locs_5 hP1 hD1 hS1 => ?_)
  replace hP : va_P (dC, dI) vwCl [(fh, .inr (0, [.int f_isReached, f_least, f_greatest, .ref fa_sites, .ref fa_maybeNull, f_known, f_lanes, f_shortest, f_longest, f_leastAt, f_greatestAt])), (fa_sites, .inl (cJ, 6, .inr (.inl f_1))), (fa_maybeNull, .inl (cZ, 6, .inl f_4))] H_5 := hP1
  replace hD : va_D A [(fh, .inr (0, [.int f_isReached, f_least, f_greatest, .ref fa_sites, .ref fa_maybeNull, f_known, f_lanes, f_shortest, f_longest, f_leastAt, f_greatestAt])), (fa_sites, .inl (cJ, 6, .inr (.inl f_1))), (fa_maybeNull, .inl (cZ, 6, .inl f_4))] := hD1
  replace hS := hS1
  clear hP1 hD1 hS1
  have hP9 := hP.sub (ws' := [(fh, .inr (0, [.int f_isReached, f_least, f_greatest, .ref fa_sites, .ref fa_maybeNull, f_known, f_lanes, f_shortest, f_longest, f_leastAt, f_greatestAt])), (fa_sites, .inl (cJ, 6, .inr (.inl f_1))), (fa_maybeNull, .inl (cZ, 6, .inl f_4))]) [0, 1, 2] rfl
  have hD9 := hD.sub (ws' := [(fh, .inr (0, [.int f_isReached, f_least, f_greatest, .ref fa_sites, .ref fa_maybeNull, f_known, f_lanes, f_shortest, f_longest, f_leastAt, f_greatestAt])), (fa_sites, .inl (cJ, 6, .inr (.inl f_1))), (fa_maybeNull, .inl (cZ, 6, .inl f_4))]) [0, 1, 2] (by decide) rfl
  exact W.vret hx hb hr (fun t ht hW => ⟨⟨(f_1, f_4), rfl, ⟨(show ∀ j : Nat, kZ (f_4 j) from h_f_4), (show ∀ j : Nat, (j = (ra).toNatClampNeg → f_1 j = sa) ∧ (¬ j = (ra).toNatClampNeg → f_1 j = fc_sites j) from u_f_1), (show upI fc_maybeNull (ra).toNatClampNeg na.toInt f_4 from u_f_4)⟩, by rw [ht]; exact hP9, va_K.moved hW.alike hK, hD9⟩, hS.F ht⟩) hS.2.2 dX0_setReference_15
