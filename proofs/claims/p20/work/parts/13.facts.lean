def v_X0_setSpan : List Cond := .code yX0_setSpan cX0_setSpan 4 none :: ([.fieldLink RX0 15 "ArraySegments$Facts" "least" "[I", .fieldLink RX0 19 "ArraySegments$Facts" "greatest" "[I"] ++ (wsX00))
theorem inv_X0_setSpan_X0 : ∀ w ∈ wsX00, w ∈ v_X0_setSpan := fun _ h => List.mem_cons_of_mem _ (List.mem_append_right _ (h))
set_option maxRecDepth 20000 in
theorem gd_X0_setSpan : gdL v_X0_setSpan := gdC (gdW (by decide +kernel)) (gdA (gdW (by decide +kernel)) gd_wsX00)
abbrev sw_X0_setSpan (cI cJ cZ : ClassId) (fh : Nat) (f_isReached : Int32) (fa_least : Nat) (fa_greatest : Nat) (f_sites : Value) (f_maybeNull : Value) (f_known : Value) (f_lanes : Value) (f_shortest : Value) (f_longest : Value) (f_leastAt : Value) (f_greatestAt : Value) (fc_least : Nat → Int32) (fc_greatest : Nat → Int32) (xa : Int32) (loa : Int32) (hia : Int32) : va_W := [(fh, .inr (0, [.int f_isReached, .ref fa_least, .ref fa_greatest, f_sites, f_maybeNull, f_known, f_lanes, f_shortest, f_longest, f_leastAt, f_greatestAt])), (fa_least, .inl (cI, 6, .inl fc_least)), (fa_greatest, .inl (cI, 6, .inl fc_greatest))]
set_option maxHeartbeats 8000000 in
set_option maxRecDepth 100000 in
theorem s_X0_setSpan (l : Launch) (dC : Nat → ClassId) (dI : Nat → Nat → Nat) (cI cJ cZ : ClassId) (fh : Nat) (f_isReached : Int32) (fa_least : Nat) (fa_greatest : Nat) (f_sites : Value) (f_maybeNull : Value) (f_known : Value) (f_lanes : Value) (f_shortest : Value) (f_longest : Value) (f_leastAt : Value) (f_greatestAt : Value) (fc_least : Nat → Int32) (fc_greatest : Nat → Int32) (xa : Int32) (loa : Int32) (hia : Int32) (sz : Nat) (q_f_isReached : kZ f_isReached) (hy_xa : V6 xa) : Met l yX0_setSpan v_X0_setSpan ({ frames := 0, cells := 0, slots := 0, locals := 0 }) (va_Pc [.ref fh, .int xa, .int loa, .int hia] (cPre dC dI cI cJ cZ sz (sw_X0_setSpan cI cJ cZ fh f_isReached fa_least fa_greatest f_sites f_maybeNull f_known f_lanes f_shortest f_longest f_leastAt f_greatestAt fc_least fc_greatest xa loa hia))) (va_Qv (fun (u : (Nat → Int32) × (Nat → Int32)) => (upI fc_least (xa).toNatClampNeg loa.toInt (u.1)) ∧ (upI fc_greatest (xa).toNatClampNeg hia.toInt (u.2))) (fun (u : (Nat → Int32) × (Nat → Int32)) => cPost dC dI cI cJ cZ (va_A (sw_X0_setSpan cI cJ cZ fh f_isReached fa_least fa_greatest f_sites f_maybeNull f_known f_lanes f_shortest f_longest f_leastAt f_greatestAt fc_least fc_greatest xa loa hia) sz) [(fh, .inr (0, [.int f_isReached, .ref fa_least, .ref fa_greatest, f_sites, f_maybeNull, f_known, f_lanes, f_shortest, f_longest, f_leastAt, f_greatestAt])), (fa_least, .inl (cI, 6, .inl (u.1))), (fa_greatest, .inl (cI, 6, .inl (u.2)))]) (va_A (sw_X0_setSpan cI cJ cZ fh f_isReached fa_least fa_greatest f_sites f_maybeNull f_known f_lanes f_shortest f_longest f_leastAt f_greatestAt fc_least fc_greatest xa loa hia) sz)) 0 0 (va_A (sw_X0_setSpan cI cJ cZ fh f_isReached fa_least fa_greatest f_sites f_maybeNull f_known f_lanes f_shortest f_longest f_leastAt f_greatestAt fc_least fc_greatest xa loa hia) sz) := by
  refine Met.ofW (cc := cX0_setSpan) (maxL := 4) (ret := none) (by decide) rfl ?_
  intro p e s m args below meth c s₁ B hml hv
  obtain ⟨rfl, hsz, hP, hK, hD0, hN⟩ := hv
  have hx := B.exec
  have hb := B.bytes
  have hr := B.returns
  have hts := atoms_spec (ws := v_X0_setSpan) B.pre
  have hown : s.vm.findClass RX0 = some m.cls := findClass_of_methodNamed B.named
  have hlocks := B.notSynchronized
  subst hsz
  have hD := hD0.self (sz := s.heap.size)
  generalize hAe : va_A (sw_X0_setSpan cI cJ cZ fh f_isReached fa_least fa_greatest f_sites f_maybeNull f_known f_lanes f_shortest f_longest f_leastAt f_greatestAt fc_least fc_greatest xa loa hia) s.heap.size = A at hD ⊢
  have hA : ∀ q : Nat, s.heap.size ≤ q → A q := fun q h => by rw [← hAe]; exact Or.inr h
  clear hAe hD0
  have hS : va_S A s.heap s.heap [] := va_S.rf
  replace hP : va_P (dC, dI) vwCl [(fh, .inr (0, [.int f_isReached, .ref fa_least, .ref fa_greatest, f_sites, f_maybeNull, f_known, f_lanes, f_shortest, f_longest, f_leastAt, f_greatestAt])), (fa_least, .inl (cI, 6, .inl fc_least)), (fa_greatest, .inl (cI, 6, .inl fc_greatest))] s.heap := hP
  replace hD : va_D A [(fh, .inr (0, [.int f_isReached, .ref fa_least, .ref fa_greatest, f_sites, f_maybeNull, f_known, f_lanes, f_shortest, f_longest, f_leastAt, f_greatestAt])), (fa_least, .inl (cI, 6, .inl fc_least)), (fa_greatest, .inl (cI, 6, .inl fc_greatest))] := hD
  have hl := lv_entry ([.ref fh, .int xa, .int loa, .int hia]) (n := 4) (Nat.le_of_ble_eq_true rfl)
  rw [lg_entry_eq]
  generalize (lg_sl ([.ref fh, .int xa, .int loa, .int hia]) ++ List.replicate (4 - (lg_sl ([.ref fh, .int xa, .int loa, .int hia])).length) Slot.unset).toArray = ls at hl ⊢
  replace hl : lv_has ls 4 [(0, .ref fh), (1, .int xa), (2, .int loa), (3, .int hia)] := hl
  have z_0 : (0 : Int32).toInt = 0 := by decide
  have z_1 : (1 : Int32).toInt = 1 := by decide
  refine lv_aload_n hx hb dX0_setSpan_0 rfl (lv_at hl 0 rfl) ?_
  refine va_get (D := (dC, dI)) (ci := 0) (v := .ref fa_least) (C := RX0) (T := TX0) (N := 11) hx hb hts inv_X0_setSpan_X0 hown hK hP 0 rfl rfl 1 (by decide) (hts (.fieldLink RX0 15 "ArraySegments$Facts" "least" "[I") (List.mem_of_getElem? (i := 1) rfl)) (fun _ h9 => h9) rfl dX0_setSpan_1 ?_
  refine lv_iload_n hx hb dX0_setSpan_4 rfl (lv_at hl 1 rfl) ?_
  refine lv_iload_n hx hb dX0_setSpan_5 rfl (lv_at hl 2 rfl) ?_
  have ni_3 := nn_cl (z := xa) (by omega)
  refine sf_iastU kT hx hb hK hP hD hS 1 0 rfl rfl (fun _ => trivial) trivial (vp_in_iff.mpr ⟨by omega, by omega⟩) dX0_setSpan_6 (fun f_1 h_f_1 u_f_1 H_2 locs_2 hP1 hD1 hS1 => ?_)
  replace hP : va_P (dC, dI) vwCl [(fh, .inr (0, [.int f_isReached, .ref fa_least, .ref fa_greatest, f_sites, f_maybeNull, f_known, f_lanes, f_shortest, f_longest, f_leastAt, f_greatestAt])), (fa_least, .inl (cI, 6, .inl f_1)), (fa_greatest, .inl (cI, 6, .inl fc_greatest))] H_2 := hP1
  replace hD : va_D A [(fh, .inr (0, [.int f_isReached, .ref fa_least, .ref fa_greatest, f_sites, f_maybeNull, f_known, f_lanes, f_shortest, f_longest, f_leastAt, f_greatestAt])), (fa_least, .inl (cI, 6, .inl f_1)), (fa_greatest, .inl (cI, 6, .inl fc_greatest))] := hD1
  replace hS := hS1
  clear hP1 hD1 hS1
  refine lv_aload_n hx hb dX0_setSpan_7 rfl (lv_at hl 0 rfl) ?_
  refine va_get (D := (dC, dI)) (ci := 0) (v := .ref fa_greatest) (C := RX0) (T := TX0) (N := 11) hx hb hts inv_X0_setSpan_X0 hown hK hP 0 rfl rfl 2 (by decide) (hts (.fieldLink RX0 19 "ArraySegments$Facts" "greatest" "[I") (List.mem_of_getElem? (i := 2) rfl)) (fun _ h9 => h9) rfl dX0_setSpan_8 ?_
  refine lv_iload_n hx hb dX0_setSpan_11 rfl (lv_at hl 1 rfl) ?_
  refine lv_iload_n hx hb dX0_setSpan_12 rfl (lv_at hl 3 rfl) ?_
  have ni_6 := nn_cl (z := xa) (by omega)
  refine sf_iastU kT hx hb hK hP hD hS 2 0 rfl rfl (fun _ => trivial) trivial (vp_in_iff.mpr ⟨by omega, by omega⟩) dX0_setSpan_13 (fun f_4 h_f_4 u_f_4 H_5 locs_5 hP1 hD1 hS1 => ?_)
  replace hP : va_P (dC, dI) vwCl [(fh, .inr (0, [.int f_isReached, .ref fa_least, .ref fa_greatest, f_sites, f_maybeNull, f_known, f_lanes, f_shortest, f_longest, f_leastAt, f_greatestAt])), (fa_least, .inl (cI, 6, .inl f_1)), (fa_greatest, .inl (cI, 6, .inl f_4))] H_5 := hP1
  replace hD : va_D A [(fh, .inr (0, [.int f_isReached, .ref fa_least, .ref fa_greatest, f_sites, f_maybeNull, f_known, f_lanes, f_shortest, f_longest, f_leastAt, f_greatestAt])), (fa_least, .inl (cI, 6, .inl f_1)), (fa_greatest, .inl (cI, 6, .inl f_4))] := hD1
  replace hS := hS1
  clear hP1 hD1 hS1
  have hP9 := hP.sub (ws' := [(fh, .inr (0, [.int f_isReached, .ref fa_least, .ref fa_greatest, f_sites, f_maybeNull, f_known, f_lanes, f_shortest, f_longest, f_leastAt, f_greatestAt])), (fa_least, .inl (cI, 6, .inl f_1)), (fa_greatest, .inl (cI, 6, .inl f_4))]) [0, 1, 2] rfl
  have hD9 := hD.sub (ws' := [(fh, .inr (0, [.int f_isReached, .ref fa_least, .ref fa_greatest, f_sites, f_maybeNull, f_known, f_lanes, f_shortest, f_longest, f_leastAt, f_greatestAt])), (fa_least, .inl (cI, 6, .inl f_1)), (fa_greatest, .inl (cI, 6, .inl f_4))]) [0, 1, 2] (by decide) rfl
  exact W.vret hx hb hr (fun t ht hW => ⟨⟨(f_1, f_4), rfl, ⟨(show upI fc_least (xa).toNatClampNeg loa.toInt f_1 from u_f_1), (show upI fc_greatest (xa).toNatClampNeg hia.toInt f_4 from u_f_4)⟩, by rw [ht]; exact hP9, va_K.moved hW.alike hK, hD9⟩, hS.F ht⟩) hS.2.2 dX0_setSpan_14

def v_X0_setOutcome : List Cond := .code yX0_setOutcome cX0_setOutcome 6 none :: ([.constantLong RX0 81 (-2147483648), .constant RX0 85 (-2147483648), .constant RX0 86 (2147483647), .methodLink RX0 48 yX0_setSpan, .instanceMethod yX0_setSpan, .selects RX0 yX0_setSpan yX0_setSpan, .initialized RX0, .constantLong RX0 83 (2147483647)] ++ (v_X0_setSpan))
theorem im_X0_setOutcome_X0_setSpan : ∀ w ∈ v_X0_setSpan, w ∈ v_X0_setOutcome := fun _ h => List.mem_cons_of_mem _ (List.mem_append_right _ (h))
set_option maxRecDepth 20000 in
theorem gd_X0_setOutcome : gdL v_X0_setOutcome := gdC (gdW (by decide +kernel)) (gdA (gdW (by decide +kernel)) gd_X0_setSpan)
set_option maxRecDepth 20000 in
theorem h_X0_setOutcome_X0_setSpan_48 : GoodIn v_X0_setOutcome (wsV RX0 48 RX0 yX0_setSpan v_X0_setSpan) := gdI [4, 5, 6, 7] rfl (by decide +kernel) (im_X0_setOutcome_X0_setSpan) gd_X0_setSpan
abbrev sw_X0_setOutcome (cI cJ cZ : ClassId) (fh : Nat) (f_isReached : Int32) (fa_least : Nat) (fa_greatest : Nat) (f_sites : Value) (f_maybeNull : Value) (f_known : Value) (f_lanes : Value) (f_shortest : Value) (f_longest : Value) (f_leastAt : Value) (f_greatestAt : Value) (fc_least : Nat → Int32) (fc_greatest : Nat → Int32) (xa : Int32) (loa : Int64) (hia : Int64) : va_W := [(fh, .inr (0, [.int f_isReached, .ref fa_least, .ref fa_greatest, f_sites, f_maybeNull, f_known, f_lanes, f_shortest, f_longest, f_leastAt, f_greatestAt])), (fa_least, .inl (cI, 6, .inl fc_least)), (fa_greatest, .inl (cI, 6, .inl fc_greatest))]
set_option maxHeartbeats 8000000 in
set_option maxRecDepth 100000 in
theorem s_X0_setOutcome (l : Launch) (dC : Nat → ClassId) (dI : Nat → Nat → Nat) (cI cJ cZ : ClassId) (fh : Nat) (f_isReached : Int32) (fa_least : Nat) (fa_greatest : Nat) (f_sites : Value) (f_maybeNull : Value) (f_known : Value) (f_lanes : Value) (f_shortest : Value) (f_longest : Value) (f_leastAt : Value) (f_greatestAt : Value) (fc_least : Nat → Int32) (fc_greatest : Nat → Int32) (xa : Int32) (loa : Int64) (hia : Int64) (sz : Nat) (q_f_isReached : kZ f_isReached) (hy_xa : V6 xa) : Met l yX0_setOutcome v_X0_setOutcome ({ frames := 1, cells := 0, slots := 0, locals := 23 }) (va_Pc [.ref fh, .int xa, .long loa, .long hia] (cPre dC dI cI cJ cZ sz (sw_X0_setOutcome cI cJ cZ fh f_isReached fa_least fa_greatest f_sites f_maybeNull f_known f_lanes f_shortest f_longest f_leastAt f_greatestAt fc_least fc_greatest xa loa hia))) (va_Qv (fun (u : (Nat → Int32) × (Nat → Int32)) => (hia.toInt < loa.toInt ∨ (-2147483648 ≤ loa.toInt ∧ hia.toInt ≤ 2147483647 ∧ upI fc_least (xa).toNatClampNeg loa.toInt (u.1) ∧ upI fc_greatest (xa).toNatClampNeg hia.toInt (u.2)) ∨ (upI fc_least (xa).toNatClampNeg (-2147483648) (u.1) ∧ upI fc_greatest (xa).toNatClampNeg 2147483647 (u.2)))) (fun (u : (Nat → Int32) × (Nat → Int32)) => cPost dC dI cI cJ cZ (va_A (sw_X0_setOutcome cI cJ cZ fh f_isReached fa_least fa_greatest f_sites f_maybeNull f_known f_lanes f_shortest f_longest f_leastAt f_greatestAt fc_least fc_greatest xa loa hia) sz) [(fh, .inr (0, [.int f_isReached, .ref fa_least, .ref fa_greatest, f_sites, f_maybeNull, f_known, f_lanes, f_shortest, f_longest, f_leastAt, f_greatestAt])), (fa_least, .inl (cI, 6, .inl (u.1))), (fa_greatest, .inl (cI, 6, .inl (u.2)))]) (va_A (sw_X0_setOutcome cI cJ cZ fh f_isReached fa_least fa_greatest f_sites f_maybeNull f_known f_lanes f_shortest f_longest f_leastAt f_greatestAt fc_least fc_greatest xa loa hia) sz)) 0 0 (va_A (sw_X0_setOutcome cI cJ cZ fh f_isReached fa_least fa_greatest f_sites f_maybeNull f_known f_lanes f_shortest f_longest f_leastAt f_greatestAt fc_least fc_greatest xa loa hia) sz) := by
  refine Met.ofW (cc := cX0_setOutcome) (maxL := 6) (ret := none) (by decide) rfl ?_
  intro p e s m args below meth c s₁ B hml hv
  obtain ⟨rfl, hsz, hP, hK, hD0, hN⟩ := hv
  have hx := B.exec
  have hb := B.bytes
  have hr := B.returns
  have hts := atoms_spec (ws := v_X0_setOutcome) B.pre
  have hown : s.vm.findClass RX0 = some m.cls := findClass_of_methodNamed B.named
  have hlocks := B.notSynchronized
  subst hsz
  have hD := hD0.self (sz := s.heap.size)
  generalize hAe : va_A (sw_X0_setOutcome cI cJ cZ fh f_isReached fa_least fa_greatest f_sites f_maybeNull f_known f_lanes f_shortest f_longest f_leastAt f_greatestAt fc_least fc_greatest xa loa hia) s.heap.size = A at hD ⊢
  have hA : ∀ q : Nat, s.heap.size ≤ q → A q := fun q h => by rw [← hAe]; exact Or.inr h
  clear hAe hD0
  have hS : va_S A s.heap s.heap [] := va_S.rf
  replace hP : va_P (dC, dI) vwCl [(fh, .inr (0, [.int f_isReached, .ref fa_least, .ref fa_greatest, f_sites, f_maybeNull, f_known, f_lanes, f_shortest, f_longest, f_leastAt, f_greatestAt])), (fa_least, .inl (cI, 6, .inl fc_least)), (fa_greatest, .inl (cI, 6, .inl fc_greatest))] s.heap := hP
  replace hD : va_D A [(fh, .inr (0, [.int f_isReached, .ref fa_least, .ref fa_greatest, f_sites, f_maybeNull, f_known, f_lanes, f_shortest, f_longest, f_leastAt, f_greatestAt])), (fa_least, .inl (cI, 6, .inl fc_least)), (fa_greatest, .inl (cI, 6, .inl fc_greatest))] := hD
  have hl := lv_entry ([.ref fh, .int xa, .long loa, .long hia]) (n := 6) (Nat.le_of_ble_eq_true rfl)
  rw [lg_entry_eq]
  generalize (lg_sl ([.ref fh, .int xa, .long loa, .long hia]) ++ List.replicate (6 - (lg_sl ([.ref fh, .int xa, .long loa, .long hia])).length) Slot.unset).toArray = ls at hl ⊢
  replace hl : lv_has ls 6 [(0, .ref fh), (1, .int xa), (2, .long loa), (4, .long hia)] := hl
  have z_m2147483648 : (-2147483648 : Int32).toInt = -2147483648 := by decide
  have z_0 : (0 : Int32).toInt = 0 := by decide
  have z_1 : (1 : Int32).toInt = 1 := by decide
  have z_2147483647 : (2147483647 : Int32).toInt = 2147483647 := by decide
  have zl_m2147483648 : (-2147483648 : Int64).toInt = -2147483648 := by decide
  have zl_2147483647 : (2147483647 : Int64).toInt = 2147483647 := by decide
  refine lv_lload_n hx hb dX0_setOutcome_0 rfl (lv_at hl 2 rfl) ?_
  refine lv_ldc2 hx hb hown (hts (.constantLong RX0 81 (-2147483648)) (List.mem_of_getElem? (i := 1) rfl)) dX0_setOutcome_1 ?_
  refine W.lcmp hx hb dX0_setOutcome_4 ?_
  refine lv_if_lt (tgt := 17) hx hb dX0_setOutcome_5 (by decide) (fun c_1 => ?_) (fun c_1 => ?_)
  · -- yes
    have k_1 : loa.toInt < (-2147483648 : Int64).toInt := lc_lt c_1
    refine lv_aload_n hx hb dX0_setOutcome_17 rfl (lv_at hl 0 rfl) ?_
    refine lv_iload_n hx hb dX0_setOutcome_18 rfl (lv_at hl 1 rfl) ?_
    refine lv_ldc hx hb hown (hts (.constant RX0 85 (-2147483648)) (List.mem_of_getElem? (i := 2) rfl)) dX0_setOutcome_19 ?_
    refine lv_ldc hx hb hown (hts (.constant RX0 86 (2147483647)) (List.mem_of_getElem? (i := 3) rfl)) dX0_setOutcome_21 ?_
    have hPc := hP.sub (ws' := [(fh, .inr (0, [.int f_isReached, .ref fa_least, .ref fa_greatest, f_sites, f_maybeNull, f_known, f_lanes, f_shortest, f_longest, f_leastAt, f_greatestAt])), (fa_least, .inl (cI, 6, .inl fc_least)), (fa_greatest, .inl (cI, 6, .inl fc_greatest))]) [0, 1, 2] rfl
    have hDc := hD.sub (ws' := [(fh, .inr (0, [.int f_isReached, .ref fa_least, .ref fa_greatest, f_sites, f_maybeNull, f_known, f_lanes, f_shortest, f_longest, f_leastAt, f_greatestAt])), (fa_least, .inl (cI, 6, .inl fc_least)), (fa_greatest, .inl (cI, 6, .inl fc_greatest))]) [0, 1, 2] (by decide) rfl
    have hFc := va_free (wc := [(fh, .inr (0, [.int f_isReached, .ref fa_least, .ref fa_greatest, f_sites, f_maybeNull, f_known, f_lanes, f_shortest, f_longest, f_leastAt, f_greatestAt])), (fa_least, .inl (cI, 6, .inl fc_least)), (fa_greatest, .inl (cI, 6, .inl fc_greatest))]) hD hS hA [0, 1, 2] rfl
    refine va_callv (va_runV (As := [.int xa, .int (-2147483648), .int 2147483647]) (rest := []) ⟨hx, hb, hml, hown, hts⟩ (s_X0_setSpan l dC dI cI cJ cZ fh f_isReached fa_least fa_greatest f_sites f_maybeNull f_known f_lanes f_shortest f_longest f_leastAt f_greatestAt fc_least fc_greatest xa (-2147483648) 2147483647 s.heap.size q_f_isReached (by first | assumption | omega)) (cwV 3 hts h_X0_setOutcome_X0_setSpan_48 rfl rfl rfl (by decide +kernel) ⟨Nat.le_of_ble_eq_true rfl, Nat.le_of_ble_eq_true rfl⟩) ⟨cPre_blind, va_recv hK hPc (ci := 0) (q0 := 0) rfl rfl, cPre_of hK hN hPc hDc⟩ rfl rfl hl.1 rfl (lv_room (Nat.le_of_ble_eq_true rfl)) dX0_setOutcome_23 ⟨Nat.le_of_ble_eq_true rfl, Nat.le_of_ble_eq_true rfl⟩) hS (fun q _ h => hFc q h) hFc (fun u_2 t_2 H_2 locs_2 ht hvm hw_2 hB hz1 hk1 hS1 => ?_)
    obtain ⟨f_3, f_4⟩ := u_2
    obtain ⟨hP1, hK1, hD1⟩ := hB
    rw [ht] at hP1
    obtain ⟨hP2, hD2⟩ := va_join (wr := []) (w1 := [(fh, .inr (0, [.int f_isReached, .ref fa_least, .ref fa_greatest, f_sites, f_maybeNull, f_known, f_lanes, f_shortest, f_longest, f_leastAt, f_greatestAt])), (fa_least, .inl (cI, 6, .inl f_3)), (fa_greatest, .inl (cI, 6, .inl f_4))]) hP hD [0, 1, 2] [] rfl rfl (by decide) (by decide) hk1 hFc hP1 hD1
    clear hPc hDc hFc hP1 hD1 hK1 hk1 hz1 hvm ht
    replace hP : va_P (dC, dI) vwCl [(fh, .inr (0, [.int f_isReached, .ref fa_least, .ref fa_greatest, f_sites, f_maybeNull, f_known, f_lanes, f_shortest, f_longest, f_leastAt, f_greatestAt])), (fa_least, .inl (cI, 6, .inl f_3)), (fa_greatest, .inl (cI, 6, .inl f_4))] H_2 := hP2
    replace hD : va_D A [(fh, .inr (0, [.int f_isReached, .ref fa_least, .ref fa_greatest, f_sites, f_maybeNull, f_known, f_lanes, f_shortest, f_longest, f_leastAt, f_greatestAt])), (fa_least, .inl (cI, 6, .inl f_3)), (fa_greatest, .inl (cI, 6, .inl f_4))] := hD2
    replace hS := hS1
    clear hP2 hD2 hS1
    replace hw_2 : (upI fc_least (xa).toNatClampNeg (-2147483648 : Int32).toInt f_3) ∧ (upI fc_greatest (xa).toNatClampNeg (2147483647 : Int32).toInt f_4) := hw_2
    obtain ⟨x_2_0, x_2_1⟩ := hw_2
    refine lv_goto (tgt := 39) hx hb dX0_setOutcome_26 (by decide) ?_
    have hP9 := hP.sub (ws' := [(fh, .inr (0, [.int f_isReached, .ref fa_least, .ref fa_greatest, f_sites, f_maybeNull, f_known, f_lanes, f_shortest, f_longest, f_leastAt, f_greatestAt])), (fa_least, .inl (cI, 6, .inl f_3)), (fa_greatest, .inl (cI, 6, .inl f_4))]) [0, 1, 2] rfl
    have hD9 := hD.sub (ws' := [(fh, .inr (0, [.int f_isReached, .ref fa_least, .ref fa_greatest, f_sites, f_maybeNull, f_known, f_lanes, f_shortest, f_longest, f_leastAt, f_greatestAt])), (fa_least, .inl (cI, 6, .inl f_3)), (fa_greatest, .inl (cI, 6, .inl f_4))]) [0, 1, 2] (by decide) rfl
    exact W.vret hx hb hr (fun t ht hW => ⟨⟨(f_3, f_4), rfl, (show hia.toInt < loa.toInt ∨ (-2147483648 ≤ loa.toInt ∧ hia.toInt ≤ 2147483647 ∧ upI fc_least (xa).toNatClampNeg loa.toInt f_3 ∧ upI fc_greatest (xa).toNatClampNeg hia.toInt f_4) ∨ (upI fc_least (xa).toNatClampNeg (-2147483648) f_3 ∧ upI fc_greatest (xa).toNatClampNeg 2147483647 f_4) from (Or.inr (Or.inr ⟨fun j => by have b0 := x_2_0 j; omega, fun j => by have b0 := x_2_1 j; omega⟩))), by rw [ht]; exact hP9, va_K.moved hW.alike hK, hD9⟩, hS.F ht⟩) hS.2.2 dX0_setOutcome_39
  · -- no
    have k_1 : (-2147483648 : Int64).toInt ≤ loa.toInt := lc_nlt c_1
    refine lv_lload hx hb dX0_setOutcome_8 (lv_at hl 3 rfl) ?_
    refine lv_ldc2 hx hb hown (hts (.constantLong RX0 83 (2147483647)) (List.mem_of_getElem? (i := 8) rfl)) dX0_setOutcome_10 ?_
    refine W.lcmp hx hb dX0_setOutcome_13 ?_
    refine lv_if_le (tgt := 29) hx hb dX0_setOutcome_14 (by decide) (fun c_5 => ?_) (fun c_5 => ?_)
    · -- yes
      have k_5 : hia.toInt ≤ (2147483647 : Int64).toInt := lc_le c_5
      refine lv_aload_n hx hb dX0_setOutcome_29 rfl (lv_at hl 0 rfl) ?_
      refine lv_iload_n hx hb dX0_setOutcome_30 rfl (lv_at hl 1 rfl) ?_
      refine lv_lload_n hx hb dX0_setOutcome_31 rfl (lv_at hl 2 rfl) ?_
      refine lv_l2i (v := _) hx hb dX0_setOutcome_32 rfl ?_
      refine lv_topi (fun v_6 e_v_6 => ?_)
      refine lv_lload hx hb dX0_setOutcome_33 (lv_at hl 3 rfl) ?_
      refine lv_l2i (v := _) hx hb dX0_setOutcome_35 rfl ?_
      refine lv_topi (fun v_7 e_v_7 => ?_)
      have hPc := hP.sub (ws' := [(fh, .inr (0, [.int f_isReached, .ref fa_least, .ref fa_greatest, f_sites, f_maybeNull, f_known, f_lanes, f_shortest, f_longest, f_leastAt, f_greatestAt])), (fa_least, .inl (cI, 6, .inl fc_least)), (fa_greatest, .inl (cI, 6, .inl fc_greatest))]) [0, 1, 2] rfl
      have hDc := hD.sub (ws' := [(fh, .inr (0, [.int f_isReached, .ref fa_least, .ref fa_greatest, f_sites, f_maybeNull, f_known, f_lanes, f_shortest, f_longest, f_leastAt, f_greatestAt])), (fa_least, .inl (cI, 6, .inl fc_least)), (fa_greatest, .inl (cI, 6, .inl fc_greatest))]) [0, 1, 2] (by decide) rfl
      have hFc := va_free (wc := [(fh, .inr (0, [.int f_isReached, .ref fa_least, .ref fa_greatest, f_sites, f_maybeNull, f_known, f_lanes, f_shortest, f_longest, f_leastAt, f_greatestAt])), (fa_least, .inl (cI, 6, .inl fc_least)), (fa_greatest, .inl (cI, 6, .inl fc_greatest))]) hD hS hA [0, 1, 2] rfl
      refine va_callv (va_runV (As := [.int xa, .int v_6, .int v_7]) (rest := []) ⟨hx, hb, hml, hown, hts⟩ (s_X0_setSpan l dC dI cI cJ cZ fh f_isReached fa_least fa_greatest f_sites f_maybeNull f_known f_lanes f_shortest f_longest f_leastAt f_greatestAt fc_least fc_greatest xa v_6 v_7 s.heap.size q_f_isReached (by first | assumption | omega)) (cwV 3 hts h_X0_setOutcome_X0_setSpan_48 rfl rfl rfl (by decide +kernel) ⟨Nat.le_of_ble_eq_true rfl, Nat.le_of_ble_eq_true rfl⟩) ⟨cPre_blind, va_recv hK hPc (ci := 0) (q0 := 0) rfl rfl, cPre_of hK hN hPc hDc⟩ rfl rfl hl.1 rfl (lv_room (Nat.le_of_ble_eq_true rfl)) dX0_setOutcome_36 ⟨Nat.le_of_ble_eq_true rfl, Nat.le_of_ble_eq_true rfl⟩) hS (fun q _ h => hFc q h) hFc (fun u_8 t_8 H_8 locs_8 ht hvm hw_8 hB hz1 hk1 hS1 => ?_)
      obtain ⟨f_9, f_10⟩ := u_8
      obtain ⟨hP1, hK1, hD1⟩ := hB
      rw [ht] at hP1
      obtain ⟨hP2, hD2⟩ := va_join (wr := []) (w1 := [(fh, .inr (0, [.int f_isReached, .ref fa_least, .ref fa_greatest, f_sites, f_maybeNull, f_known, f_lanes, f_shortest, f_longest, f_leastAt, f_greatestAt])), (fa_least, .inl (cI, 6, .inl f_9)), (fa_greatest, .inl (cI, 6, .inl f_10))]) hP hD [0, 1, 2] [] rfl rfl (by decide) (by decide) hk1 hFc hP1 hD1
      clear hPc hDc hFc hP1 hD1 hK1 hk1 hz1 hvm ht
      replace hP : va_P (dC, dI) vwCl [(fh, .inr (0, [.int f_isReached, .ref fa_least, .ref fa_greatest, f_sites, f_maybeNull, f_known, f_lanes, f_shortest, f_longest, f_leastAt, f_greatestAt])), (fa_least, .inl (cI, 6, .inl f_9)), (fa_greatest, .inl (cI, 6, .inl f_10))] H_8 := hP2
      replace hD : va_D A [(fh, .inr (0, [.int f_isReached, .ref fa_least, .ref fa_greatest, f_sites, f_maybeNull, f_known, f_lanes, f_shortest, f_longest, f_leastAt, f_greatestAt])), (fa_least, .inl (cI, 6, .inl f_9)), (fa_greatest, .inl (cI, 6, .inl f_10))] := hD2
      replace hS := hS1
      clear hP2 hD2 hS1
      replace hw_8 : (upI fc_least (xa).toNatClampNeg v_6.toInt f_9) ∧ (upI fc_greatest (xa).toNatClampNeg v_7.toInt f_10) := hw_8
      obtain ⟨x_8_0, x_8_1⟩ := hw_8
      have hP9 := hP.sub (ws' := [(fh, .inr (0, [.int f_isReached, .ref fa_least, .ref fa_greatest, f_sites, f_maybeNull, f_known, f_lanes, f_shortest, f_longest, f_leastAt, f_greatestAt])), (fa_least, .inl (cI, 6, .inl f_9)), (fa_greatest, .inl (cI, 6, .inl f_10))]) [0, 1, 2] rfl
      have hD9 := hD.sub (ws' := [(fh, .inr (0, [.int f_isReached, .ref fa_least, .ref fa_greatest, f_sites, f_maybeNull, f_known, f_lanes, f_shortest, f_longest, f_leastAt, f_greatestAt])), (fa_least, .inl (cI, 6, .inl f_9)), (fa_greatest, .inl (cI, 6, .inl f_10))]) [0, 1, 2] (by decide) rfl
      exact W.vret hx hb hr (fun t ht hW => ⟨⟨(f_9, f_10), rfl, (show hia.toInt < loa.toInt ∨ (-2147483648 ≤ loa.toInt ∧ hia.toInt ≤ 2147483647 ∧ upI fc_least (xa).toNatClampNeg loa.toInt f_9 ∧ upI fc_greatest (xa).toNatClampNeg hia.toInt f_10) ∨ (upI fc_least (xa).toNatClampNeg (-2147483648) f_9 ∧ upI fc_greatest (xa).toNatClampNeg 2147483647 f_10) from (so_in (by omega) (by omega) e_v_6 e_v_7 x_8_0 x_8_1)), by rw [ht]; exact hP9, va_K.moved hW.alike hK, hD9⟩, hS.F ht⟩) hS.2.2 dX0_setOutcome_39
    · -- no
      have k_5 : (2147483647 : Int64).toInt < hia.toInt := lc_nle c_5
      refine lv_aload_n hx hb dX0_setOutcome_17 rfl (lv_at hl 0 rfl) ?_
      refine lv_iload_n hx hb dX0_setOutcome_18 rfl (lv_at hl 1 rfl) ?_
      refine lv_ldc hx hb hown (hts (.constant RX0 85 (-2147483648)) (List.mem_of_getElem? (i := 2) rfl)) dX0_setOutcome_19 ?_
      refine lv_ldc hx hb hown (hts (.constant RX0 86 (2147483647)) (List.mem_of_getElem? (i := 3) rfl)) dX0_setOutcome_21 ?_
      have hPc := hP.sub (ws' := [(fh, .inr (0, [.int f_isReached, .ref fa_least, .ref fa_greatest, f_sites, f_maybeNull, f_known, f_lanes, f_shortest, f_longest, f_leastAt, f_greatestAt])), (fa_least, .inl (cI, 6, .inl fc_least)), (fa_greatest, .inl (cI, 6, .inl fc_greatest))]) [0, 1, 2] rfl
      have hDc := hD.sub (ws' := [(fh, .inr (0, [.int f_isReached, .ref fa_least, .ref fa_greatest, f_sites, f_maybeNull, f_known, f_lanes, f_shortest, f_longest, f_leastAt, f_greatestAt])), (fa_least, .inl (cI, 6, .inl fc_least)), (fa_greatest, .inl (cI, 6, .inl fc_greatest))]) [0, 1, 2] (by decide) rfl
      have hFc := va_free (wc := [(fh, .inr (0, [.int f_isReached, .ref fa_least, .ref fa_greatest, f_sites, f_maybeNull, f_known, f_lanes, f_shortest, f_longest, f_leastAt, f_greatestAt])), (fa_least, .inl (cI, 6, .inl fc_least)), (fa_greatest, .inl (cI, 6, .inl fc_greatest))]) hD hS hA [0, 1, 2] rfl
      refine va_callv (va_runV (As := [.int xa, .int (-2147483648), .int 2147483647]) (rest := []) ⟨hx, hb, hml, hown, hts⟩ (s_X0_setSpan l dC dI cI cJ cZ fh f_isReached fa_least fa_greatest f_sites f_maybeNull f_known f_lanes f_shortest f_longest f_leastAt f_greatestAt fc_least fc_greatest xa (-2147483648) 2147483647 s.heap.size q_f_isReached (by first | assumption | omega)) (cwV 3 hts h_X0_setOutcome_X0_setSpan_48 rfl rfl rfl (by decide +kernel) ⟨Nat.le_of_ble_eq_true rfl, Nat.le_of_ble_eq_true rfl⟩) ⟨cPre_blind, va_recv hK hPc (ci := 0) (q0 := 0) rfl rfl, cPre_of hK hN hPc hDc⟩ rfl rfl hl.1 rfl (lv_room (Nat.le_of_ble_eq_true rfl)) dX0_setOutcome_23 ⟨Nat.le_of_ble_eq_true rfl, Nat.le_of_ble_eq_true rfl⟩) hS (fun q _ h => hFc q h) hFc (fun u_11 t_11 H_11 locs_11 ht hvm hw_11 hB hz1 hk1 hS1 => ?_)
      obtain ⟨f_12, f_13⟩ := u_11
      obtain ⟨hP1, hK1, hD1⟩ := hB
      rw [ht] at hP1
      obtain ⟨hP2, hD2⟩ := va_join (wr := []) (w1 := [(fh, .inr (0, [.int f_isReached, .ref fa_least, .ref fa_greatest, f_sites, f_maybeNull, f_known, f_lanes, f_shortest, f_longest, f_leastAt, f_greatestAt])), (fa_least, .inl (cI, 6, .inl f_12)), (fa_greatest, .inl (cI, 6, .inl f_13))]) hP hD [0, 1, 2] [] rfl rfl (by decide) (by decide) hk1 hFc hP1 hD1
      clear hPc hDc hFc hP1 hD1 hK1 hk1 hz1 hvm ht
      replace hP : va_P (dC, dI) vwCl [(fh, .inr (0, [.int f_isReached, .ref fa_least, .ref fa_greatest, f_sites, f_maybeNull, f_known, f_lanes, f_shortest, f_longest, f_leastAt, f_greatestAt])), (fa_least, .inl (cI, 6, .inl f_12)), (fa_greatest, .inl (cI, 6, .inl f_13))] H_11 := hP2
      replace hD : va_D A [(fh, .inr (0, [.int f_isReached, .ref fa_least, .ref fa_greatest, f_sites, f_maybeNull, f_known, f_lanes, f_shortest, f_longest, f_leastAt, f_greatestAt])), (fa_least, .inl (cI, 6, .inl f_12)), (fa_greatest, .inl (cI, 6, .inl f_13))] := hD2
      replace hS := hS1
      clear hP2 hD2 hS1
      replace hw_11 : (upI fc_least (xa).toNatClampNeg (-2147483648 : Int32).toInt f_12) ∧ (upI fc_greatest (xa).toNatClampNeg (2147483647 : Int32).toInt f_13) := hw_11
      obtain ⟨x_11_0, x_11_1⟩ := hw_11
      refine lv_goto (tgt := 39) hx hb dX0_setOutcome_26 (by decide) ?_
      have hP9 := hP.sub (ws' := [(fh, .inr (0, [.int f_isReached, .ref fa_least, .ref fa_greatest, f_sites, f_maybeNull, f_known, f_lanes, f_shortest, f_longest, f_leastAt, f_greatestAt])), (fa_least, .inl (cI, 6, .inl f_12)), (fa_greatest, .inl (cI, 6, .inl f_13))]) [0, 1, 2] rfl
      have hD9 := hD.sub (ws' := [(fh, .inr (0, [.int f_isReached, .ref fa_least, .ref fa_greatest, f_sites, f_maybeNull, f_known, f_lanes, f_shortest, f_longest, f_leastAt, f_greatestAt])), (fa_least, .inl (cI, 6, .inl f_12)), (fa_greatest, .inl (cI, 6, .inl f_13))]) [0, 1, 2] (by decide) rfl
      exact W.vret hx hb hr (fun t ht hW => ⟨⟨(f_12, f_13), rfl, (show hia.toInt < loa.toInt ∨ (-2147483648 ≤ loa.toInt ∧ hia.toInt ≤ 2147483647 ∧ upI fc_least (xa).toNatClampNeg loa.toInt f_12 ∧ upI fc_greatest (xa).toNatClampNeg hia.toInt f_13) ∨ (upI fc_least (xa).toNatClampNeg (-2147483648) f_12 ∧ upI fc_greatest (xa).toNatClampNeg 2147483647 f_13) from (Or.inr (Or.inr ⟨fun j => by have b0 := x_11_0 j; omega, fun j => by have b0 := x_11_1 j; omega⟩))), by rw [ht]; exact hP9, va_K.moved hW.alike hK, hD9⟩, hS.F ht⟩) hS.2.2 dX0_setOutcome_39

def v_X0_isOneNumber : List Cond := .code yX0_isOneNumber cX0_isOneNumber 2 (some .boolean) :: ([.fieldLink RX0 15 "ArraySegments$Facts" "least" "[I", .fieldLink RX0 19 "ArraySegments$Facts" "greatest" "[I"] ++ (wsX00))
theorem inv_X0_isOneNumber_X0 : ∀ w ∈ wsX00, w ∈ v_X0_isOneNumber := fun _ h => List.mem_cons_of_mem _ (List.mem_append_right _ (h))
set_option maxRecDepth 20000 in
theorem gd_X0_isOneNumber : gdL v_X0_isOneNumber := gdC (gdW (by decide +kernel)) (gdA (gdW (by decide +kernel)) gd_wsX00)
abbrev sw_X0_isOneNumber (cI cJ cZ : ClassId) (fh : Nat) (f_isReached : Int32) (fa_least : Nat) (fa_greatest : Nat) (f_sites : Value) (f_maybeNull : Value) (f_known : Value) (f_lanes : Value) (f_shortest : Value) (f_longest : Value) (f_leastAt : Value) (f_greatestAt : Value) (fc_least : Nat → Int32) (fc_greatest : Nat → Int32) (xa : Int32) : va_W := [(fh, .inr (0, [.int f_isReached, .ref fa_least, .ref fa_greatest, f_sites, f_maybeNull, f_known, f_lanes, f_shortest, f_longest, f_leastAt, f_greatestAt])), (fa_least, .inl (cI, 6, .inl fc_least)), (fa_greatest, .inl (cI, 6, .inl fc_greatest))]
set_option maxHeartbeats 8000000 in
set_option maxRecDepth 100000 in
theorem s_X0_isOneNumber (l : Launch) (dC : Nat → ClassId) (dI : Nat → Nat → Nat) (cI cJ cZ : ClassId) (fh : Nat) (f_isReached : Int32) (fa_least : Nat) (fa_greatest : Nat) (f_sites : Value) (f_maybeNull : Value) (f_known : Value) (f_lanes : Value) (f_shortest : Value) (f_longest : Value) (f_leastAt : Value) (f_greatestAt : Value) (fc_least : Nat → Int32) (fc_greatest : Nat → Int32) (xa : Int32) (sz : Nat) (q_f_isReached : kZ f_isReached) (hy_xa : V6 xa) : Met l yX0_isOneNumber v_X0_isOneNumber ({ frames := 0, cells := 0, slots := 0, locals := 0 }) (va_Pc [.ref fh, .int xa] (cPre dC dI cI cJ cZ sz (sw_X0_isOneNumber cI cJ cZ fh f_isReached fa_least fa_greatest f_sites f_maybeNull f_known f_lanes f_shortest f_longest f_leastAt f_greatestAt fc_least fc_greatest xa))) (va_Qi (fun (r : Int32) (u : Unit) => (two r ((fc_least (xa).toNatClampNeg).toInt = (fc_greatest (xa).toNatClampNeg).toInt) 1 0)) (fun (u : Unit) => cPost dC dI cI cJ cZ (va_A (sw_X0_isOneNumber cI cJ cZ fh f_isReached fa_least fa_greatest f_sites f_maybeNull f_known f_lanes f_shortest f_longest f_leastAt f_greatestAt fc_least fc_greatest xa) sz) [(fh, .inr (0, [.int f_isReached, .ref fa_least, .ref fa_greatest, f_sites, f_maybeNull, f_known, f_lanes, f_shortest, f_longest, f_leastAt, f_greatestAt])), (fa_least, .inl (cI, 6, .inl fc_least)), (fa_greatest, .inl (cI, 6, .inl fc_greatest))]) (va_A (sw_X0_isOneNumber cI cJ cZ fh f_isReached fa_least fa_greatest f_sites f_maybeNull f_known f_lanes f_shortest f_longest f_leastAt f_greatestAt fc_least fc_greatest xa) sz)) 0 0 (va_A (sw_X0_isOneNumber cI cJ cZ fh f_isReached fa_least fa_greatest f_sites f_maybeNull f_known f_lanes f_shortest f_longest f_leastAt f_greatestAt fc_least fc_greatest xa) sz) := by
  refine Met.ofW (cc := cX0_isOneNumber) (maxL := 2) (ret := (some .boolean)) (by decide) rfl ?_
  intro p e s m args below meth c s₁ B hml hv
  obtain ⟨rfl, hsz, hP, hK, hD0, hN⟩ := hv
  have hx := B.exec
  have hb := B.bytes
  have hr := B.returns
  have hts := atoms_spec (ws := v_X0_isOneNumber) B.pre
  have hown : s.vm.findClass RX0 = some m.cls := findClass_of_methodNamed B.named
  have hlocks := B.notSynchronized
  subst hsz
  have hD := hD0.self (sz := s.heap.size)
  generalize hAe : va_A (sw_X0_isOneNumber cI cJ cZ fh f_isReached fa_least fa_greatest f_sites f_maybeNull f_known f_lanes f_shortest f_longest f_leastAt f_greatestAt fc_least fc_greatest xa) s.heap.size = A at hD ⊢
  have hA : ∀ q : Nat, s.heap.size ≤ q → A q := fun q h => by rw [← hAe]; exact Or.inr h
  clear hAe hD0
  have hS : va_S A s.heap s.heap [] := va_S.rf
  replace hP : va_P (dC, dI) vwCl [(fh, .inr (0, [.int f_isReached, .ref fa_least, .ref fa_greatest, f_sites, f_maybeNull, f_known, f_lanes, f_shortest, f_longest, f_leastAt, f_greatestAt])), (fa_least, .inl (cI, 6, .inl fc_least)), (fa_greatest, .inl (cI, 6, .inl fc_greatest))] s.heap := hP
  replace hD : va_D A [(fh, .inr (0, [.int f_isReached, .ref fa_least, .ref fa_greatest, f_sites, f_maybeNull, f_known, f_lanes, f_shortest, f_longest, f_leastAt, f_greatestAt])), (fa_least, .inl (cI, 6, .inl fc_least)), (fa_greatest, .inl (cI, 6, .inl fc_greatest))] := hD
  have hl := lv_entry ([.ref fh, .int xa]) (n := 2) (Nat.le_of_ble_eq_true rfl)
  rw [lg_entry_eq]
  generalize (lg_sl ([.ref fh, .int xa]) ++ List.replicate (2 - (lg_sl ([.ref fh, .int xa])).length) Slot.unset).toArray = ls at hl ⊢
  replace hl : lv_has ls 2 [(0, .ref fh), (1, .int xa)] := hl
  have z_0 : (0 : Int32).toInt = 0 := by decide
  have z_1 : (1 : Int32).toInt = 1 := by decide
  refine lv_aload_n hx hb dX0_isOneNumber_0 rfl (lv_at hl 0 rfl) ?_
  refine va_get (D := (dC, dI)) (ci := 0) (v := .ref fa_least) (C := RX0) (T := TX0) (N := 11) hx hb hts inv_X0_isOneNumber_X0 hown hK hP 0 rfl rfl 1 (by decide) (hts (.fieldLink RX0 15 "ArraySegments$Facts" "least" "[I") (List.mem_of_getElem? (i := 1) rfl)) (fun _ h9 => h9) rfl dX0_isOneNumber_1 ?_
  refine lv_iload_n hx hb dX0_isOneNumber_4 rfl (lv_at hl 1 rfl) ?_
  refine sf_iald kT hx hb hK hP 1 0 rfl rfl (fun _ => trivial) (vp_in_iff.mpr ⟨by omega, by omega⟩) dX0_isOneNumber_5 (fun v_1 q_v_1 e_v_1 => ?_)
  have et_v_1 : v_1.toInt = (fc_least (xa).toNatClampNeg).toInt := by rw [e_v_1]
  have ni_2 := nn_cl (z := xa) (by omega)
  have ir_v_1 := i32r v_1
  refine lv_aload_n hx hb dX0_isOneNumber_6 rfl (lv_at hl 0 rfl) ?_
  refine va_get (D := (dC, dI)) (ci := 0) (v := .ref fa_greatest) (C := RX0) (T := TX0) (N := 11) hx hb hts inv_X0_isOneNumber_X0 hown hK hP 0 rfl rfl 2 (by decide) (hts (.fieldLink RX0 19 "ArraySegments$Facts" "greatest" "[I") (List.mem_of_getElem? (i := 2) rfl)) (fun _ h9 => h9) rfl dX0_isOneNumber_7 ?_
  refine lv_iload_n hx hb dX0_isOneNumber_10 rfl (lv_at hl 1 rfl) ?_
  refine sf_iald kT hx hb hK hP 2 0 rfl rfl (fun _ => trivial) (vp_in_iff.mpr ⟨by omega, by omega⟩) dX0_isOneNumber_11 (fun v_3 q_v_3 e_v_3 => ?_)
  have et_v_3 : v_3.toInt = (fc_greatest (xa).toNatClampNeg).toInt := by rw [e_v_3]
  have ni_4 := nn_cl (z := xa) (by omega)
  have ir_v_3 := i32r v_3
  refine lv_icmp_ne (tgt := 19) hx hb dX0_isOneNumber_12 (by decide) (fun c_5 => ?_) (fun c_5 => ?_)
  · -- yes
    have k_5 : ¬ v_1.toInt = v_3.toInt := ci_ne c_5
    refine lv_iconst (v := 0) hx hb dX0_isOneNumber_19 (by decide) ?_
    have hP9 := hP.sub (ws' := [(fh, .inr (0, [.int f_isReached, .ref fa_least, .ref fa_greatest, f_sites, f_maybeNull, f_known, f_lanes, f_shortest, f_longest, f_leastAt, f_greatestAt])), (fa_least, .inl (cI, 6, .inl fc_least)), (fa_greatest, .inl (cI, 6, .inl fc_greatest))]) [0, 1, 2] rfl
    have hD9 := hD.sub (ws' := [(fh, .inr (0, [.int f_isReached, .ref fa_least, .ref fa_greatest, f_sites, f_maybeNull, f_known, f_lanes, f_shortest, f_longest, f_leastAt, f_greatestAt])), (fa_least, .inl (cI, 6, .inl fc_least)), (fa_greatest, .inl (cI, 6, .inl fc_greatest))]) [0, 1, 2] (by decide) rfl
    exact W.zret (v := 0) (ty := .boolean) hx hb hr rfl (fun t ht hW => ⟨⟨0, (), rfl, (show two (0 : Int32) ((fc_least (xa).toNatClampNeg).toInt = (fc_greatest (xa).toNatClampNeg).toInt) 1 0 from (by first | (refine Or.inl ⟨rfl, ?_⟩; omega) | (refine Or.inr ⟨rfl, ?_⟩; omega))), by rw [ht]; exact hP9, va_K.moved hW.alike hK, hD9⟩, hS.F ht⟩) hS.2.2 dX0_isOneNumber_20
  · -- no
    have k_5 : v_1.toInt = v_3.toInt := ci_eq c_5
    refine lv_iconst (v := 1) hx hb dX0_isOneNumber_15 (by decide) ?_
    refine lv_goto (tgt := 20) hx hb dX0_isOneNumber_16 (by decide) ?_
    have hP9 := hP.sub (ws' := [(fh, .inr (0, [.int f_isReached, .ref fa_least, .ref fa_greatest, f_sites, f_maybeNull, f_known, f_lanes, f_shortest, f_longest, f_leastAt, f_greatestAt])), (fa_least, .inl (cI, 6, .inl fc_least)), (fa_greatest, .inl (cI, 6, .inl fc_greatest))]) [0, 1, 2] rfl
    have hD9 := hD.sub (ws' := [(fh, .inr (0, [.int f_isReached, .ref fa_least, .ref fa_greatest, f_sites, f_maybeNull, f_known, f_lanes, f_shortest, f_longest, f_leastAt, f_greatestAt])), (fa_least, .inl (cI, 6, .inl fc_least)), (fa_greatest, .inl (cI, 6, .inl fc_greatest))]) [0, 1, 2] (by decide) rfl
    exact W.zret (v := 1) (ty := .boolean) hx hb hr rfl (fun t ht hW => ⟨⟨1, (), rfl, (show two (1 : Int32) ((fc_least (xa).toNatClampNeg).toInt = (fc_greatest (xa).toNatClampNeg).toInt) 1 0 from (by first | (refine Or.inl ⟨rfl, ?_⟩; omega) | (refine Or.inr ⟨rfl, ?_⟩; omega))), by rw [ht]; exact hP9, va_K.moved hW.alike hK, hD9⟩, hS.F ht⟩) hS.2.2 dX0_isOneNumber_20

def v_X0_narrow : List Cond := .code yX0_narrow cX0_narrow 4 none :: ([.fieldLink RX0 15 "ArraySegments$Facts" "least" "[I", .methodLink RX0 68 Lib.Math.max.name, .static Lib.Math.max.name, .initialized "java/lang/Math", .code Lib.Math.max.name Lib.Math.max.code 2 (some .int), .fieldLink RX0 19 "ArraySegments$Facts" "greatest" "[I", .methodLink RX0 62 Lib.Math.min.name, .static Lib.Math.min.name, .code Lib.Math.min.name Lib.Math.min.code 2 (some .int), .methodLink RX0 48 yX0_setSpan, .instanceMethod yX0_setSpan, .selects RX0 yX0_setSpan yX0_setSpan, .initialized RX0, .fieldLink RX0 9 "ArraySegments$Facts" "isReached" "Z"] ++ (wsX00 ++ (v_X0_setSpan)))
theorem inv_X0_narrow_X0 : ∀ w ∈ wsX00, w ∈ v_X0_narrow := fun _ h => List.mem_cons_of_mem _ (List.mem_append_right _ (List.mem_append_left _ h))
theorem im_X0_narrow_X0_setSpan : ∀ w ∈ v_X0_setSpan, w ∈ v_X0_narrow := fun _ h => List.mem_cons_of_mem _ (List.mem_append_right _ (List.mem_append_right _ (h)))
set_option maxRecDepth 20000 in
theorem gd_X0_narrow : gdL v_X0_narrow := gdC (gdW (by decide +kernel)) (gdA (gdW (by decide +kernel)) (gdA gd_wsX00 gd_X0_setSpan))
set_option maxRecDepth 20000 in
theorem h_X0_narrow_X0_setSpan_48 : GoodIn v_X0_narrow (wsV RX0 48 RX0 yX0_setSpan v_X0_setSpan) := gdI [10, 11, 12, 13] rfl (by decide +kernel) (im_X0_narrow_X0_setSpan) gd_X0_setSpan
abbrev sw_X0_narrow (cI cJ cZ : ClassId) (fh : Nat) (f_isReached : Int32) (fa_least : Nat) (fa_greatest : Nat) (f_sites : Value) (f_maybeNull : Value) (f_known : Value) (f_lanes : Value) (f_shortest : Value) (f_longest : Value) (f_leastAt : Value) (f_greatestAt : Value) (fc_least : Nat → Int32) (fc_greatest : Nat → Int32) (xa : Int32) (loa : Int32) (hia : Int32) : va_W := [(fh, .inr (0, [.int f_isReached, .ref fa_least, .ref fa_greatest, f_sites, f_maybeNull, f_known, f_lanes, f_shortest, f_longest, f_leastAt, f_greatestAt])), (fa_least, .inl (cI, 6, .inl fc_least)), (fa_greatest, .inl (cI, 6, .inl fc_greatest))]
set_option maxHeartbeats 8000000 in
set_option maxRecDepth 100000 in
theorem s_X0_narrow (l : Launch) (dC : Nat → ClassId) (dI : Nat → Nat → Nat) (cI cJ cZ : ClassId) (fh : Nat) (f_isReached : Int32) (fa_least : Nat) (fa_greatest : Nat) (f_sites : Value) (f_maybeNull : Value) (f_known : Value) (f_lanes : Value) (f_shortest : Value) (f_longest : Value) (f_leastAt : Value) (f_greatestAt : Value) (fc_least : Nat → Int32) (fc_greatest : Nat → Int32) (xa : Int32) (loa : Int32) (hia : Int32) (sz : Nat) (q_f_isReached : kZ f_isReached) (hy_xa : V6 xa) : Met l yX0_narrow v_X0_narrow ({ frames := 1, cells := 0, slots := 0, locals := 23 }) (va_Pc [.ref fh, .int xa, .int loa, .int hia] (cPre dC dI cI cJ cZ sz (sw_X0_narrow cI cJ cZ fh f_isReached fa_least fa_greatest f_sites f_maybeNull f_known f_lanes f_shortest f_longest f_leastAt f_greatestAt fc_least fc_greatest xa loa hia))) (va_Qv (fun (u : Int32 × (Nat → Int32) × (Nat → Int32)) => (kZ (u.1)) ∧ (((u.2.2) (xa).toNatClampNeg).toInt ≤ hia.toInt) ∧ (loa.toInt ≤ ((u.2.1) (xa).toNatClampNeg).toInt) ∧ (∀ j : Nat, (j = (xa).toNatClampNeg → (fc_least j).toInt ≤ ((u.2.1) j).toInt ∧ loa.toInt ≤ ((u.2.1) j).toInt ∧ (((u.2.1) j).toInt = (fc_least j).toInt ∨ ((u.2.1) j).toInt = loa.toInt)) ∧ (¬ j = (xa).toNatClampNeg → ((u.2.1) j).toInt = (fc_least j).toInt)) ∧ (∀ j : Nat, (j = (xa).toNatClampNeg → ((u.2.2) j).toInt ≤ (fc_greatest j).toInt ∧ ((u.2.2) j).toInt ≤ hia.toInt ∧ (((u.2.2) j).toInt = (fc_greatest j).toInt ∨ ((u.2.2) j).toInt = hia.toInt)) ∧ (¬ j = (xa).toNatClampNeg → ((u.2.2) j).toInt = (fc_greatest j).toInt)) ∧ (¬ f_isReached.toInt = 0 ∧ ((u.2.1) (xa).toNatClampNeg).toInt ≤ ((u.2.2) (xa).toNatClampNeg).toInt → ¬ (u.1).toInt = 0)) (fun (u : Int32 × (Nat → Int32) × (Nat → Int32)) => cPost dC dI cI cJ cZ (va_A (sw_X0_narrow cI cJ cZ fh f_isReached fa_least fa_greatest f_sites f_maybeNull f_known f_lanes f_shortest f_longest f_leastAt f_greatestAt fc_least fc_greatest xa loa hia) sz) [(fh, .inr (0, [.int (u.1), .ref fa_least, .ref fa_greatest, f_sites, f_maybeNull, f_known, f_lanes, f_shortest, f_longest, f_leastAt, f_greatestAt])), (fa_least, .inl (cI, 6, .inl (u.2.1))), (fa_greatest, .inl (cI, 6, .inl (u.2.2)))]) (va_A (sw_X0_narrow cI cJ cZ fh f_isReached fa_least fa_greatest f_sites f_maybeNull f_known f_lanes f_shortest f_longest f_leastAt f_greatestAt fc_least fc_greatest xa loa hia) sz)) 0 0 (va_A (sw_X0_narrow cI cJ cZ fh f_isReached fa_least fa_greatest f_sites f_maybeNull f_known f_lanes f_shortest f_longest f_leastAt f_greatestAt fc_least fc_greatest xa loa hia) sz) := by
  refine Met.ofW (cc := cX0_narrow) (maxL := 4) (ret := none) (by decide) rfl ?_
  intro p e s m args below meth c s₁ B hml hv
  obtain ⟨rfl, hsz, hP, hK, hD0, hN⟩ := hv
  have hx := B.exec
  have hb := B.bytes
  have hr := B.returns
  have hts := atoms_spec (ws := v_X0_narrow) B.pre
  have hown : s.vm.findClass RX0 = some m.cls := findClass_of_methodNamed B.named
  have hlocks := B.notSynchronized
  subst hsz
  have hD := hD0.self (sz := s.heap.size)
  generalize hAe : va_A (sw_X0_narrow cI cJ cZ fh f_isReached fa_least fa_greatest f_sites f_maybeNull f_known f_lanes f_shortest f_longest f_leastAt f_greatestAt fc_least fc_greatest xa loa hia) s.heap.size = A at hD ⊢
  have hA : ∀ q : Nat, s.heap.size ≤ q → A q := fun q h => by rw [← hAe]; exact Or.inr h
  clear hAe hD0
  have hS : va_S A s.heap s.heap [] := va_S.rf
  replace hP : va_P (dC, dI) vwCl [(fh, .inr (0, [.int f_isReached, .ref fa_least, .ref fa_greatest, f_sites, f_maybeNull, f_known, f_lanes, f_shortest, f_longest, f_leastAt, f_greatestAt])), (fa_least, .inl (cI, 6, .inl fc_least)), (fa_greatest, .inl (cI, 6, .inl fc_greatest))] s.heap := hP
  replace hD : va_D A [(fh, .inr (0, [.int f_isReached, .ref fa_least, .ref fa_greatest, f_sites, f_maybeNull, f_known, f_lanes, f_shortest, f_longest, f_leastAt, f_greatestAt])), (fa_least, .inl (cI, 6, .inl fc_least)), (fa_greatest, .inl (cI, 6, .inl fc_greatest))] := hD
  have hl := lv_entry ([.ref fh, .int xa, .int loa, .int hia]) (n := 4) (Nat.le_of_ble_eq_true rfl)
  rw [lg_entry_eq]
  generalize (lg_sl ([.ref fh, .int xa, .int loa, .int hia]) ++ List.replicate (4 - (lg_sl ([.ref fh, .int xa, .int loa, .int hia])).length) Slot.unset).toArray = ls at hl ⊢
  replace hl : lv_has ls 4 [(0, .ref fh), (1, .int xa), (2, .int loa), (3, .int hia)] := hl
  have z_0 : (0 : Int32).toInt = 0 := by decide
  have z_1 : (1 : Int32).toInt = 1 := by decide
  refine lv_aload_n hx hb dX0_narrow_0 rfl (lv_at hl 0 rfl) ?_
  refine lv_iload_n hx hb dX0_narrow_1 rfl (lv_at hl 1 rfl) ?_
  refine lv_aload_n hx hb dX0_narrow_2 rfl (lv_at hl 0 rfl) ?_
  refine va_get (D := (dC, dI)) (ci := 0) (v := .ref fa_least) (C := RX0) (T := TX0) (N := 11) hx hb hts inv_X0_narrow_X0 hown hK hP 0 rfl rfl 1 (by decide) (hts (.fieldLink RX0 15 "ArraySegments$Facts" "least" "[I") (List.mem_of_getElem? (i := 1) rfl)) (fun _ h9 => h9) rfl dX0_narrow_3 ?_
  refine lv_iload_n hx hb dX0_narrow_6 rfl (lv_at hl 1 rfl) ?_
  refine sf_iald kT hx hb hK hP 1 0 rfl rfl (fun _ => trivial) (vp_in_iff.mpr ⟨by omega, by omega⟩) dX0_narrow_7 (fun v_1 q_v_1 e_v_1 => ?_)
  have et_v_1 : v_1.toInt = (fc_least (xa).toNatClampNeg).toInt := by rw [e_v_1]
  have ni_2 := nn_cl (z := xa) (by omega)
  have ir_v_1 := i32r v_1
  refine lv_iload_n hx hb dX0_narrow_8 rfl (lv_at hl 2 rfl) ?_
  have ir_4 := i32r v_1
  have ir_5 := i32r loa
  refine sf_mmax hx hb (by rw [hml]; exact hl.1.symm) hown (hts (.methodLink RX0 68 Lib.Math.max.name) (List.mem_of_getElem? (i := 2) rfl)) (hts (.static Lib.Math.max.name) (List.mem_of_getElem? (i := 3) rfl)) (hts (.initialized "java/lang/Math") (List.mem_of_getElem? (i := 4) rfl)) (hts (.code Lib.Math.max.name Lib.Math.max.code 2 (some .int)) (List.mem_of_getElem? (i := 5) rfl)) (Nat.le_of_ble_eq_true rfl) (Nat.le_of_ble_eq_true rfl) (Nat.le_of_ble_eq_true rfl) (Nat.le_of_ble_eq_true rfl) dX0_narrow_9 (fun v_3 q_v_3 => ?_)
  refine lv_aload_n hx hb dX0_narrow_12 rfl (lv_at hl 0 rfl) ?_
  refine va_get (D := (dC, dI)) (ci := 0) (v := .ref fa_greatest) (C := RX0) (T := TX0) (N := 11) hx hb hts inv_X0_narrow_X0 hown hK hP 0 rfl rfl 2 (by decide) (hts (.fieldLink RX0 19 "ArraySegments$Facts" "greatest" "[I") (List.mem_of_getElem? (i := 6) rfl)) (fun _ h9 => h9) rfl dX0_narrow_13 ?_
  refine lv_iload_n hx hb dX0_narrow_16 rfl (lv_at hl 1 rfl) ?_
  refine sf_iald kT hx hb hK hP 2 0 rfl rfl (fun _ => trivial) (vp_in_iff.mpr ⟨by omega, by omega⟩) dX0_narrow_17 (fun v_6 q_v_6 e_v_6 => ?_)
  have et_v_6 : v_6.toInt = (fc_greatest (xa).toNatClampNeg).toInt := by rw [e_v_6]
  have ni_7 := nn_cl (z := xa) (by omega)
  have ir_v_6 := i32r v_6
  refine lv_iload_n hx hb dX0_narrow_18 rfl (lv_at hl 3 rfl) ?_
  have ir_9 := i32r v_6
  have ir_10 := i32r hia
  refine sf_mmin hx hb (by rw [hml]; exact hl.1.symm) hown (hts (.methodLink RX0 62 Lib.Math.min.name) (List.mem_of_getElem? (i := 7) rfl)) (hts (.static Lib.Math.min.name) (List.mem_of_getElem? (i := 8) rfl)) (hts (.initialized "java/lang/Math") (List.mem_of_getElem? (i := 4) rfl)) (hts (.code Lib.Math.min.name Lib.Math.min.code 2 (some .int)) (List.mem_of_getElem? (i := 9) rfl)) (Nat.le_of_ble_eq_true rfl) (Nat.le_of_ble_eq_true rfl) (Nat.le_of_ble_eq_true rfl) (Nat.le_of_ble_eq_true rfl) dX0_narrow_19 (fun v_8 q_v_8 => ?_)
  have hPc := hP.sub (ws' := [(fh, .inr (0, [.int f_isReached, .ref fa_least, .ref fa_greatest, f_sites, f_maybeNull, f_known, f_lanes, f_shortest, f_longest, f_leastAt, f_greatestAt])), (fa_least, .inl (cI, 6, .inl fc_least)), (fa_greatest, .inl (cI, 6, .inl fc_greatest))]) [0, 1, 2] rfl
  have hDc := hD.sub (ws' := [(fh, .inr (0, [.int f_isReached, .ref fa_least, .ref fa_greatest, f_sites, f_maybeNull, f_known, f_lanes, f_shortest, f_longest, f_leastAt, f_greatestAt])), (fa_least, .inl (cI, 6, .inl fc_least)), (fa_greatest, .inl (cI, 6, .inl fc_greatest))]) [0, 1, 2] (by decide) rfl
  have hFc := va_free (wc := [(fh, .inr (0, [.int f_isReached, .ref fa_least, .ref fa_greatest, f_sites, f_maybeNull, f_known, f_lanes, f_shortest, f_longest, f_leastAt, f_greatestAt])), (fa_least, .inl (cI, 6, .inl fc_least)), (fa_greatest, .inl (cI, 6, .inl fc_greatest))]) hD hS hA [0, 1, 2] rfl
  refine va_callv (va_runV (As := [.int xa, .int v_3, .int v_8]) (rest := []) ⟨hx, hb, hml, hown, hts⟩ (s_X0_setSpan l dC dI cI cJ cZ fh f_isReached fa_least fa_greatest f_sites f_maybeNull f_known f_lanes f_shortest f_longest f_leastAt f_greatestAt fc_least fc_greatest xa v_3 v_8 s.heap.size q_f_isReached (by first | assumption | omega)) (cwV 3 hts h_X0_narrow_X0_setSpan_48 rfl rfl rfl (by decide +kernel) ⟨Nat.le_of_ble_eq_true rfl, Nat.le_of_ble_eq_true rfl⟩) ⟨cPre_blind, va_recv hK hPc (ci := 0) (q0 := 0) rfl rfl, cPre_of hK hN hPc hDc⟩ rfl rfl hl.1 rfl (lv_room (Nat.le_of_ble_eq_true rfl)) dX0_narrow_22 ⟨Nat.le_of_ble_eq_true rfl, Nat.le_of_ble_eq_true rfl⟩) hS (fun q _ h => hFc q h) hFc (fun u_11 t_11 H_11 locs_11 ht hvm hw_11 hB hz1 hk1 hS1 => ?_)
  obtain ⟨f_12, f_13⟩ := u_11
  obtain ⟨hP1, hK1, hD1⟩ := hB
  rw [ht] at hP1
  obtain ⟨hP2, hD2⟩ := va_join (wr := []) (w1 := [(fh, .inr (0, [.int f_isReached, .ref fa_least, .ref fa_greatest, f_sites, f_maybeNull, f_known, f_lanes, f_shortest, f_longest, f_leastAt, f_greatestAt])), (fa_least, .inl (cI, 6, .inl f_12)), (fa_greatest, .inl (cI, 6, .inl f_13))]) hP hD [0, 1, 2] [] rfl rfl (by decide) (by decide) hk1 hFc hP1 hD1
  clear hPc hDc hFc hP1 hD1 hK1 hk1 hz1 hvm ht
  replace hP : va_P (dC, dI) vwCl [(fh, .inr (0, [.int f_isReached, .ref fa_least, .ref fa_greatest, f_sites, f_maybeNull, f_known, f_lanes, f_shortest, f_longest, f_leastAt, f_greatestAt])), (fa_least, .inl (cI, 6, .inl f_12)), (fa_greatest, .inl (cI, 6, .inl f_13))] H_11 := hP2
  replace hD : va_D A [(fh, .inr (0, [.int f_isReached, .ref fa_least, .ref fa_greatest, f_sites, f_maybeNull, f_known, f_lanes, f_shortest, f_longest, f_leastAt, f_greatestAt])), (fa_least, .inl (cI, 6, .inl f_12)), (fa_greatest, .inl (cI, 6, .inl f_13))] := hD2
  replace hS := hS1
  clear hP2 hD2 hS1
  replace hw_11 : (upI fc_least (xa).toNatClampNeg v_3.toInt f_12) ∧ (upI fc_greatest (xa).toNatClampNeg v_8.toInt f_13) := hw_11
  obtain ⟨x_11_0, x_11_1⟩ := hw_11
  refine lv_aload_n hx hb dX0_narrow_25 rfl (lv_at hl 0 rfl) ?_
  refine va_get (D := (dC, dI)) (ci := 0) (v := .ref fa_least) (C := RX0) (T := TX0) (N := 11) hx hb hts inv_X0_narrow_X0 hown hK hP 0 rfl rfl 1 (by decide) (hts (.fieldLink RX0 15 "ArraySegments$Facts" "least" "[I") (List.mem_of_getElem? (i := 1) rfl)) (fun _ h9 => h9) rfl dX0_narrow_26 ?_
  refine lv_iload_n hx hb dX0_narrow_29 rfl (lv_at hl 1 rfl) ?_
  refine sf_iald kT hx hb hK hP 1 0 rfl rfl (fun _ => trivial) (vp_in_iff.mpr ⟨by omega, by omega⟩) dX0_narrow_30 (fun v_14 q_v_14 e_v_14 => ?_)
  have et_v_14 : v_14.toInt = (f_12 (xa).toNatClampNeg).toInt := by rw [e_v_14]
  have ni_15 := nn_cl (z := xa) (by omega)
  have ir_v_14 := i32r v_14
  refine lv_aload_n hx hb dX0_narrow_31 rfl (lv_at hl 0 rfl) ?_
  refine va_get (D := (dC, dI)) (ci := 0) (v := .ref fa_greatest) (C := RX0) (T := TX0) (N := 11) hx hb hts inv_X0_narrow_X0 hown hK hP 0 rfl rfl 2 (by decide) (hts (.fieldLink RX0 19 "ArraySegments$Facts" "greatest" "[I") (List.mem_of_getElem? (i := 6) rfl)) (fun _ h9 => h9) rfl dX0_narrow_32 ?_
  refine lv_iload_n hx hb dX0_narrow_35 rfl (lv_at hl 1 rfl) ?_
  refine sf_iald kT hx hb hK hP 2 0 rfl rfl (fun _ => trivial) (vp_in_iff.mpr ⟨by omega, by omega⟩) dX0_narrow_36 (fun v_16 q_v_16 e_v_16 => ?_)
  have et_v_16 : v_16.toInt = (f_13 (xa).toNatClampNeg).toInt := by rw [e_v_16]
  have ni_17 := nn_cl (z := xa) (by omega)
  have ir_v_16 := i32r v_16
  refine lv_icmp_le (tgt := 45) hx hb dX0_narrow_37 (by decide) (fun c_18 => ?_) (fun c_18 => ?_)
  · -- yes
    have k_18 : v_14.toInt ≤ v_16.toInt := ci_le c_18
    have hP9 := hP.sub (ws' := [(fh, .inr (0, [.int f_isReached, .ref fa_least, .ref fa_greatest, f_sites, f_maybeNull, f_known, f_lanes, f_shortest, f_longest, f_leastAt, f_greatestAt])), (fa_least, .inl (cI, 6, .inl f_12)), (fa_greatest, .inl (cI, 6, .inl f_13))]) [0, 1, 2] rfl
    have hD9 := hD.sub (ws' := [(fh, .inr (0, [.int f_isReached, .ref fa_least, .ref fa_greatest, f_sites, f_maybeNull, f_known, f_lanes, f_shortest, f_longest, f_leastAt, f_greatestAt])), (fa_least, .inl (cI, 6, .inl f_12)), (fa_greatest, .inl (cI, 6, .inl f_13))]) [0, 1, 2] (by decide) rfl
    exact W.vret hx hb hr (fun t ht hW => ⟨⟨(f_isReached, f_12, f_13), rfl, ⟨(show kZ f_isReached from q_f_isReached), (show (f_13 (xa).toNatClampNeg).toInt ≤ hia.toInt from (by have b0 := x_11_1 (xa).toNatClampNeg; omega)), (show loa.toInt ≤ (f_12 (xa).toNatClampNeg).toInt from (by have b0 := x_11_0 (xa).toNatClampNeg; omega)), (show ∀ j : Nat, (j = (xa).toNatClampNeg → (fc_least j).toInt ≤ (f_12 j).toInt ∧ loa.toInt ≤ (f_12 j).toInt ∧ ((f_12 j).toInt = (fc_least j).toInt ∨ (f_12 j).toInt = loa.toInt)) ∧ (¬ j = (xa).toNatClampNeg → (f_12 j).toInt = (fc_least j).toInt) from (fun j => by have b0 := x_11_0 j; by_cases hq : j = (xa).toNatClampNeg; (· subst hq; omega); (· omega))), (show ∀ j : Nat, (j = (xa).toNatClampNeg → (f_13 j).toInt ≤ (fc_greatest j).toInt ∧ (f_13 j).toInt ≤ hia.toInt ∧ ((f_13 j).toInt = (fc_greatest j).toInt ∨ (f_13 j).toInt = hia.toInt)) ∧ (¬ j = (xa).toNatClampNeg → (f_13 j).toInt = (fc_greatest j).toInt) from (fun j => by have b0 := x_11_1 j; by_cases hq : j = (xa).toNatClampNeg; (· subst hq; omega); (· omega))), (show ¬ f_isReached.toInt = 0 ∧ (f_12 (xa).toNatClampNeg).toInt ≤ (f_13 (xa).toNatClampNeg).toInt → ¬ f_isReached.toInt = 0 from (by omega))⟩, by rw [ht]; exact hP9, va_K.moved hW.alike hK, hD9⟩, hS.F ht⟩) hS.2.2 dX0_narrow_45
  · -- no
    have k_18 : v_16.toInt < v_14.toInt := ci_nle c_18
    refine lv_aload_n hx hb dX0_narrow_40 rfl (lv_at hl 0 rfl) ?_
    refine lv_iconst (v := 0) hx hb dX0_narrow_41 (by decide) ?_
    refine va_put (D := (dC, dI)) (ci := 0) (v := .int 0) (ty := .boolean) (C := RX0) (T := TX0) (N := 11) hx hb hts inv_X0_narrow_X0 tyX0 tyX0_ok nmX0 hown hK hP hD hS 0 rfl rfl 0 (by decide) (hts (.fieldLink RX0 9 "ArraySegments$Facts" "isReached" "Z") (List.mem_of_getElem? (i := 14) rfl)) (fun _ h9 => h9) rfl (by decide +kernel) rfl rfl (Nat.le_of_ble_eq_true rfl) dX0_narrow_42 (fun H_19 locs_19 hP1 hD1 hS1 => ?_)
    replace hP : va_P (dC, dI) vwCl [(fh, .inr (0, [.int 0, .ref fa_least, .ref fa_greatest, f_sites, f_maybeNull, f_known, f_lanes, f_shortest, f_longest, f_leastAt, f_greatestAt])), (fa_least, .inl (cI, 6, .inl f_12)), (fa_greatest, .inl (cI, 6, .inl f_13))] H_19 := hP1
    replace hD : va_D A [(fh, .inr (0, [.int 0, .ref fa_least, .ref fa_greatest, f_sites, f_maybeNull, f_known, f_lanes, f_shortest, f_longest, f_leastAt, f_greatestAt])), (fa_least, .inl (cI, 6, .inl f_12)), (fa_greatest, .inl (cI, 6, .inl f_13))] := hD1
    replace hS := hS1
    clear hP1 hD1 hS1
    have hP9 := hP.sub (ws' := [(fh, .inr (0, [.int 0, .ref fa_least, .ref fa_greatest, f_sites, f_maybeNull, f_known, f_lanes, f_shortest, f_longest, f_leastAt, f_greatestAt])), (fa_least, .inl (cI, 6, .inl f_12)), (fa_greatest, .inl (cI, 6, .inl f_13))]) [0, 1, 2] rfl
    have hD9 := hD.sub (ws' := [(fh, .inr (0, [.int 0, .ref fa_least, .ref fa_greatest, f_sites, f_maybeNull, f_known, f_lanes, f_shortest, f_longest, f_leastAt, f_greatestAt])), (fa_least, .inl (cI, 6, .inl f_12)), (fa_greatest, .inl (cI, 6, .inl f_13))]) [0, 1, 2] (by decide) rfl
    exact W.vret hx hb hr (fun t ht hW => ⟨⟨((0 : Int32), f_12, f_13), rfl, ⟨(show kZ (0 : Int32) from (by decide)), (show (f_13 (xa).toNatClampNeg).toInt ≤ hia.toInt from (by have b0 := x_11_1 (xa).toNatClampNeg; omega)), (show loa.toInt ≤ (f_12 (xa).toNatClampNeg).toInt from (by have b0 := x_11_0 (xa).toNatClampNeg; omega)), (show ∀ j : Nat, (j = (xa).toNatClampNeg → (fc_least j).toInt ≤ (f_12 j).toInt ∧ loa.toInt ≤ (f_12 j).toInt ∧ ((f_12 j).toInt = (fc_least j).toInt ∨ (f_12 j).toInt = loa.toInt)) ∧ (¬ j = (xa).toNatClampNeg → (f_12 j).toInt = (fc_least j).toInt) from (fun j => by have b0 := x_11_0 j; by_cases hq : j = (xa).toNatClampNeg; (· subst hq; omega); (· omega))), (show ∀ j : Nat, (j = (xa).toNatClampNeg → (f_13 j).toInt ≤ (fc_greatest j).toInt ∧ (f_13 j).toInt ≤ hia.toInt ∧ ((f_13 j).toInt = (fc_greatest j).toInt ∨ (f_13 j).toInt = hia.toInt)) ∧ (¬ j = (xa).toNatClampNeg → (f_13 j).toInt = (fc_greatest j).toInt) from (fun j => by have b0 := x_11_1 j; by_cases hq : j = (xa).toNatClampNeg; (· subst hq; omega); (· omega))), (show ¬ f_isReached.toInt = 0 ∧ (f_12 (xa).toNatClampNeg).toInt ≤ (f_13 (xa).toNatClampNeg).toInt → ¬ (0 : Int32).toInt = 0 from (by omega))⟩, by rw [ht]; exact hP9, va_K.moved hW.alike hK, hD9⟩, hS.F ht⟩) hS.2.2 dX0_narrow_45

def v_X0_setReference : List Cond := .code yX0_setReference cX0_setReference 5 none :: ([.fieldLink RX0 22 "ArraySegments$Facts" "sites" "[J", .fieldLink RX0 26 "ArraySegments$Facts" "maybeNull" "[Z"] ++ (wsX00))
theorem inv_X0_setReference_X0 : ∀ w ∈ wsX00, w ∈ v_X0_setReference := fun _ h => List.mem_cons_of_mem _ (List.mem_append_right _ (h))
set_option maxRecDepth 20000 in
theorem gd_X0_setReference : gdL v_X0_setReference := gdC (gdW (by decide +kernel)) (gdA (gdW (by decide +kernel)) gd_wsX00)
abbrev sw_X0_setReference (cI cJ cZ : ClassId) (fh : Nat) (f_isReached : Int32) (f_least : Value) (f_greatest : Value) (fa_sites : Nat) (fa_maybeNull : Nat) (f_known : Value) (f_lanes : Value) (f_shortest : Value) (f_longest : Value) (f_leastAt : Value) (f_greatestAt : Value) (fc_sites : Nat → Int64) (fc_maybeNull : Nat → Int32) (ra : Int32) (sa : Int64) (na : Int32) : va_W := [(fh, .inr (0, [.int f_isReached, f_least, f_greatest, .ref fa_sites, .ref fa_maybeNull, f_known, f_lanes, f_shortest, f_longest, f_leastAt, f_greatestAt])), (fa_sites, .inl (cJ, 6, .inr (.inl fc_sites))), (fa_maybeNull, .inl (cZ, 6, .inl fc_maybeNull))]
set_option maxHeartbeats 8000000 in
set_option maxRecDepth 100000 in
theorem s_X0_setReference (l : Launch) (dC : Nat → ClassId) (dI : Nat → Nat → Nat) (cI cJ cZ : ClassId) (fh : Nat) (f_isReached : Int32) (f_least : Value) (f_greatest : Value) (fa_sites : Nat) (fa_maybeNull : Nat) (f_known : Value) (f_lanes : Value) (f_shortest : Value) (f_longest : Value) (f_leastAt : Value) (f_greatestAt : Value) (fc_sites : Nat → Int64) (fc_maybeNull : Nat → Int32) (ra : Int32) (sa : Int64) (na : Int32) (sz : Nat) (q_f_isReached : kZ f_isReached) (h_fc_maybeNull : ∀ j : Nat, kZ (fc_maybeNull j)) (hy_ra : V6 ra) (hy_na : kZ na) : Met l yX0_setReference v_X0_setReference ({ frames := 0, cells := 0, slots := 0, locals := 0 }) (va_Pc [.ref fh, .int ra, .long sa, .int na] (cPre dC dI cI cJ cZ sz (sw_X0_setReference cI cJ cZ fh f_isReached f_least f_greatest fa_sites fa_maybeNull f_known f_lanes f_shortest f_longest f_leastAt f_greatestAt fc_sites fc_maybeNull ra sa na))) (va_Qv (fun (u : (Nat → Int64) × (Nat → Int32)) => (∀ j : Nat, kZ ((u.2) j)) ∧ (∀ j : Nat, (j = (ra).toNatClampNeg → (u.1) j = sa) ∧ (¬ j = (ra).toNatClampNeg → (u.1) j = fc_sites j)) ∧ (upI fc_maybeNull (ra).toNatClampNeg na.toInt (u.2))) (fun (u : (Nat → Int64) × (Nat → Int32)) => cPost dC dI cI cJ cZ (va_A (sw_X0_setReference cI cJ cZ fh f_isReached f_least f_greatest fa_sites fa_maybeNull f_known f_lanes f_shortest f_longest f_leastAt f_greatestAt fc_sites fc_maybeNull ra sa na) sz) [(fh, .inr (0, [.int f_isReached, f_least, f_greatest, .ref fa_sites, .ref fa_maybeNull, f_known, f_lanes, f_shortest, f_longest, f_leastAt, f_greatestAt])), (fa_sites, .inl (cJ, 6, .inr (.inl (u.1)))), (fa_maybeNull, .inl (cZ, 6, .inl (u.2)))]) (va_A (sw_X0_setReference cI cJ cZ fh f_isReached f_least f_greatest fa_sites fa_maybeNull f_known f_lanes f_shortest f_longest f_leastAt f_greatestAt fc_sites fc_maybeNull ra sa na) sz)) 0 0 (va_A (sw_X0_setReference cI cJ cZ fh f_isReached f_least f_greatest fa_sites fa_maybeNull f_known f_lanes f_shortest f_longest f_leastAt f_greatestAt fc_sites fc_maybeNull ra sa na) sz) := by
  refine Met.ofW (cc := cX0_setReference) (maxL := 5) (ret := none) (by decide) rfl ?_
  intro p e s m args below meth c s₁ B hml hv
  obtain ⟨rfl, hsz, hP, hK, hD0, hN⟩ := hv
  have hx := B.exec
  have hb := B.bytes
  have hr := B.returns
  have hts := atoms_spec (ws := v_X0_setReference) B.pre
  have hown : s.vm.findClass RX0 = some m.cls := findClass_of_methodNamed B.named
  have hlocks := B.notSynchronized
  subst hsz
  have hD := hD0.self (sz := s.heap.size)
  generalize hAe : va_A (sw_X0_setReference cI cJ cZ fh f_isReached f_least f_greatest fa_sites fa_maybeNull f_known f_lanes f_shortest f_longest f_leastAt f_greatestAt fc_sites fc_maybeNull ra sa na) s.heap.size = A at hD ⊢
  have hA : ∀ q : Nat, s.heap.size ≤ q → A q := fun q h => by rw [← hAe]; exact Or.inr h
  clear hAe hD0
  have hS : va_S A s.heap s.heap [] := va_S.rf
  replace hP : va_P (dC, dI) vwCl [(fh, .inr (0, [.int f_isReached, f_least, f_greatest, .ref fa_sites, .ref fa_maybeNull, f_known, f_lanes, f_shortest, f_longest, f_leastAt, f_greatestAt])), (fa_sites, .inl (cJ, 6, .inr (.inl fc_sites))), (fa_maybeNull, .inl (cZ, 6, .inl fc_maybeNull))] s.heap := hP
  replace hD : va_D A [(fh, .inr (0, [.int f_isReached, f_least, f_greatest, .ref fa_sites, .ref fa_maybeNull, f_known, f_lanes, f_shortest, f_longest, f_leastAt, f_greatestAt])), (fa_sites, .inl (cJ, 6, .inr (.inl fc_sites))), (fa_maybeNull, .inl (cZ, 6, .inl fc_maybeNull))] := hD
  have hl := lv_entry ([.ref fh, .int ra, .long sa, .int na]) (n := 5) (Nat.le_of_ble_eq_true rfl)
  rw [lg_entry_eq]
  generalize (lg_sl ([.ref fh, .int ra, .long sa, .int na]) ++ List.replicate (5 - (lg_sl ([.ref fh, .int ra, .long sa, .int na])).length) Slot.unset).toArray = ls at hl ⊢
  replace hl : lv_has ls 5 [(0, .ref fh), (1, .int ra), (2, .long sa), (4, .int na)] := hl
  have z_0 : (0 : Int32).toInt = 0 := by decide
  have z_1 : (1 : Int32).toInt = 1 := by decide
  refine lv_aload_n hx hb dX0_setReference_0 rfl (lv_at hl 0 rfl) ?_
  refine va_get (D := (dC, dI)) (ci := 0) (v := .ref fa_sites) (C := RX0) (T := TX0) (N := 11) hx hb hts inv_X0_setReference_X0 hown hK hP 0 rfl rfl 3 (by decide) (hts (.fieldLink RX0 22 "ArraySegments$Facts" "sites" "[J") (List.mem_of_getElem? (i := 1) rfl)) (fun _ h9 => h9) rfl dX0_setReference_1 ?_
  refine lv_iload_n hx hb dX0_setReference_4 rfl (lv_at hl 1 rfl) ?_
  refine lv_lload_n hx hb dX0_setReference_5 rfl (lv_at hl 2 rfl) ?_
  have ni_3 := nn_cl (z := ra) (by omega)
  refine sf_lastU2 lT hx hb hK hP hD hS 1 1 rfl rfl (fun _ => trivial) trivial (vp_in_iff.mpr ⟨by omega, by omega⟩) dX0_setReference_6 (fun f_1 h_f_1 u_f_1 H_2 locs_2 hP1 hD1 hS1 => ?_)
  replace hP : va_P (dC, dI) vwCl [(fh, .inr (0, [.int f_isReached, f_least, f_greatest, .ref fa_sites, .ref fa_maybeNull, f_known, f_lanes, f_shortest, f_longest, f_leastAt, f_greatestAt])), (fa_sites, .inl (cJ, 6, .inr (.inl f_1))), (fa_maybeNull, .inl (cZ, 6, .inl fc_maybeNull))] H_2 := hP1
  replace hD : va_D A [(fh, .inr (0, [.int f_isReached, f_least, f_greatest, .ref fa_sites, .ref fa_maybeNull, f_known, f_lanes, f_shortest, f_longest, f_leastAt, f_greatestAt])), (fa_sites, .inl (cJ, 6, .inr (.inl f_1))), (fa_maybeNull, .inl (cZ, 6, .inl fc_maybeNull))] := hD1
  replace hS := hS1
  clear hP1 hD1 hS1
  refine lv_aload_n hx hb dX0_setReference_7 rfl (lv_at hl 0 rfl) ?_
  refine va_get (D := (dC, dI)) (ci := 0) (v := .ref fa_maybeNull) (C := RX0) (T := TX0) (N := 11) hx hb hts inv_X0_setReference_X0 hown hK hP 0 rfl rfl 4 (by decide) (hts (.fieldLink RX0 26 "ArraySegments$Facts" "maybeNull" "[Z") (List.mem_of_getElem? (i := 2) rfl)) (fun _ h9 => h9) rfl dX0_setReference_8 ?_
  refine lv_iload_n hx hb dX0_setReference_11 rfl (lv_at hl 1 rfl) ?_
  refine lv_iload hx hb dX0_setReference_12 (lv_at hl 3 rfl) ?_
  have ni_6 := nn_cl (z := ra) (by omega)
  refine sf_zastU hx hb hK hP hD hS 2 2 rfl rfl h_fc_maybeNull hy_na (vp_in_iff.mpr ⟨by omega, by omega⟩) dX0_setReference_14 (fun f_4 h_f_4 u_f_4 H_5 locs_5 hP1 hD1 hS1 => ?_)
  replace hP : va_P (dC, dI) vwCl [(fh, .inr (0, [.int f_isReached, f_least, f_greatest, .ref fa_sites, .ref fa_maybeNull, f_known, f_lanes, f_shortest, f_longest, f_leastAt, f_greatestAt])), (fa_sites, .inl (cJ, 6, .inr (.inl f_1))), (fa_maybeNull, .inl (cZ, 6, .inl f_4))] H_5 := hP1
  replace hD : va_D A [(fh, .inr (0, [.int f_isReached, f_least, f_greatest, .ref fa_sites, .ref fa_maybeNull, f_known, f_lanes, f_shortest, f_longest, f_leastAt, f_greatestAt])), (fa_sites, .inl (cJ, 6, .inr (.inl f_1))), (fa_maybeNull, .inl (cZ, 6, .inl f_4))] := hD1
  replace hS := hS1
  clear hP1 hD1 hS1
  have hP9 := hP.sub (ws' := [(fh, .inr (0, [.int f_isReached, f_least, f_greatest, .ref fa_sites, .ref fa_maybeNull, f_known, f_lanes, f_shortest, f_longest, f_leastAt, f_greatestAt])), (fa_sites, .inl (cJ, 6, .inr (.inl f_1))), (fa_maybeNull, .inl (cZ, 6, .inl f_4))]) [0, 1, 2] rfl
  have hD9 := hD.sub (ws' := [(fh, .inr (0, [.int f_isReached, f_least, f_greatest, .ref fa_sites, .ref fa_maybeNull, f_known, f_lanes, f_shortest, f_longest, f_leastAt, f_greatestAt])), (fa_sites, .inl (cJ, 6, .inr (.inl f_1))), (fa_maybeNull, .inl (cZ, 6, .inl f_4))]) [0, 1, 2] (by decide) rfl
  exact W.vret hx hb hr (fun t ht hW => ⟨⟨(f_1, f_4), rfl, ⟨(show ∀ j : Nat, kZ (f_4 j) from h_f_4), (show ∀ j : Nat, (j = (ra).toNatClampNeg → f_1 j = sa) ∧ (¬ j = (ra).toNatClampNeg → f_1 j = fc_sites j) from u_f_1), (show upI fc_maybeNull (ra).toNatClampNeg na.toInt f_4 from u_f_4)⟩, by rw [ht]; exact hP9, va_K.moved hW.alike hK, hD9⟩, hS.F ht⟩) hS.2.2 dX0_setReference_15

def v_X0_narrowReference : List Cond := .code yX0_narrowReference cX0_narrowReference 4 none :: ([.methodLink RX0 87 yX0_setReference, .instanceMethod yX0_setReference, .selects RX0 yX0_setReference yX0_setReference, .initialized RX0, .fieldLink RX0 9 "ArraySegments$Facts" "isReached" "Z"] ++ (wsX00 ++ (v_X0_setReference)))
theorem inv_X0_narrowReference_X0 : ∀ w ∈ wsX00, w ∈ v_X0_narrowReference := fun _ h => List.mem_cons_of_mem _ (List.mem_append_right _ (List.mem_append_left _ h))
theorem im_X0_narrowReference_X0_setReference : ∀ w ∈ v_X0_setReference, w ∈ v_X0_narrowReference := fun _ h => List.mem_cons_of_mem _ (List.mem_append_right _ (List.mem_append_right _ (h)))
set_option maxRecDepth 20000 in
theorem gd_X0_narrowReference : gdL v_X0_narrowReference := gdC (gdW (by decide +kernel)) (gdA (gdW (by decide +kernel)) (gdA gd_wsX00 gd_X0_setReference))
set_option maxRecDepth 20000 in
theorem h_X0_narrowReference_X0_setReference_87 : GoodIn v_X0_narrowReference (wsV RX0 87 RX0 yX0_setReference v_X0_setReference) := gdI [1, 2, 3, 4] rfl (by decide +kernel) (im_X0_narrowReference_X0_setReference) gd_X0_setReference
abbrev sw_X0_narrowReference (cI cJ cZ : ClassId) (fh : Nat) (f_isReached : Int32) (f_least : Value) (f_greatest : Value) (fa_sites : Nat) (fa_maybeNull : Nat) (f_known : Value) (f_lanes : Value) (f_shortest : Value) (f_longest : Value) (f_leastAt : Value) (f_greatestAt : Value) (fc_sites : Nat → Int64) (fc_maybeNull : Nat → Int32) (ra : Int32) (sa : Int64) : va_W := [(fh, .inr (0, [.int f_isReached, f_least, f_greatest, .ref fa_sites, .ref fa_maybeNull, f_known, f_lanes, f_shortest, f_longest, f_leastAt, f_greatestAt])), (fa_sites, .inl (cJ, 6, .inr (.inl fc_sites))), (fa_maybeNull, .inl (cZ, 6, .inl fc_maybeNull))]
set_option maxHeartbeats 8000000 in
set_option maxRecDepth 100000 in
theorem s_X0_narrowReference (l : Launch) (dC : Nat → ClassId) (dI : Nat → Nat → Nat) (cI cJ cZ : ClassId) (fh : Nat) (f_isReached : Int32) (f_least : Value) (f_greatest : Value) (fa_sites : Nat) (fa_maybeNull : Nat) (f_known : Value) (f_lanes : Value) (f_shortest : Value) (f_longest : Value) (f_leastAt : Value) (f_greatestAt : Value) (fc_sites : Nat → Int64) (fc_maybeNull : Nat → Int32) (ra : Int32) (sa : Int64) (sz : Nat) (q_f_isReached : kZ f_isReached) (h_fc_maybeNull : ∀ j : Nat, kZ (fc_maybeNull j)) (hy_ra : V6 ra) : Met l yX0_narrowReference v_X0_narrowReference ({ frames := 1, cells := 0, slots := 0, locals := 24 }) (va_Pc [.ref fh, .int ra, .long sa] (cPre dC dI cI cJ cZ sz (sw_X0_narrowReference cI cJ cZ fh f_isReached f_least f_greatest fa_sites fa_maybeNull f_known f_lanes f_shortest f_longest f_leastAt f_greatestAt fc_sites fc_maybeNull ra sa))) (va_Qv (fun (u : Int32 × (Nat → Int64) × (Nat → Int32)) => (kZ (u.1)) ∧ (∀ j : Nat, kZ ((u.2.2) j)) ∧ (∀ j : Nat, (j = (ra).toNatClampNeg → (u.2.1) j = sa) ∧ (¬ j = (ra).toNatClampNeg → (u.2.1) j = fc_sites j)) ∧ (upI fc_maybeNull (ra).toNatClampNeg 0 (u.2.2)) ∧ (¬ f_isReached.toInt = 0 ∧ ¬ sa.toInt = 0 → ¬ (u.1).toInt = 0)) (fun (u : Int32 × (Nat → Int64) × (Nat → Int32)) => cPost dC dI cI cJ cZ (va_A (sw_X0_narrowReference cI cJ cZ fh f_isReached f_least f_greatest fa_sites fa_maybeNull f_known f_lanes f_shortest f_longest f_leastAt f_greatestAt fc_sites fc_maybeNull ra sa) sz) [(fh, .inr (0, [.int (u.1), f_least, f_greatest, .ref fa_sites, .ref fa_maybeNull, f_known, f_lanes, f_shortest, f_longest, f_leastAt, f_greatestAt])), (fa_sites, .inl (cJ, 6, .inr (.inl (u.2.1)))), (fa_maybeNull, .inl (cZ, 6, .inl (u.2.2)))]) (va_A (sw_X0_narrowReference cI cJ cZ fh f_isReached f_least f_greatest fa_sites fa_maybeNull f_known f_lanes f_shortest f_longest f_leastAt f_greatestAt fc_sites fc_maybeNull ra sa) sz)) 0 0 (va_A (sw_X0_narrowReference cI cJ cZ fh f_isReached f_least f_greatest fa_sites fa_maybeNull f_known f_lanes f_shortest f_longest f_leastAt f_greatestAt fc_sites fc_maybeNull ra sa) sz) := by
  refine Met.ofW (cc := cX0_narrowReference) (maxL := 4) (ret := none) (by decide) rfl ?_
  intro p e s m args below meth c s₁ B hml hv
  obtain ⟨rfl, hsz, hP, hK, hD0, hN⟩ := hv
  have hx := B.exec
  have hb := B.bytes
  have hr := B.returns
  have hts := atoms_spec (ws := v_X0_narrowReference) B.pre
  have hown : s.vm.findClass RX0 = some m.cls := findClass_of_methodNamed B.named
  have hlocks := B.notSynchronized
  subst hsz
  have hD := hD0.self (sz := s.heap.size)
  generalize hAe : va_A (sw_X0_narrowReference cI cJ cZ fh f_isReached f_least f_greatest fa_sites fa_maybeNull f_known f_lanes f_shortest f_longest f_leastAt f_greatestAt fc_sites fc_maybeNull ra sa) s.heap.size = A at hD ⊢
  have hA : ∀ q : Nat, s.heap.size ≤ q → A q := fun q h => by rw [← hAe]; exact Or.inr h
  clear hAe hD0
  have hS : va_S A s.heap s.heap [] := va_S.rf
  replace hP : va_P (dC, dI) vwCl [(fh, .inr (0, [.int f_isReached, f_least, f_greatest, .ref fa_sites, .ref fa_maybeNull, f_known, f_lanes, f_shortest, f_longest, f_leastAt, f_greatestAt])), (fa_sites, .inl (cJ, 6, .inr (.inl fc_sites))), (fa_maybeNull, .inl (cZ, 6, .inl fc_maybeNull))] s.heap := hP
  replace hD : va_D A [(fh, .inr (0, [.int f_isReached, f_least, f_greatest, .ref fa_sites, .ref fa_maybeNull, f_known, f_lanes, f_shortest, f_longest, f_leastAt, f_greatestAt])), (fa_sites, .inl (cJ, 6, .inr (.inl fc_sites))), (fa_maybeNull, .inl (cZ, 6, .inl fc_maybeNull))] := hD
  have hl := lv_entry ([.ref fh, .int ra, .long sa]) (n := 4) (Nat.le_of_ble_eq_true rfl)
  rw [lg_entry_eq]
  generalize (lg_sl ([.ref fh, .int ra, .long sa]) ++ List.replicate (4 - (lg_sl ([.ref fh, .int ra, .long sa])).length) Slot.unset).toArray = ls at hl ⊢
  replace hl : lv_has ls 4 [(0, .ref fh), (1, .int ra), (2, .long sa)] := hl
  have z_0 : (0 : Int32).toInt = 0 := by decide
  have z_1 : (1 : Int32).toInt = 1 := by decide
  have zl_0 : (0 : Int64).toInt = 0 := by decide
  refine lv_aload_n hx hb dX0_narrowReference_0 rfl (lv_at hl 0 rfl) ?_
  refine lv_iload_n hx hb dX0_narrowReference_1 rfl (lv_at hl 1 rfl) ?_
  refine lv_lload_n hx hb dX0_narrowReference_2 rfl (lv_at hl 2 rfl) ?_
  refine lv_iconst (v := 0) hx hb dX0_narrowReference_3 (by decide) ?_
  have hPc := hP.sub (ws' := [(fh, .inr (0, [.int f_isReached, f_least, f_greatest, .ref fa_sites, .ref fa_maybeNull, f_known, f_lanes, f_shortest, f_longest, f_leastAt, f_greatestAt])), (fa_sites, .inl (cJ, 6, .inr (.inl fc_sites))), (fa_maybeNull, .inl (cZ, 6, .inl fc_maybeNull))]) [0, 1, 2] rfl
  have hDc := hD.sub (ws' := [(fh, .inr (0, [.int f_isReached, f_least, f_greatest, .ref fa_sites, .ref fa_maybeNull, f_known, f_lanes, f_shortest, f_longest, f_leastAt, f_greatestAt])), (fa_sites, .inl (cJ, 6, .inr (.inl fc_sites))), (fa_maybeNull, .inl (cZ, 6, .inl fc_maybeNull))]) [0, 1, 2] (by decide) rfl
  have hFc := va_free (wc := [(fh, .inr (0, [.int f_isReached, f_least, f_greatest, .ref fa_sites, .ref fa_maybeNull, f_known, f_lanes, f_shortest, f_longest, f_leastAt, f_greatestAt])), (fa_sites, .inl (cJ, 6, .inr (.inl fc_sites))), (fa_maybeNull, .inl (cZ, 6, .inl fc_maybeNull))]) hD hS hA [0, 1, 2] rfl
  refine va_callv (va_runV (As := [.int ra, .long sa, .int 0]) (rest := []) ⟨hx, hb, hml, hown, hts⟩ (s_X0_setReference l dC dI cI cJ cZ fh f_isReached f_least f_greatest fa_sites fa_maybeNull f_known f_lanes f_shortest f_longest f_leastAt f_greatestAt fc_sites fc_maybeNull ra sa 0 s.heap.size q_f_isReached h_fc_maybeNull (by first | assumption | omega) (by decide)) (cwV 3 hts h_X0_narrowReference_X0_setReference_87 rfl rfl rfl (by decide +kernel) ⟨Nat.le_of_ble_eq_true rfl, Nat.le_of_ble_eq_true rfl⟩) ⟨cPre_blind, va_recv hK hPc (ci := 0) (q0 := 0) rfl rfl, cPre_of hK hN hPc hDc⟩ rfl rfl hl.1 rfl (lv_room (Nat.le_of_ble_eq_true rfl)) dX0_narrowReference_4 ⟨Nat.le_of_ble_eq_true rfl, Nat.le_of_ble_eq_true rfl⟩) hS (fun q _ h => hFc q h) hFc (fun u_1 t_1 H_1 locs_1 ht hvm hw_1 hB hz1 hk1 hS1 => ?_)
  obtain ⟨f_2, f_3⟩ := u_1
  obtain ⟨hP1, hK1, hD1⟩ := hB
  rw [ht] at hP1
  obtain ⟨hP2, hD2⟩ := va_join (wr := []) (w1 := [(fh, .inr (0, [.int f_isReached, f_least, f_greatest, .ref fa_sites, .ref fa_maybeNull, f_known, f_lanes, f_shortest, f_longest, f_leastAt, f_greatestAt])), (fa_sites, .inl (cJ, 6, .inr (.inl f_2))), (fa_maybeNull, .inl (cZ, 6, .inl f_3))]) hP hD [0, 1, 2] [] rfl rfl (by decide) (by decide) hk1 hFc hP1 hD1
  clear hPc hDc hFc hP1 hD1 hK1 hk1 hz1 hvm ht
  replace hP : va_P (dC, dI) vwCl [(fh, .inr (0, [.int f_isReached, f_least, f_greatest, .ref fa_sites, .ref fa_maybeNull, f_known, f_lanes, f_shortest, f_longest, f_leastAt, f_greatestAt])), (fa_sites, .inl (cJ, 6, .inr (.inl f_2))), (fa_maybeNull, .inl (cZ, 6, .inl f_3))] H_1 := hP2
  replace hD : va_D A [(fh, .inr (0, [.int f_isReached, f_least, f_greatest, .ref fa_sites, .ref fa_maybeNull, f_known, f_lanes, f_shortest, f_longest, f_leastAt, f_greatestAt])), (fa_sites, .inl (cJ, 6, .inr (.inl f_2))), (fa_maybeNull, .inl (cZ, 6, .inl f_3))] := hD2
  replace hS := hS1
  clear hP2 hD2 hS1
  replace hw_1 : (∀ j : Nat, kZ (f_3 j)) ∧ (∀ j : Nat, (j = (ra).toNatClampNeg → f_2 j = sa) ∧ (¬ j = (ra).toNatClampNeg → f_2 j = fc_sites j)) ∧ (upI fc_maybeNull (ra).toNatClampNeg (0 : Int32).toInt f_3) := hw_1
  obtain ⟨h_f_3, x_1_0, x_1_1⟩ := hw_1
  refine lv_lload_n hx hb dX0_narrowReference_7 rfl (lv_at hl 2 rfl) ?_
  refine lv_lconst (v := 0) hx hb dX0_narrowReference_8 (by decide) ?_
  refine W.lcmp hx hb dX0_narrowReference_9 ?_
  refine lv_if_ne (tgt := 18) hx hb dX0_narrowReference_10 (by decide) (fun c_4 => ?_) (fun c_4 => ?_)
  · -- yes
    have k_4 : ¬ sa.toInt = (0 : Int64).toInt := lc_ne c_4
    have hP9 := hP.sub (ws' := [(fh, .inr (0, [.int f_isReached, f_least, f_greatest, .ref fa_sites, .ref fa_maybeNull, f_known, f_lanes, f_shortest, f_longest, f_leastAt, f_greatestAt])), (fa_sites, .inl (cJ, 6, .inr (.inl f_2))), (fa_maybeNull, .inl (cZ, 6, .inl f_3))]) [0, 1, 2] rfl
    have hD9 := hD.sub (ws' := [(fh, .inr (0, [.int f_isReached, f_least, f_greatest, .ref fa_sites, .ref fa_maybeNull, f_known, f_lanes, f_shortest, f_longest, f_leastAt, f_greatestAt])), (fa_sites, .inl (cJ, 6, .inr (.inl f_2))), (fa_maybeNull, .inl (cZ, 6, .inl f_3))]) [0, 1, 2] (by decide) rfl
    exact W.vret hx hb hr (fun t ht hW => ⟨⟨(f_isReached, f_2, f_3), rfl, ⟨(show kZ f_isReached from q_f_isReached), (show ∀ j : Nat, kZ (f_3 j) from h_f_3), (show ∀ j : Nat, (j = (ra).toNatClampNeg → f_2 j = sa) ∧ (¬ j = (ra).toNatClampNeg → f_2 j = fc_sites j) from x_1_0), (show upI fc_maybeNull (ra).toNatClampNeg 0 f_3 from (fun j => by have b0 := x_1_1 j; omega)), (show ¬ f_isReached.toInt = 0 ∧ ¬ sa.toInt = 0 → ¬ f_isReached.toInt = 0 from (by omega))⟩, by rw [ht]; exact hP9, va_K.moved hW.alike hK, hD9⟩, hS.F ht⟩) hS.2.2 dX0_narrowReference_18
  · -- no
    have k_4 : sa.toInt = (0 : Int64).toInt := lc_eq c_4
    refine lv_aload_n hx hb dX0_narrowReference_13 rfl (lv_at hl 0 rfl) ?_
    refine lv_iconst (v := 0) hx hb dX0_narrowReference_14 (by decide) ?_
    refine va_put (D := (dC, dI)) (ci := 0) (v := .int 0) (ty := .boolean) (C := RX0) (T := TX0) (N := 11) hx hb hts inv_X0_narrowReference_X0 tyX0 tyX0_ok nmX0 hown hK hP hD hS 0 rfl rfl 0 (by decide) (hts (.fieldLink RX0 9 "ArraySegments$Facts" "isReached" "Z") (List.mem_of_getElem? (i := 5) rfl)) (fun _ h9 => h9) rfl (by decide +kernel) rfl rfl (Nat.le_of_ble_eq_true rfl) dX0_narrowReference_15 (fun H_5 locs_5 hP1 hD1 hS1 => ?_)
    replace hP : va_P (dC, dI) vwCl [(fh, .inr (0, [.int 0, f_least, f_greatest, .ref fa_sites, .ref fa_maybeNull, f_known, f_lanes, f_shortest, f_longest, f_leastAt, f_greatestAt])), (fa_sites, .inl (cJ, 6, .inr (.inl f_2))), (fa_maybeNull, .inl (cZ, 6, .inl f_3))] H_5 := hP1
    replace hD : va_D A [(fh, .inr (0, [.int 0, f_least, f_greatest, .ref fa_sites, .ref fa_maybeNull, f_known, f_lanes, f_shortest, f_longest, f_leastAt, f_greatestAt])), (fa_sites, .inl (cJ, 6, .inr (.inl f_2))), (fa_maybeNull, .inl (cZ, 6, .inl f_3))] := hD1
    replace hS := hS1
    clear hP1 hD1 hS1
    have hP9 := hP.sub (ws' := [(fh, .inr (0, [.int 0, f_least, f_greatest, .ref fa_sites, .ref fa_maybeNull, f_known, f_lanes, f_shortest, f_longest, f_leastAt, f_greatestAt])), (fa_sites, .inl (cJ, 6, .inr (.inl f_2))), (fa_maybeNull, .inl (cZ, 6, .inl f_3))]) [0, 1, 2] rfl
    have hD9 := hD.sub (ws' := [(fh, .inr (0, [.int 0, f_least, f_greatest, .ref fa_sites, .ref fa_maybeNull, f_known, f_lanes, f_shortest, f_longest, f_leastAt, f_greatestAt])), (fa_sites, .inl (cJ, 6, .inr (.inl f_2))), (fa_maybeNull, .inl (cZ, 6, .inl f_3))]) [0, 1, 2] (by decide) rfl
    exact W.vret hx hb hr (fun t ht hW => ⟨⟨((0 : Int32), f_2, f_3), rfl, ⟨(show kZ (0 : Int32) from (by decide)), (show ∀ j : Nat, kZ (f_3 j) from h_f_3), (show ∀ j : Nat, (j = (ra).toNatClampNeg → f_2 j = sa) ∧ (¬ j = (ra).toNatClampNeg → f_2 j = fc_sites j) from x_1_0), (show upI fc_maybeNull (ra).toNatClampNeg 0 f_3 from (fun j => by have b0 := x_1_1 j; omega)), (show ¬ f_isReached.toInt = 0 ∧ ¬ sa.toInt = 0 → ¬ (0 : Int32).toInt = 0 from (by omega))⟩, by rw [ht]; exact hP9, va_K.moved hW.alike hK, hD9⟩, hS.F ht⟩) hS.2.2 dX0_narrowReference_18

def v_X0_castFits : List Cond := .code yX0_castFits cX0_castFits 3 (some .boolean) :: ([.fieldLink RX0 15 "ArraySegments$Facts" "least" "[I", .initialized RX4, .static yX4_leastOfLane, .fieldLink RX0 19 "ArraySegments$Facts" "greatest" "[I", .static yX4_greatestOfLane] ++ (wsX00 ++ (v_X4_leastOfLane ++ (v_X4_greatestOfLane))))
theorem inv_X0_castFits_X0 : ∀ w ∈ wsX00, w ∈ v_X0_castFits := fun _ h => List.mem_cons_of_mem _ (List.mem_append_right _ (List.mem_append_left _ h))
theorem im_X0_castFits_X4_leastOfLane : ∀ w ∈ v_X4_leastOfLane, w ∈ v_X0_castFits := fun _ h => List.mem_cons_of_mem _ (List.mem_append_right _ (List.mem_append_right _ (List.mem_append_left _ h)))
theorem im_X0_castFits_X4_greatestOfLane : ∀ w ∈ v_X4_greatestOfLane, w ∈ v_X0_castFits := fun _ h => List.mem_cons_of_mem _ (List.mem_append_right _ (List.mem_append_right _ (List.mem_append_right _ (h))))
set_option maxRecDepth 20000 in
theorem gd_X0_castFits : gdL v_X0_castFits := gdC (gdW (by decide +kernel)) (gdA (gdW (by decide +kernel)) (gdA gd_wsX00 (gdA gd_X4_leastOfLane gd_X4_greatestOfLane)))
theorem h_X0_castFits_X4_leastOfLane_91 : GoodIn v_X0_castFits (v_X4_leastOfLane) := fun w h => ⟨im_X0_castFits_X4_leastOfLane w h, gd_X4_leastOfLane w h⟩
theorem h_X0_castFits_X4_greatestOfLane_95 : GoodIn v_X0_castFits (v_X4_greatestOfLane) := fun w h => ⟨im_X0_castFits_X4_greatestOfLane w h, gd_X4_greatestOfLane w h⟩
abbrev sw_X0_castFits (cI cJ cZ : ClassId) (fh : Nat) (f_isReached : Int32) (fa_least : Nat) (fa_greatest : Nat) (f_sites : Value) (f_maybeNull : Value) (f_known : Value) (f_lanes : Value) (f_shortest : Value) (f_longest : Value) (f_leastAt : Value) (f_greatestAt : Value) (fc_least : Nat → Int32) (fc_greatest : Nat → Int32) (la : Int32) (ya : Int32) : va_W := [(fh, .inr (0, [.int f_isReached, .ref fa_least, .ref fa_greatest, f_sites, f_maybeNull, f_known, f_lanes, f_shortest, f_longest, f_leastAt, f_greatestAt])), (fa_least, .inl (cI, 6, .inl fc_least)), (fa_greatest, .inl (cI, 6, .inl fc_greatest))]
set_option maxHeartbeats 8000000 in
set_option maxRecDepth 100000 in
theorem s_X0_castFits (l : Launch) (dC : Nat → ClassId) (dI : Nat → Nat → Nat) (cI cJ cZ : ClassId) (fh : Nat) (f_isReached : Int32) (fa_least : Nat) (fa_greatest : Nat) (f_sites : Value) (f_maybeNull : Value) (f_known : Value) (f_lanes : Value) (f_shortest : Value) (f_longest : Value) (f_leastAt : Value) (f_greatestAt : Value) (fc_least : Nat → Int32) (fc_greatest : Nat → Int32) (la : Int32) (ya : Int32) (sz : Nat) (q_f_isReached : kZ f_isReached) (hy_ya : V6 ya) : Met l yX0_castFits v_X0_castFits ({ frames := 1, cells := 0, slots := 0, locals := 20 }) (va_Pc [.ref fh, .int la, .int ya] (cPre dC dI cI cJ cZ sz (sw_X0_castFits cI cJ cZ fh f_isReached fa_least fa_greatest f_sites f_maybeNull f_known f_lanes f_shortest f_longest f_leastAt f_greatestAt fc_least fc_greatest la ya))) (va_Qi (fun (r : Int32) (u : Unit) => (two r ((la.toInt = 0 → -128 ≤ (fc_least (ya).toNatClampNeg).toInt ∧ (fc_greatest (ya).toNatClampNeg).toInt ≤ 127) ∧ (la.toInt = 1 → 0 ≤ (fc_least (ya).toNatClampNeg).toInt ∧ (fc_greatest (ya).toNatClampNeg).toInt ≤ 65535)) 1 0)) (fun (u : Unit) => cPost dC dI cI cJ cZ (va_A (sw_X0_castFits cI cJ cZ fh f_isReached fa_least fa_greatest f_sites f_maybeNull f_known f_lanes f_shortest f_longest f_leastAt f_greatestAt fc_least fc_greatest la ya) sz) [(fh, .inr (0, [.int f_isReached, .ref fa_least, .ref fa_greatest, f_sites, f_maybeNull, f_known, f_lanes, f_shortest, f_longest, f_leastAt, f_greatestAt])), (fa_least, .inl (cI, 6, .inl fc_least)), (fa_greatest, .inl (cI, 6, .inl fc_greatest))]) (va_A (sw_X0_castFits cI cJ cZ fh f_isReached fa_least fa_greatest f_sites f_maybeNull f_known f_lanes f_shortest f_longest f_leastAt f_greatestAt fc_least fc_greatest la ya) sz)) 0 0 (va_A (sw_X0_castFits cI cJ cZ fh f_isReached fa_least fa_greatest f_sites f_maybeNull f_known f_lanes f_shortest f_longest f_leastAt f_greatestAt fc_least fc_greatest la ya) sz) := by
  refine Met.ofW (cc := cX0_castFits) (maxL := 3) (ret := (some .boolean)) (by decide) rfl ?_
  intro p e s m args below meth c s₁ B hml hv
  obtain ⟨rfl, hsz, hP, hK, hD0, hN⟩ := hv
  have hx := B.exec
  have hb := B.bytes
  have hr := B.returns
  have hts := atoms_spec (ws := v_X0_castFits) B.pre
  have hown : s.vm.findClass RX0 = some m.cls := findClass_of_methodNamed B.named
  have hlocks := B.notSynchronized
  subst hsz
  have hD := hD0.self (sz := s.heap.size)
  generalize hAe : va_A (sw_X0_castFits cI cJ cZ fh f_isReached fa_least fa_greatest f_sites f_maybeNull f_known f_lanes f_shortest f_longest f_leastAt f_greatestAt fc_least fc_greatest la ya) s.heap.size = A at hD ⊢
  have hA : ∀ q : Nat, s.heap.size ≤ q → A q := fun q h => by rw [← hAe]; exact Or.inr h
  clear hAe hD0
  have hS : va_S A s.heap s.heap [] := va_S.rf
  replace hP : va_P (dC, dI) vwCl [(fh, .inr (0, [.int f_isReached, .ref fa_least, .ref fa_greatest, f_sites, f_maybeNull, f_known, f_lanes, f_shortest, f_longest, f_leastAt, f_greatestAt])), (fa_least, .inl (cI, 6, .inl fc_least)), (fa_greatest, .inl (cI, 6, .inl fc_greatest))] s.heap := hP
  replace hD : va_D A [(fh, .inr (0, [.int f_isReached, .ref fa_least, .ref fa_greatest, f_sites, f_maybeNull, f_known, f_lanes, f_shortest, f_longest, f_leastAt, f_greatestAt])), (fa_least, .inl (cI, 6, .inl fc_least)), (fa_greatest, .inl (cI, 6, .inl fc_greatest))] := hD
  have hl := lv_entry ([.ref fh, .int la, .int ya]) (n := 3) (Nat.le_of_ble_eq_true rfl)
  rw [lg_entry_eq]
  generalize (lg_sl ([.ref fh, .int la, .int ya]) ++ List.replicate (3 - (lg_sl ([.ref fh, .int la, .int ya])).length) Slot.unset).toArray = ls at hl ⊢
  replace hl : lv_has ls 3 [(0, .ref fh), (1, .int la), (2, .int ya)] := hl
  have z_0 : (0 : Int32).toInt = 0 := by decide
  have z_1 : (1 : Int32).toInt = 1 := by decide
  refine lv_aload_n hx hb dX0_castFits_0 rfl (lv_at hl 0 rfl) ?_
  refine va_get (D := (dC, dI)) (ci := 0) (v := .ref fa_least) (C := RX0) (T := TX0) (N := 11) hx hb hts inv_X0_castFits_X0 hown hK hP 0 rfl rfl 1 (by decide) (hts (.fieldLink RX0 15 "ArraySegments$Facts" "least" "[I") (List.mem_of_getElem? (i := 1) rfl)) (fun _ h9 => h9) rfl dX0_castFits_1 ?_
  refine lv_iload_n hx hb dX0_castFits_4 rfl (lv_at hl 2 rfl) ?_
  refine sf_iald kT hx hb hK hP 1 0 rfl rfl (fun _ => trivial) (vp_in_iff.mpr ⟨by omega, by omega⟩) dX0_castFits_5 (fun v_1 q_v_1 e_v_1 => ?_)
  have et_v_1 : v_1.toInt = (fc_least (ya).toNatClampNeg).toInt := by rw [e_v_1]
  have ni_2 := nn_cl (z := ya) (by omega)
  have ir_v_1 := i32r v_1
  refine lv_iload_n hx hb dX0_castFits_6 rfl (lv_at hl 1 rfl) ?_
  refine vp_callSi (va_runSN (As := [.int la]) (rest := [.int v_1]) ⟨hx, hb, hml, hown, hts⟩ (s_X4_leastOfLane l la) (⟨va_cnB 1 hts h_X0_castFits_X4_leastOfLane_91 rfl rfl rfl (hN.2.2.2.2.2.2.2.2.2.1) (hts (.initialized RX4) (List.mem_of_getElem? (i := 2) rfl)) (by decide +kernel) ⟨Nat.le_of_ble_eq_true rfl, Nat.le_of_ble_eq_true rfl⟩, hts (.static yX4_leastOfLane) (List.mem_of_getElem? (i := 3) rfl), trivial⟩) ⟨fun _ _ _ _ q => q, fun _ _ _ => ⟨rfl, trivial⟩⟩ rfl rfl hl.1 rfl (lv_room (Nat.le_of_ble_eq_true rfl)) dX0_castFits_7 ⟨Nat.le_of_ble_eq_true rfl, Nat.le_of_ble_eq_true rfl⟩).run (fun r_3 hw_3 => ?_)
  replace hw_3 : ((la.toInt = 0 → r_3.toInt = -128) ∧ (la.toInt = 1 → r_3.toInt = 0) ∧ (¬ la.toInt = 0 → ¬ la.toInt = 1 → r_3.toInt = -2147483648)) := hw_3
  have q_r_3 := hw_3
  refine lv_icmp_lt (tgt := 30) hx hb dX0_castFits_10 (by decide) (fun c_4 => ?_) (fun c_4 => ?_)
  · -- yes
    have k_4 : v_1.toInt < r_3.toInt := ci_lt c_4
    refine lv_iconst (v := 0) hx hb dX0_castFits_30 (by decide) ?_
    have hP9 := hP.sub (ws' := [(fh, .inr (0, [.int f_isReached, .ref fa_least, .ref fa_greatest, f_sites, f_maybeNull, f_known, f_lanes, f_shortest, f_longest, f_leastAt, f_greatestAt])), (fa_least, .inl (cI, 6, .inl fc_least)), (fa_greatest, .inl (cI, 6, .inl fc_greatest))]) [0, 1, 2] rfl
    have hD9 := hD.sub (ws' := [(fh, .inr (0, [.int f_isReached, .ref fa_least, .ref fa_greatest, f_sites, f_maybeNull, f_known, f_lanes, f_shortest, f_longest, f_leastAt, f_greatestAt])), (fa_least, .inl (cI, 6, .inl fc_least)), (fa_greatest, .inl (cI, 6, .inl fc_greatest))]) [0, 1, 2] (by decide) rfl
    exact W.zret (v := 0) (ty := .boolean) hx hb hr rfl (fun t ht hW => ⟨⟨0, (), rfl, (show two (0 : Int32) ((la.toInt = 0 → -128 ≤ (fc_least (ya).toNatClampNeg).toInt ∧ (fc_greatest (ya).toNatClampNeg).toInt ≤ 127) ∧ (la.toInt = 1 → 0 ≤ (fc_least (ya).toNatClampNeg).toInt ∧ (fc_greatest (ya).toNatClampNeg).toInt ≤ 65535)) 1 0 from (by first | (refine Or.inl ⟨rfl, ?_⟩; omega) | (refine Or.inr ⟨rfl, ?_⟩; omega))), by rw [ht]; exact hP9, va_K.moved hW.alike hK, hD9⟩, hS.F ht⟩) hS.2.2 dX0_castFits_31
  · -- no
    have k_4 : r_3.toInt ≤ v_1.toInt := ci_nlt c_4
    refine lv_aload_n hx hb dX0_castFits_13 rfl (lv_at hl 0 rfl) ?_
    refine va_get (D := (dC, dI)) (ci := 0) (v := .ref fa_greatest) (C := RX0) (T := TX0) (N := 11) hx hb hts inv_X0_castFits_X0 hown hK hP 0 rfl rfl 2 (by decide) (hts (.fieldLink RX0 19 "ArraySegments$Facts" "greatest" "[I") (List.mem_of_getElem? (i := 4) rfl)) (fun _ h9 => h9) rfl dX0_castFits_14 ?_
    refine lv_iload_n hx hb dX0_castFits_17 rfl (lv_at hl 2 rfl) ?_
    refine sf_iald kT hx hb hK hP 2 0 rfl rfl (fun _ => trivial) (vp_in_iff.mpr ⟨by omega, by omega⟩) dX0_castFits_18 (fun v_5 q_v_5 e_v_5 => ?_)
    have et_v_5 : v_5.toInt = (fc_greatest (ya).toNatClampNeg).toInt := by rw [e_v_5]
    have ni_6 := nn_cl (z := ya) (by omega)
    have ir_v_5 := i32r v_5
    refine lv_iload_n hx hb dX0_castFits_19 rfl (lv_at hl 1 rfl) ?_
    refine vp_callSi (va_runSN (As := [.int la]) (rest := [.int v_5]) ⟨hx, hb, hml, hown, hts⟩ (s_X4_greatestOfLane l la) (⟨va_cnB 1 hts h_X0_castFits_X4_greatestOfLane_95 rfl rfl rfl (hN.2.2.2.2.2.2.2.2.2.2) (hts (.initialized RX4) (List.mem_of_getElem? (i := 2) rfl)) (by decide +kernel) ⟨Nat.le_of_ble_eq_true rfl, Nat.le_of_ble_eq_true rfl⟩, hts (.static yX4_greatestOfLane) (List.mem_of_getElem? (i := 5) rfl), trivial⟩) ⟨fun _ _ _ _ q => q, fun _ _ _ => ⟨rfl, trivial⟩⟩ rfl rfl hl.1 rfl (lv_room (Nat.le_of_ble_eq_true rfl)) dX0_castFits_20 ⟨Nat.le_of_ble_eq_true rfl, Nat.le_of_ble_eq_true rfl⟩).run (fun r_7 hw_7 => ?_)
    replace hw_7 : ((la.toInt = 0 → r_7.toInt = 127) ∧ (la.toInt = 1 → r_7.toInt = 65535) ∧ (¬ la.toInt = 0 → ¬ la.toInt = 1 → r_7.toInt = 2147483647)) := hw_7
    have q_r_7 := hw_7
    refine lv_icmp_gt (tgt := 30) hx hb dX0_castFits_23 (by decide) (fun c_8 => ?_) (fun c_8 => ?_)
    · -- yes
      have k_8 : r_7.toInt < v_5.toInt := ci_gt c_8
      refine lv_iconst (v := 0) hx hb dX0_castFits_30 (by decide) ?_
      have hP9 := hP.sub (ws' := [(fh, .inr (0, [.int f_isReached, .ref fa_least, .ref fa_greatest, f_sites, f_maybeNull, f_known, f_lanes, f_shortest, f_longest, f_leastAt, f_greatestAt])), (fa_least, .inl (cI, 6, .inl fc_least)), (fa_greatest, .inl (cI, 6, .inl fc_greatest))]) [0, 1, 2] rfl
      have hD9 := hD.sub (ws' := [(fh, .inr (0, [.int f_isReached, .ref fa_least, .ref fa_greatest, f_sites, f_maybeNull, f_known, f_lanes, f_shortest, f_longest, f_leastAt, f_greatestAt])), (fa_least, .inl (cI, 6, .inl fc_least)), (fa_greatest, .inl (cI, 6, .inl fc_greatest))]) [0, 1, 2] (by decide) rfl
      exact W.zret (v := 0) (ty := .boolean) hx hb hr rfl (fun t ht hW => ⟨⟨0, (), rfl, (show two (0 : Int32) ((la.toInt = 0 → -128 ≤ (fc_least (ya).toNatClampNeg).toInt ∧ (fc_greatest (ya).toNatClampNeg).toInt ≤ 127) ∧ (la.toInt = 1 → 0 ≤ (fc_least (ya).toNatClampNeg).toInt ∧ (fc_greatest (ya).toNatClampNeg).toInt ≤ 65535)) 1 0 from (by first | (refine Or.inl ⟨rfl, ?_⟩; omega) | (refine Or.inr ⟨rfl, ?_⟩; omega))), by rw [ht]; exact hP9, va_K.moved hW.alike hK, hD9⟩, hS.F ht⟩) hS.2.2 dX0_castFits_31
    · -- no
      have k_8 : v_5.toInt ≤ r_7.toInt := ci_ngt c_8
      refine lv_iconst (v := 1) hx hb dX0_castFits_26 (by decide) ?_
      refine lv_goto (tgt := 31) hx hb dX0_castFits_27 (by decide) ?_
      have hP9 := hP.sub (ws' := [(fh, .inr (0, [.int f_isReached, .ref fa_least, .ref fa_greatest, f_sites, f_maybeNull, f_known, f_lanes, f_shortest, f_longest, f_leastAt, f_greatestAt])), (fa_least, .inl (cI, 6, .inl fc_least)), (fa_greatest, .inl (cI, 6, .inl fc_greatest))]) [0, 1, 2] rfl
      have hD9 := hD.sub (ws' := [(fh, .inr (0, [.int f_isReached, .ref fa_least, .ref fa_greatest, f_sites, f_maybeNull, f_known, f_lanes, f_shortest, f_longest, f_leastAt, f_greatestAt])), (fa_least, .inl (cI, 6, .inl fc_least)), (fa_greatest, .inl (cI, 6, .inl fc_greatest))]) [0, 1, 2] (by decide) rfl
      exact W.zret (v := 1) (ty := .boolean) hx hb hr rfl (fun t ht hW => ⟨⟨1, (), rfl, (show two (1 : Int32) ((la.toInt = 0 → -128 ≤ (fc_least (ya).toNatClampNeg).toInt ∧ (fc_greatest (ya).toNatClampNeg).toInt ≤ 127) ∧ (la.toInt = 1 → 0 ≤ (fc_least (ya).toNatClampNeg).toInt ∧ (fc_greatest (ya).toNatClampNeg).toInt ≤ 65535)) 1 0 from (by first | (refine Or.inl ⟨rfl, ?_⟩; omega) | (refine Or.inr ⟨rfl, ?_⟩; omega))), by rw [ht]; exact hP9, va_K.moved hW.alike hK, hD9⟩, hS.F ht⟩) hS.2.2 dX0_castFits_31

def v_X0_castLeast : List Cond := .code yX0_castLeast cX0_castLeast 3 (some .int) :: ([.methodLink RX0 98 yX0_castFits, .instanceMethod yX0_castFits, .selects RX0 yX0_castFits yX0_castFits, .initialized RX0, .initialized RX4, .static yX4_leastOfLane, .fieldLink RX0 15 "ArraySegments$Facts" "least" "[I"] ++ (wsX00 ++ (v_X0_castFits ++ (v_X4_leastOfLane))))
theorem inv_X0_castLeast_X0 : ∀ w ∈ wsX00, w ∈ v_X0_castLeast := fun _ h => List.mem_cons_of_mem _ (List.mem_append_right _ (List.mem_append_left _ h))
theorem im_X0_castLeast_X0_castFits : ∀ w ∈ v_X0_castFits, w ∈ v_X0_castLeast := fun _ h => List.mem_cons_of_mem _ (List.mem_append_right _ (List.mem_append_right _ (List.mem_append_left _ h)))
theorem im_X0_castLeast_X4_leastOfLane : ∀ w ∈ v_X4_leastOfLane, w ∈ v_X0_castLeast := fun _ h => List.mem_cons_of_mem _ (List.mem_append_right _ (List.mem_append_right _ (List.mem_append_right _ (h))))
set_option maxRecDepth 20000 in
theorem gd_X0_castLeast : gdL v_X0_castLeast := gdC (gdW (by decide +kernel)) (gdA (gdW (by decide +kernel)) (gdA gd_wsX00 (gdA gd_X0_castFits gd_X4_leastOfLane)))
set_option maxRecDepth 20000 in
theorem h_X0_castLeast_X0_castFits_98 : GoodIn v_X0_castLeast (wsV RX0 98 RX0 yX0_castFits v_X0_castFits) := gdI [1, 2, 3, 4] rfl (by decide +kernel) (im_X0_castLeast_X0_castFits) gd_X0_castFits
theorem h_X0_castLeast_X4_leastOfLane_91 : GoodIn v_X0_castLeast (v_X4_leastOfLane) := fun w h => ⟨im_X0_castLeast_X4_leastOfLane w h, gd_X4_leastOfLane w h⟩
abbrev sw_X0_castLeast (cI cJ cZ : ClassId) (fh : Nat) (f_isReached : Int32) (fa_least : Nat) (fa_greatest : Nat) (f_sites : Value) (f_maybeNull : Value) (f_known : Value) (f_lanes : Value) (f_shortest : Value) (f_longest : Value) (f_leastAt : Value) (f_greatestAt : Value) (fc_least : Nat → Int32) (fc_greatest : Nat → Int32) (la : Int32) (ya : Int32) : va_W := [(fh, .inr (0, [.int f_isReached, .ref fa_least, .ref fa_greatest, f_sites, f_maybeNull, f_known, f_lanes, f_shortest, f_longest, f_leastAt, f_greatestAt])), (fa_least, .inl (cI, 6, .inl fc_least)), (fa_greatest, .inl (cI, 6, .inl fc_greatest))]
set_option maxHeartbeats 8000000 in
set_option maxRecDepth 100000 in
theorem s_X0_castLeast (l : Launch) (dC : Nat → ClassId) (dI : Nat → Nat → Nat) (cI cJ cZ : ClassId) (fh : Nat) (f_isReached : Int32) (fa_least : Nat) (fa_greatest : Nat) (f_sites : Value) (f_maybeNull : Value) (f_known : Value) (f_lanes : Value) (f_shortest : Value) (f_longest : Value) (f_leastAt : Value) (f_greatestAt : Value) (fc_least : Nat → Int32) (fc_greatest : Nat → Int32) (la : Int32) (ya : Int32) (sz : Nat) (q_f_isReached : kZ f_isReached) (hy_ya : V6 ya) : Met l yX0_castLeast v_X0_castLeast ({ frames := 2, cells := 0, slots := 0, locals := 42 }) (va_Pc [.ref fh, .int la, .int ya] (cPre dC dI cI cJ cZ sz (sw_X0_castLeast cI cJ cZ fh f_isReached fa_least fa_greatest f_sites f_maybeNull f_known f_lanes f_shortest f_longest f_leastAt f_greatestAt fc_least fc_greatest la ya))) (va_Qi (fun (r : Int32) (u : Unit) => (∀ n w : Int, (fc_least (ya).toNatClampNeg).toInt ≤ n → n ≤ (fc_greatest (ya).toNatClampNeg).toInt → castR la.toInt n w → r.toInt ≤ w)) (fun (u : Unit) => cPost dC dI cI cJ cZ (va_A (sw_X0_castLeast cI cJ cZ fh f_isReached fa_least fa_greatest f_sites f_maybeNull f_known f_lanes f_shortest f_longest f_leastAt f_greatestAt fc_least fc_greatest la ya) sz) [(fh, .inr (0, [.int f_isReached, .ref fa_least, .ref fa_greatest, f_sites, f_maybeNull, f_known, f_lanes, f_shortest, f_longest, f_leastAt, f_greatestAt])), (fa_least, .inl (cI, 6, .inl fc_least)), (fa_greatest, .inl (cI, 6, .inl fc_greatest))]) (va_A (sw_X0_castLeast cI cJ cZ fh f_isReached fa_least fa_greatest f_sites f_maybeNull f_known f_lanes f_shortest f_longest f_leastAt f_greatestAt fc_least fc_greatest la ya) sz)) 0 0 (va_A (sw_X0_castLeast cI cJ cZ fh f_isReached fa_least fa_greatest f_sites f_maybeNull f_known f_lanes f_shortest f_longest f_leastAt f_greatestAt fc_least fc_greatest la ya) sz) := by
  refine Met.ofW (cc := cX0_castLeast) (maxL := 3) (ret := (some .int)) (by decide) rfl ?_
  intro p e s m args below meth c s₁ B hml hv
  obtain ⟨rfl, hsz, hP, hK, hD0, hN⟩ := hv
  have hx := B.exec
  have hb := B.bytes
  have hr := B.returns
  have hts := atoms_spec (ws := v_X0_castLeast) B.pre
  have hown : s.vm.findClass RX0 = some m.cls := findClass_of_methodNamed B.named
  have hlocks := B.notSynchronized
  subst hsz
  have hD := hD0.self (sz := s.heap.size)
  generalize hAe : va_A (sw_X0_castLeast cI cJ cZ fh f_isReached fa_least fa_greatest f_sites f_maybeNull f_known f_lanes f_shortest f_longest f_leastAt f_greatestAt fc_least fc_greatest la ya) s.heap.size = A at hD ⊢
  have hA : ∀ q : Nat, s.heap.size ≤ q → A q := fun q h => by rw [← hAe]; exact Or.inr h
  clear hAe hD0
  have hS : va_S A s.heap s.heap [] := va_S.rf
  replace hP : va_P (dC, dI) vwCl [(fh, .inr (0, [.int f_isReached, .ref fa_least, .ref fa_greatest, f_sites, f_maybeNull, f_known, f_lanes, f_shortest, f_longest, f_leastAt, f_greatestAt])), (fa_least, .inl (cI, 6, .inl fc_least)), (fa_greatest, .inl (cI, 6, .inl fc_greatest))] s.heap := hP
  replace hD : va_D A [(fh, .inr (0, [.int f_isReached, .ref fa_least, .ref fa_greatest, f_sites, f_maybeNull, f_known, f_lanes, f_shortest, f_longest, f_leastAt, f_greatestAt])), (fa_least, .inl (cI, 6, .inl fc_least)), (fa_greatest, .inl (cI, 6, .inl fc_greatest))] := hD
  have hl := lv_entry ([.ref fh, .int la, .int ya]) (n := 3) (Nat.le_of_ble_eq_true rfl)
  rw [lg_entry_eq]
  generalize (lg_sl ([.ref fh, .int la, .int ya]) ++ List.replicate (3 - (lg_sl ([.ref fh, .int la, .int ya])).length) Slot.unset).toArray = ls at hl ⊢
  replace hl : lv_has ls 3 [(0, .ref fh), (1, .int la), (2, .int ya)] := hl
  have z_0 : (0 : Int32).toInt = 0 := by decide
  have z_1 : (1 : Int32).toInt = 1 := by decide
  have ir_l := i32r (fc_least (ya).toNatClampNeg)
  have ir_g := i32r (fc_greatest (ya).toNatClampNeg)
  refine lv_aload_n hx hb dX0_castLeast_0 rfl (lv_at hl 0 rfl) ?_
  refine lv_iload_n hx hb dX0_castLeast_1 rfl (lv_at hl 1 rfl) ?_
  refine lv_iload_n hx hb dX0_castLeast_2 rfl (lv_at hl 2 rfl) ?_
  have hPc := hP.sub (ws' := [(fh, .inr (0, [.int f_isReached, .ref fa_least, .ref fa_greatest, f_sites, f_maybeNull, f_known, f_lanes, f_shortest, f_longest, f_leastAt, f_greatestAt])), (fa_least, .inl (cI, 6, .inl fc_least)), (fa_greatest, .inl (cI, 6, .inl fc_greatest))]) [0, 1, 2] rfl
  have hDc := hD.sub (ws' := [(fh, .inr (0, [.int f_isReached, .ref fa_least, .ref fa_greatest, f_sites, f_maybeNull, f_known, f_lanes, f_shortest, f_longest, f_leastAt, f_greatestAt])), (fa_least, .inl (cI, 6, .inl fc_least)), (fa_greatest, .inl (cI, 6, .inl fc_greatest))]) [0, 1, 2] (by decide) rfl
  have hFc := va_free (wc := [(fh, .inr (0, [.int f_isReached, .ref fa_least, .ref fa_greatest, f_sites, f_maybeNull, f_known, f_lanes, f_shortest, f_longest, f_leastAt, f_greatestAt])), (fa_least, .inl (cI, 6, .inl fc_least)), (fa_greatest, .inl (cI, 6, .inl fc_greatest))]) hD hS hA [0, 1, 2] rfl
  refine va_calli (va_runV (As := [.int la, .int ya]) (rest := []) ⟨hx, hb, hml, hown, hts⟩ (s_X0_castFits l dC dI cI cJ cZ fh f_isReached fa_least fa_greatest f_sites f_maybeNull f_known f_lanes f_shortest f_longest f_leastAt f_greatestAt fc_least fc_greatest la ya s.heap.size q_f_isReached (by first | assumption | omega)) (cwV 2 hts h_X0_castLeast_X0_castFits_98 rfl rfl rfl (by decide +kernel) ⟨Nat.le_of_ble_eq_true rfl, Nat.le_of_ble_eq_true rfl⟩) ⟨cPre_blind, va_recv hK hPc (ci := 0) (q0 := 0) rfl rfl, cPre_of hK hN hPc hDc⟩ rfl rfl hl.1 rfl (lv_room (Nat.le_of_ble_eq_true rfl)) dX0_castLeast_3 ⟨Nat.le_of_ble_eq_true rfl, Nat.le_of_ble_eq_true rfl⟩) hS (fun q _ h => hFc q h) hFc (fun r_1 u_1 t_1 H_1 locs_1 ht hvm hw_1 hB hz1 hk1 hS1 => ?_)
  obtain ⟨hP1, hK1, hD1⟩ := hB
  rw [ht] at hP1
  obtain ⟨hP2, hD2⟩ := va_join (wr := []) (w1 := [(fh, .inr (0, [.int f_isReached, .ref fa_least, .ref fa_greatest, f_sites, f_maybeNull, f_known, f_lanes, f_shortest, f_longest, f_leastAt, f_greatestAt])), (fa_least, .inl (cI, 6, .inl fc_least)), (fa_greatest, .inl (cI, 6, .inl fc_greatest))]) hP hD [0, 1, 2] [] rfl rfl (by decide) (by decide) hk1 hFc hP1 hD1
  clear hPc hDc hFc hP1 hD1 hK1 hk1 hz1 hvm ht
  replace hP : va_P (dC, dI) vwCl [(fh, .inr (0, [.int f_isReached, .ref fa_least, .ref fa_greatest, f_sites, f_maybeNull, f_known, f_lanes, f_shortest, f_longest, f_leastAt, f_greatestAt])), (fa_least, .inl (cI, 6, .inl fc_least)), (fa_greatest, .inl (cI, 6, .inl fc_greatest))] H_1 := hP2
  replace hD : va_D A [(fh, .inr (0, [.int f_isReached, .ref fa_least, .ref fa_greatest, f_sites, f_maybeNull, f_known, f_lanes, f_shortest, f_longest, f_leastAt, f_greatestAt])), (fa_least, .inl (cI, 6, .inl fc_least)), (fa_greatest, .inl (cI, 6, .inl fc_greatest))] := hD2
  replace hS := hS1
  clear hP2 hD2 hS1
  replace hw_1 : (two r_1 ((la.toInt = 0 → -128 ≤ (fc_least (ya).toNatClampNeg).toInt ∧ (fc_greatest (ya).toNatClampNeg).toInt ≤ 127) ∧ (la.toInt = 1 → 0 ≤ (fc_least (ya).toNatClampNeg).toInt ∧ (fc_greatest (ya).toNatClampNeg).toInt ≤ 65535)) 1 0) := hw_1
  have q_r_1 := hw_1
  refine lv_if_eq (tgt := 18) hx hb dX0_castLeast_6 (by decide) (fun c_2 => ?_) (fun c_2 => ?_)
  · -- yes
    have k_2 : r_1.toInt = (0 : Int32).toInt := ci_eq c_2
    have kt_2 : ¬ ((la.toInt = 0 → -128 ≤ (fc_least (ya).toNatClampNeg).toInt ∧ (fc_greatest (ya).toNatClampNeg).toInt ≤ 127) ∧ (la.toInt = 1 → 0 ≤ (fc_least (ya).toNatClampNeg).toInt ∧ (fc_greatest (ya).toNatClampNeg).toInt ≤ 65535)) := two_z q_r_1 c_2
    refine lv_iload_n hx hb dX0_castLeast_18 rfl (lv_at hl 1 rfl) ?_
    refine vp_callSi (va_runSN (As := [.int la]) (rest := []) ⟨hx, hb, hml, hown, hts⟩ (s_X4_leastOfLane l la) (⟨va_cnB 1 hts h_X0_castLeast_X4_leastOfLane_91 rfl rfl rfl (hN.2.2.2.2.2.2.2.2.2.1) (hts (.initialized RX4) (List.mem_of_getElem? (i := 5) rfl)) (by decide +kernel) ⟨Nat.le_of_ble_eq_true rfl, Nat.le_of_ble_eq_true rfl⟩, hts (.static yX4_leastOfLane) (List.mem_of_getElem? (i := 6) rfl), trivial⟩) ⟨fun _ _ _ _ q => q, fun _ _ _ => ⟨rfl, trivial⟩⟩ rfl rfl hl.1 rfl (lv_room (Nat.le_of_ble_eq_true rfl)) dX0_castLeast_19 ⟨Nat.le_of_ble_eq_true rfl, Nat.le_of_ble_eq_true rfl⟩).run (fun r_3 hw_3 => ?_)
    replace hw_3 : ((la.toInt = 0 → r_3.toInt = -128) ∧ (la.toInt = 1 → r_3.toInt = 0) ∧ (¬ la.toInt = 0 → ¬ la.toInt = 1 → r_3.toInt = -2147483648)) := hw_3
    have q_r_3 := hw_3
    have hP9 := hP.sub (ws' := [(fh, .inr (0, [.int f_isReached, .ref fa_least, .ref fa_greatest, f_sites, f_maybeNull, f_known, f_lanes, f_shortest, f_longest, f_leastAt, f_greatestAt])), (fa_least, .inl (cI, 6, .inl fc_least)), (fa_greatest, .inl (cI, 6, .inl fc_greatest))]) [0, 1, 2] rfl
    have hD9 := hD.sub (ws' := [(fh, .inr (0, [.int f_isReached, .ref fa_least, .ref fa_greatest, f_sites, f_maybeNull, f_known, f_lanes, f_shortest, f_longest, f_leastAt, f_greatestAt])), (fa_least, .inl (cI, 6, .inl fc_least)), (fa_greatest, .inl (cI, 6, .inl fc_greatest))]) [0, 1, 2] (by decide) rfl
    exact W.iret (v := r_3) hx hb hr (fun t ht hW => ⟨⟨r_3, (), rfl, (show ∀ n w : Int, (fc_least (ya).toNatClampNeg).toInt ≤ n → n ≤ (fc_greatest (ya).toNatClampNeg).toInt → castR la.toInt n w → r_3.toInt ≤ w from (fun n w h1 h2 h3 => by omega)), by rw [ht]; exact hP9, va_K.moved hW.alike hK, hD9⟩, hS.F ht⟩) hS.2.2 dX0_castLeast_22
  · -- no
    have k_2 : ¬ r_1.toInt = (0 : Int32).toInt := ci_ne c_2
    have kt_2 : (la.toInt = 0 → -128 ≤ (fc_least (ya).toNatClampNeg).toInt ∧ (fc_greatest (ya).toNatClampNeg).toInt ≤ 127) ∧ (la.toInt = 1 → 0 ≤ (fc_least (ya).toNatClampNeg).toInt ∧ (fc_greatest (ya).toNatClampNeg).toInt ≤ 65535) := two_nz q_r_1 c_2
    refine lv_aload_n hx hb dX0_castLeast_9 rfl (lv_at hl 0 rfl) ?_
    refine va_get (D := (dC, dI)) (ci := 0) (v := .ref fa_least) (C := RX0) (T := TX0) (N := 11) hx hb hts inv_X0_castLeast_X0 hown hK hP 0 rfl rfl 1 (by decide) (hts (.fieldLink RX0 15 "ArraySegments$Facts" "least" "[I") (List.mem_of_getElem? (i := 7) rfl)) (fun _ h9 => h9) rfl dX0_castLeast_10 ?_
    refine lv_iload_n hx hb dX0_castLeast_13 rfl (lv_at hl 2 rfl) ?_
    refine sf_iald kT hx hb hK hP 1 0 rfl rfl (fun _ => trivial) (vp_in_iff.mpr ⟨by omega, by omega⟩) dX0_castLeast_14 (fun v_4 q_v_4 e_v_4 => ?_)
    have et_v_4 : v_4.toInt = (fc_least (ya).toNatClampNeg).toInt := by rw [e_v_4]
    have ni_5 := nn_cl (z := ya) (by omega)
    have ir_v_4 := i32r v_4
    refine lv_goto (tgt := 22) hx hb dX0_castLeast_15 (by decide) ?_
    have hP9 := hP.sub (ws' := [(fh, .inr (0, [.int f_isReached, .ref fa_least, .ref fa_greatest, f_sites, f_maybeNull, f_known, f_lanes, f_shortest, f_longest, f_leastAt, f_greatestAt])), (fa_least, .inl (cI, 6, .inl fc_least)), (fa_greatest, .inl (cI, 6, .inl fc_greatest))]) [0, 1, 2] rfl
    have hD9 := hD.sub (ws' := [(fh, .inr (0, [.int f_isReached, .ref fa_least, .ref fa_greatest, f_sites, f_maybeNull, f_known, f_lanes, f_shortest, f_longest, f_leastAt, f_greatestAt])), (fa_least, .inl (cI, 6, .inl fc_least)), (fa_greatest, .inl (cI, 6, .inl fc_greatest))]) [0, 1, 2] (by decide) rfl
    exact W.iret (v := v_4) hx hb hr (fun t ht hW => ⟨⟨v_4, (), rfl, (show ∀ n w : Int, (fc_least (ya).toNatClampNeg).toInt ≤ n → n ≤ (fc_greatest (ya).toNatClampNeg).toInt → castR la.toInt n w → v_4.toInt ≤ w from (fun n w h1 h2 h3 => by omega)), by rw [ht]; exact hP9, va_K.moved hW.alike hK, hD9⟩, hS.F ht⟩) hS.2.2 dX0_castLeast_22

def v_X0_castGreatest : List Cond := .code yX0_castGreatest cX0_castGreatest 3 (some .int) :: ([.methodLink RX0 98 yX0_castFits, .instanceMethod yX0_castFits, .selects RX0 yX0_castFits yX0_castFits, .initialized RX0, .initialized RX4, .static yX4_greatestOfLane, .fieldLink RX0 19 "ArraySegments$Facts" "greatest" "[I"] ++ (wsX00 ++ (v_X0_castFits ++ (v_X4_greatestOfLane))))
theorem inv_X0_castGreatest_X0 : ∀ w ∈ wsX00, w ∈ v_X0_castGreatest := fun _ h => List.mem_cons_of_mem _ (List.mem_append_right _ (List.mem_append_left _ h))
theorem im_X0_castGreatest_X0_castFits : ∀ w ∈ v_X0_castFits, w ∈ v_X0_castGreatest := fun _ h => List.mem_cons_of_mem _ (List.mem_append_right _ (List.mem_append_right _ (List.mem_append_left _ h)))
theorem im_X0_castGreatest_X4_greatestOfLane : ∀ w ∈ v_X4_greatestOfLane, w ∈ v_X0_castGreatest := fun _ h => List.mem_cons_of_mem _ (List.mem_append_right _ (List.mem_append_right _ (List.mem_append_right _ (h))))
set_option maxRecDepth 20000 in
theorem gd_X0_castGreatest : gdL v_X0_castGreatest := gdC (gdW (by decide +kernel)) (gdA (gdW (by decide +kernel)) (gdA gd_wsX00 (gdA gd_X0_castFits gd_X4_greatestOfLane)))
set_option maxRecDepth 20000 in
theorem h_X0_castGreatest_X0_castFits_98 : GoodIn v_X0_castGreatest (wsV RX0 98 RX0 yX0_castFits v_X0_castFits) := gdI [1, 2, 3, 4] rfl (by decide +kernel) (im_X0_castGreatest_X0_castFits) gd_X0_castFits
theorem h_X0_castGreatest_X4_greatestOfLane_95 : GoodIn v_X0_castGreatest (v_X4_greatestOfLane) := fun w h => ⟨im_X0_castGreatest_X4_greatestOfLane w h, gd_X4_greatestOfLane w h⟩
abbrev sw_X0_castGreatest (cI cJ cZ : ClassId) (fh : Nat) (f_isReached : Int32) (fa_least : Nat) (fa_greatest : Nat) (f_sites : Value) (f_maybeNull : Value) (f_known : Value) (f_lanes : Value) (f_shortest : Value) (f_longest : Value) (f_leastAt : Value) (f_greatestAt : Value) (fc_least : Nat → Int32) (fc_greatest : Nat → Int32) (la : Int32) (ya : Int32) : va_W := [(fh, .inr (0, [.int f_isReached, .ref fa_least, .ref fa_greatest, f_sites, f_maybeNull, f_known, f_lanes, f_shortest, f_longest, f_leastAt, f_greatestAt])), (fa_least, .inl (cI, 6, .inl fc_least)), (fa_greatest, .inl (cI, 6, .inl fc_greatest))]
set_option maxHeartbeats 8000000 in
set_option maxRecDepth 100000 in
theorem s_X0_castGreatest (l : Launch) (dC : Nat → ClassId) (dI : Nat → Nat → Nat) (cI cJ cZ : ClassId) (fh : Nat) (f_isReached : Int32) (fa_least : Nat) (fa_greatest : Nat) (f_sites : Value) (f_maybeNull : Value) (f_known : Value) (f_lanes : Value) (f_shortest : Value) (f_longest : Value) (f_leastAt : Value) (f_greatestAt : Value) (fc_least : Nat → Int32) (fc_greatest : Nat → Int32) (la : Int32) (ya : Int32) (sz : Nat) (q_f_isReached : kZ f_isReached) (hy_ya : V6 ya) : Met l yX0_castGreatest v_X0_castGreatest ({ frames := 2, cells := 0, slots := 0, locals := 42 }) (va_Pc [.ref fh, .int la, .int ya] (cPre dC dI cI cJ cZ sz (sw_X0_castGreatest cI cJ cZ fh f_isReached fa_least fa_greatest f_sites f_maybeNull f_known f_lanes f_shortest f_longest f_leastAt f_greatestAt fc_least fc_greatest la ya))) (va_Qi (fun (r : Int32) (u : Unit) => (∀ n w : Int, (fc_least (ya).toNatClampNeg).toInt ≤ n → n ≤ (fc_greatest (ya).toNatClampNeg).toInt → castR la.toInt n w → w ≤ r.toInt)) (fun (u : Unit) => cPost dC dI cI cJ cZ (va_A (sw_X0_castGreatest cI cJ cZ fh f_isReached fa_least fa_greatest f_sites f_maybeNull f_known f_lanes f_shortest f_longest f_leastAt f_greatestAt fc_least fc_greatest la ya) sz) [(fh, .inr (0, [.int f_isReached, .ref fa_least, .ref fa_greatest, f_sites, f_maybeNull, f_known, f_lanes, f_shortest, f_longest, f_leastAt, f_greatestAt])), (fa_least, .inl (cI, 6, .inl fc_least)), (fa_greatest, .inl (cI, 6, .inl fc_greatest))]) (va_A (sw_X0_castGreatest cI cJ cZ fh f_isReached fa_least fa_greatest f_sites f_maybeNull f_known f_lanes f_shortest f_longest f_leastAt f_greatestAt fc_least fc_greatest la ya) sz)) 0 0 (va_A (sw_X0_castGreatest cI cJ cZ fh f_isReached fa_least fa_greatest f_sites f_maybeNull f_known f_lanes f_shortest f_longest f_leastAt f_greatestAt fc_least fc_greatest la ya) sz) := by
  refine Met.ofW (cc := cX0_castGreatest) (maxL := 3) (ret := (some .int)) (by decide) rfl ?_
  intro p e s m args below meth c s₁ B hml hv
  obtain ⟨rfl, hsz, hP, hK, hD0, hN⟩ := hv
  have hx := B.exec
  have hb := B.bytes
  have hr := B.returns
  have hts := atoms_spec (ws := v_X0_castGreatest) B.pre
  have hown : s.vm.findClass RX0 = some m.cls := findClass_of_methodNamed B.named
  have hlocks := B.notSynchronized
  subst hsz
  have hD := hD0.self (sz := s.heap.size)
  generalize hAe : va_A (sw_X0_castGreatest cI cJ cZ fh f_isReached fa_least fa_greatest f_sites f_maybeNull f_known f_lanes f_shortest f_longest f_leastAt f_greatestAt fc_least fc_greatest la ya) s.heap.size = A at hD ⊢
  have hA : ∀ q : Nat, s.heap.size ≤ q → A q := fun q h => by rw [← hAe]; exact Or.inr h
  clear hAe hD0
  have hS : va_S A s.heap s.heap [] := va_S.rf
  replace hP : va_P (dC, dI) vwCl [(fh, .inr (0, [.int f_isReached, .ref fa_least, .ref fa_greatest, f_sites, f_maybeNull, f_known, f_lanes, f_shortest, f_longest, f_leastAt, f_greatestAt])), (fa_least, .inl (cI, 6, .inl fc_least)), (fa_greatest, .inl (cI, 6, .inl fc_greatest))] s.heap := hP
  replace hD : va_D A [(fh, .inr (0, [.int f_isReached, .ref fa_least, .ref fa_greatest, f_sites, f_maybeNull, f_known, f_lanes, f_shortest, f_longest, f_leastAt, f_greatestAt])), (fa_least, .inl (cI, 6, .inl fc_least)), (fa_greatest, .inl (cI, 6, .inl fc_greatest))] := hD
  have hl := lv_entry ([.ref fh, .int la, .int ya]) (n := 3) (Nat.le_of_ble_eq_true rfl)
  rw [lg_entry_eq]
  generalize (lg_sl ([.ref fh, .int la, .int ya]) ++ List.replicate (3 - (lg_sl ([.ref fh, .int la, .int ya])).length) Slot.unset).toArray = ls at hl ⊢
  replace hl : lv_has ls 3 [(0, .ref fh), (1, .int la), (2, .int ya)] := hl
  have z_0 : (0 : Int32).toInt = 0 := by decide
  have z_1 : (1 : Int32).toInt = 1 := by decide
  have ir_l := i32r (fc_least (ya).toNatClampNeg)
  have ir_g := i32r (fc_greatest (ya).toNatClampNeg)
  refine lv_aload_n hx hb dX0_castGreatest_0 rfl (lv_at hl 0 rfl) ?_
  refine lv_iload_n hx hb dX0_castGreatest_1 rfl (lv_at hl 1 rfl) ?_
  refine lv_iload_n hx hb dX0_castGreatest_2 rfl (lv_at hl 2 rfl) ?_
  have hPc := hP.sub (ws' := [(fh, .inr (0, [.int f_isReached, .ref fa_least, .ref fa_greatest, f_sites, f_maybeNull, f_known, f_lanes, f_shortest, f_longest, f_leastAt, f_greatestAt])), (fa_least, .inl (cI, 6, .inl fc_least)), (fa_greatest, .inl (cI, 6, .inl fc_greatest))]) [0, 1, 2] rfl
  have hDc := hD.sub (ws' := [(fh, .inr (0, [.int f_isReached, .ref fa_least, .ref fa_greatest, f_sites, f_maybeNull, f_known, f_lanes, f_shortest, f_longest, f_leastAt, f_greatestAt])), (fa_least, .inl (cI, 6, .inl fc_least)), (fa_greatest, .inl (cI, 6, .inl fc_greatest))]) [0, 1, 2] (by decide) rfl
  have hFc := va_free (wc := [(fh, .inr (0, [.int f_isReached, .ref fa_least, .ref fa_greatest, f_sites, f_maybeNull, f_known, f_lanes, f_shortest, f_longest, f_leastAt, f_greatestAt])), (fa_least, .inl (cI, 6, .inl fc_least)), (fa_greatest, .inl (cI, 6, .inl fc_greatest))]) hD hS hA [0, 1, 2] rfl
  refine va_calli (va_runV (As := [.int la, .int ya]) (rest := []) ⟨hx, hb, hml, hown, hts⟩ (s_X0_castFits l dC dI cI cJ cZ fh f_isReached fa_least fa_greatest f_sites f_maybeNull f_known f_lanes f_shortest f_longest f_leastAt f_greatestAt fc_least fc_greatest la ya s.heap.size q_f_isReached (by first | assumption | omega)) (cwV 2 hts h_X0_castGreatest_X0_castFits_98 rfl rfl rfl (by decide +kernel) ⟨Nat.le_of_ble_eq_true rfl, Nat.le_of_ble_eq_true rfl⟩) ⟨cPre_blind, va_recv hK hPc (ci := 0) (q0 := 0) rfl rfl, cPre_of hK hN hPc hDc⟩ rfl rfl hl.1 rfl (lv_room (Nat.le_of_ble_eq_true rfl)) dX0_castGreatest_3 ⟨Nat.le_of_ble_eq_true rfl, Nat.le_of_ble_eq_true rfl⟩) hS (fun q _ h => hFc q h) hFc (fun r_1 u_1 t_1 H_1 locs_1 ht hvm hw_1 hB hz1 hk1 hS1 => ?_)
  obtain ⟨hP1, hK1, hD1⟩ := hB
  rw [ht] at hP1
  obtain ⟨hP2, hD2⟩ := va_join (wr := []) (w1 := [(fh, .inr (0, [.int f_isReached, .ref fa_least, .ref fa_greatest, f_sites, f_maybeNull, f_known, f_lanes, f_shortest, f_longest, f_leastAt, f_greatestAt])), (fa_least, .inl (cI, 6, .inl fc_least)), (fa_greatest, .inl (cI, 6, .inl fc_greatest))]) hP hD [0, 1, 2] [] rfl rfl (by decide) (by decide) hk1 hFc hP1 hD1
  clear hPc hDc hFc hP1 hD1 hK1 hk1 hz1 hvm ht
  replace hP : va_P (dC, dI) vwCl [(fh, .inr (0, [.int f_isReached, .ref fa_least, .ref fa_greatest, f_sites, f_maybeNull, f_known, f_lanes, f_shortest, f_longest, f_leastAt, f_greatestAt])), (fa_least, .inl (cI, 6, .inl fc_least)), (fa_greatest, .inl (cI, 6, .inl fc_greatest))] H_1 := hP2
  replace hD : va_D A [(fh, .inr (0, [.int f_isReached, .ref fa_least, .ref fa_greatest, f_sites, f_maybeNull, f_known, f_lanes, f_shortest, f_longest, f_leastAt, f_greatestAt])), (fa_least, .inl (cI, 6, .inl fc_least)), (fa_greatest, .inl (cI, 6, .inl fc_greatest))] := hD2
  replace hS := hS1
  clear hP2 hD2 hS1
  replace hw_1 : (two r_1 ((la.toInt = 0 → -128 ≤ (fc_least (ya).toNatClampNeg).toInt ∧ (fc_greatest (ya).toNatClampNeg).toInt ≤ 127) ∧ (la.toInt = 1 → 0 ≤ (fc_least (ya).toNatClampNeg).toInt ∧ (fc_greatest (ya).toNatClampNeg).toInt ≤ 65535)) 1 0) := hw_1
  have q_r_1 := hw_1
  refine lv_if_eq (tgt := 18) hx hb dX0_castGreatest_6 (by decide) (fun c_2 => ?_) (fun c_2 => ?_)
  · -- yes
    have k_2 : r_1.toInt = (0 : Int32).toInt := ci_eq c_2
    have kt_2 : ¬ ((la.toInt = 0 → -128 ≤ (fc_least (ya).toNatClampNeg).toInt ∧ (fc_greatest (ya).toNatClampNeg).toInt ≤ 127) ∧ (la.toInt = 1 → 0 ≤ (fc_least (ya).toNatClampNeg).toInt ∧ (fc_greatest (ya).toNatClampNeg).toInt ≤ 65535)) := two_z q_r_1 c_2
    refine lv_iload_n hx hb dX0_castGreatest_18 rfl (lv_at hl 1 rfl) ?_
    refine vp_callSi (va_runSN (As := [.int la]) (rest := []) ⟨hx, hb, hml, hown, hts⟩ (s_X4_greatestOfLane l la) (⟨va_cnB 1 hts h_X0_castGreatest_X4_greatestOfLane_95 rfl rfl rfl (hN.2.2.2.2.2.2.2.2.2.2) (hts (.initialized RX4) (List.mem_of_getElem? (i := 5) rfl)) (by decide +kernel) ⟨Nat.le_of_ble_eq_true rfl, Nat.le_of_ble_eq_true rfl⟩, hts (.static yX4_greatestOfLane) (List.mem_of_getElem? (i := 6) rfl), trivial⟩) ⟨fun _ _ _ _ q => q, fun _ _ _ => ⟨rfl, trivial⟩⟩ rfl rfl hl.1 rfl (lv_room (Nat.le_of_ble_eq_true rfl)) dX0_castGreatest_19 ⟨Nat.le_of_ble_eq_true rfl, Nat.le_of_ble_eq_true rfl⟩).run (fun r_3 hw_3 => ?_)
    replace hw_3 : ((la.toInt = 0 → r_3.toInt = 127) ∧ (la.toInt = 1 → r_3.toInt = 65535) ∧ (¬ la.toInt = 0 → ¬ la.toInt = 1 → r_3.toInt = 2147483647)) := hw_3
    have q_r_3 := hw_3
    have hP9 := hP.sub (ws' := [(fh, .inr (0, [.int f_isReached, .ref fa_least, .ref fa_greatest, f_sites, f_maybeNull, f_known, f_lanes, f_shortest, f_longest, f_leastAt, f_greatestAt])), (fa_least, .inl (cI, 6, .inl fc_least)), (fa_greatest, .inl (cI, 6, .inl fc_greatest))]) [0, 1, 2] rfl
    have hD9 := hD.sub (ws' := [(fh, .inr (0, [.int f_isReached, .ref fa_least, .ref fa_greatest, f_sites, f_maybeNull, f_known, f_lanes, f_shortest, f_longest, f_leastAt, f_greatestAt])), (fa_least, .inl (cI, 6, .inl fc_least)), (fa_greatest, .inl (cI, 6, .inl fc_greatest))]) [0, 1, 2] (by decide) rfl
    exact W.iret (v := r_3) hx hb hr (fun t ht hW => ⟨⟨r_3, (), rfl, (show ∀ n w : Int, (fc_least (ya).toNatClampNeg).toInt ≤ n → n ≤ (fc_greatest (ya).toNatClampNeg).toInt → castR la.toInt n w → w ≤ r_3.toInt from (fun n w h1 h2 h3 => by omega)), by rw [ht]; exact hP9, va_K.moved hW.alike hK, hD9⟩, hS.F ht⟩) hS.2.2 dX0_castGreatest_22
  · -- no
    have k_2 : ¬ r_1.toInt = (0 : Int32).toInt := ci_ne c_2
    have kt_2 : (la.toInt = 0 → -128 ≤ (fc_least (ya).toNatClampNeg).toInt ∧ (fc_greatest (ya).toNatClampNeg).toInt ≤ 127) ∧ (la.toInt = 1 → 0 ≤ (fc_least (ya).toNatClampNeg).toInt ∧ (fc_greatest (ya).toNatClampNeg).toInt ≤ 65535) := two_nz q_r_1 c_2
    refine lv_aload_n hx hb dX0_castGreatest_9 rfl (lv_at hl 0 rfl) ?_
    refine va_get (D := (dC, dI)) (ci := 0) (v := .ref fa_greatest) (C := RX0) (T := TX0) (N := 11) hx hb hts inv_X0_castGreatest_X0 hown hK hP 0 rfl rfl 2 (by decide) (hts (.fieldLink RX0 19 "ArraySegments$Facts" "greatest" "[I") (List.mem_of_getElem? (i := 7) rfl)) (fun _ h9 => h9) rfl dX0_castGreatest_10 ?_
    refine lv_iload_n hx hb dX0_castGreatest_13 rfl (lv_at hl 2 rfl) ?_
    refine sf_iald kT hx hb hK hP 2 0 rfl rfl (fun _ => trivial) (vp_in_iff.mpr ⟨by omega, by omega⟩) dX0_castGreatest_14 (fun v_4 q_v_4 e_v_4 => ?_)
    have et_v_4 : v_4.toInt = (fc_greatest (ya).toNatClampNeg).toInt := by rw [e_v_4]
    have ni_5 := nn_cl (z := ya) (by omega)
    have ir_v_4 := i32r v_4
    refine lv_goto (tgt := 22) hx hb dX0_castGreatest_15 (by decide) ?_
    have hP9 := hP.sub (ws' := [(fh, .inr (0, [.int f_isReached, .ref fa_least, .ref fa_greatest, f_sites, f_maybeNull, f_known, f_lanes, f_shortest, f_longest, f_leastAt, f_greatestAt])), (fa_least, .inl (cI, 6, .inl fc_least)), (fa_greatest, .inl (cI, 6, .inl fc_greatest))]) [0, 1, 2] rfl
    have hD9 := hD.sub (ws' := [(fh, .inr (0, [.int f_isReached, .ref fa_least, .ref fa_greatest, f_sites, f_maybeNull, f_known, f_lanes, f_shortest, f_longest, f_leastAt, f_greatestAt])), (fa_least, .inl (cI, 6, .inl fc_least)), (fa_greatest, .inl (cI, 6, .inl fc_greatest))]) [0, 1, 2] (by decide) rfl
    exact W.iret (v := v_4) hx hb hr (fun t ht hW => ⟨⟨v_4, (), rfl, (show ∀ n w : Int, (fc_least (ya).toNatClampNeg).toInt ≤ n → n ≤ (fc_greatest (ya).toNatClampNeg).toInt → castR la.toInt n w → w ≤ v_4.toInt from (fun n w h1 h2 h3 => by omega)), by rw [ht]; exact hP9, va_K.moved hW.alike hK, hD9⟩, hS.F ht⟩) hS.2.2 dX0_castGreatest_22

def v_X0_withLane : List Cond := .code yX0_withLane cX0_withLane 7 (some .long) :: ([.initialized RX4, .static yX4_isIn, .fieldLink RX0 33 "ArraySegments$Facts" "lanes" "[I"] ++ (wsX00 ++ (v_X4_isIn)))
theorem inv_X0_withLane_X0 : ∀ w ∈ wsX00, w ∈ v_X0_withLane := fun _ h => List.mem_cons_of_mem _ (List.mem_append_right _ (List.mem_append_left _ h))
theorem im_X0_withLane_X4_isIn : ∀ w ∈ v_X4_isIn, w ∈ v_X0_withLane := fun _ h => List.mem_cons_of_mem _ (List.mem_append_right _ (List.mem_append_right _ (h)))
set_option maxRecDepth 20000 in
theorem gd_X0_withLane : gdL v_X0_withLane := gdC (gdW (by decide +kernel)) (gdA (gdW (by decide +kernel)) (gdA gd_wsX00 gd_X4_isIn))
theorem h_X0_withLane_X4_isIn_102 : GoodIn v_X0_withLane (v_X4_isIn) := fun w h => ⟨im_X0_withLane_X4_isIn w h, gd_X4_isIn w h⟩
abbrev sw_X0_withLane (cI cJ cZ : ClassId) (fh : Nat) (f_isReached : Int32) (f_least : Value) (f_greatest : Value) (f_sites : Value) (f_maybeNull : Value) (f_known : Value) (fa_lanes : Nat) (f_shortest : Value) (f_longest : Value) (f_leastAt : Value) (f_greatestAt : Value) (fc_lanes : Nat → Int32) (ala : Int64) (la : Int32) : va_W := [(fh, .inr (0, [.int f_isReached, f_least, f_greatest, f_sites, f_maybeNull, f_known, .ref fa_lanes, f_shortest, f_longest, f_leastAt, f_greatestAt])), (fa_lanes, .inl (cI, 40, .inl fc_lanes))]
set_option maxHeartbeats 8000000 in
set_option maxRecDepth 100000 in
theorem s_X0_withLane (l : Launch) (dC : Nat → ClassId) (dI : Nat → Nat → Nat) (cI cJ cZ : ClassId) (fh : Nat) (f_isReached : Int32) (f_least : Value) (f_greatest : Value) (f_sites : Value) (f_maybeNull : Value) (f_known : Value) (fa_lanes : Nat) (f_shortest : Value) (f_longest : Value) (f_leastAt : Value) (f_greatestAt : Value) (fc_lanes : Nat → Int32) (ala : Int64) (la : Int32) (sz : Nat) (q_f_isReached : kZ f_isReached) (h_fc_lanes : ∀ j : Nat, kL7 (fc_lanes j)) (hy_la : V3 la) : Met l yX0_withLane v_X0_withLane ({ frames := 1, cells := 0, slots := 0, locals := 22 }) (va_Pc [.ref fh, .long ala, .int la] (cPre dC dI cI cJ cZ sz (sw_X0_withLane cI cJ cZ fh f_isReached f_least f_greatest f_sites f_maybeNull f_known fa_lanes f_shortest f_longest f_leastAt f_greatestAt fc_lanes ala la))) (va_Ql (fun (r : Int64) (u : Unit) => (∀ j : Nat, j < 64 → (sbit r j ↔ (j < 40 ∧ sbit ala j ∧ lbit (fc_lanes j) (la).toNatClampNeg)))) (fun (u : Unit) => cPost dC dI cI cJ cZ (va_A (sw_X0_withLane cI cJ cZ fh f_isReached f_least f_greatest f_sites f_maybeNull f_known fa_lanes f_shortest f_longest f_leastAt f_greatestAt fc_lanes ala la) sz) [(fh, .inr (0, [.int f_isReached, f_least, f_greatest, f_sites, f_maybeNull, f_known, .ref fa_lanes, f_shortest, f_longest, f_leastAt, f_greatestAt])), (fa_lanes, .inl (cI, 40, .inl fc_lanes))]) (va_A (sw_X0_withLane cI cJ cZ fh f_isReached f_least f_greatest f_sites f_maybeNull f_known fa_lanes f_shortest f_longest f_leastAt f_greatestAt fc_lanes ala la) sz)) 0 0 (va_A (sw_X0_withLane cI cJ cZ fh f_isReached f_least f_greatest f_sites f_maybeNull f_known fa_lanes f_shortest f_longest f_leastAt f_greatestAt fc_lanes ala la) sz) := by
  refine Met.ofW (cc := cX0_withLane) (maxL := 7) (ret := (some .long)) (by decide) rfl ?_
  intro p e s m args below meth c s₁ B hml hv
  obtain ⟨rfl, hsz, hP, hK, hD0, hN⟩ := hv
  have hx := B.exec
  have hb := B.bytes
  have hr := B.returns
  have hts := atoms_spec (ws := v_X0_withLane) B.pre
  have hown : s.vm.findClass RX0 = some m.cls := findClass_of_methodNamed B.named
  have hlocks := B.notSynchronized
  subst hsz
  have hD := hD0.self (sz := s.heap.size)
  generalize hAe : va_A (sw_X0_withLane cI cJ cZ fh f_isReached f_least f_greatest f_sites f_maybeNull f_known fa_lanes f_shortest f_longest f_leastAt f_greatestAt fc_lanes ala la) s.heap.size = A at hD ⊢
  have hA : ∀ q : Nat, s.heap.size ≤ q → A q := fun q h => by rw [← hAe]; exact Or.inr h
  clear hAe hD0
  have hS : va_S A s.heap s.heap [] := va_S.rf
  replace hP : va_P (dC, dI) vwCl [(fh, .inr (0, [.int f_isReached, f_least, f_greatest, f_sites, f_maybeNull, f_known, .ref fa_lanes, f_shortest, f_longest, f_leastAt, f_greatestAt])), (fa_lanes, .inl (cI, 40, .inl fc_lanes))] s.heap := hP
  replace hD : va_D A [(fh, .inr (0, [.int f_isReached, f_least, f_greatest, f_sites, f_maybeNull, f_known, .ref fa_lanes, f_shortest, f_longest, f_leastAt, f_greatestAt])), (fa_lanes, .inl (cI, 40, .inl fc_lanes))] := hD
  have hl := lv_entry ([.ref fh, .long ala, .int la]) (n := 7) (Nat.le_of_ble_eq_true rfl)
  rw [lg_entry_eq]
  generalize (lg_sl ([.ref fh, .long ala, .int la]) ++ List.replicate (7 - (lg_sl ([.ref fh, .long ala, .int la])).length) Slot.unset).toArray = ls at hl ⊢
  replace hl : lv_has ls 7 [(0, .ref fh), (1, .long ala), (3, .int la)] := hl
  have z_0 : (0 : Int32).toInt = 0 := by decide
  have z_1 : (1 : Int32).toInt = 1 := by decide
  have z_40 : (40 : Int32).toInt = 40 := by decide
  have zl_0 : (0 : Int64).toInt = 0 := by decide
  refine lv_lconst (v := 0) hx hb dX0_withLane_0 (by decide) ?_
  refine lv_lstore (lv' := [(4, .long 0), (0, .ref fh), (1, .long ala), (3, .int la)]) hx hb dX0_withLane_1 hl (by decide) rfl (fun ls1 hl1 => ?_)
  replace hl := hl1; clear hl1
  refine lv_iconst (v := 0) hx hb dX0_withLane_3 (by decide) ?_
  refine lv_istore (lv' := [(6, .int 0), (4, .long 0), (0, .ref fh), (1, .long ala), (3, .int la)]) hx hb dX0_withLane_4 hl (by decide) rfl (fun ls1 hl1 => ?_)
  replace hl := hl1; clear hl1
  refine my_wloop (S := Int32 × Int64) (fun u => (0 ≤ (u.1).toInt ∧ (u.1).toInt ≤ 40) ∧ (∀ j : Nat, j < 64 → (sbit (u.2) j ↔ ((j : Int) < (u.1).toInt ∧ sbit ala j ∧ lbit (fc_lanes j) (la).toNatClampNeg)))) (fun u => (40 - (u.1).toInt).toNat) (fun u => [(fh, .inr (0, [.int f_isReached, f_least, f_greatest, f_sites, f_maybeNull, f_known, .ref fa_lanes, f_shortest, f_longest, f_leastAt, f_greatestAt])), (fa_lanes, .inl (cI, 40, .inl fc_lanes))]) (fun u => [(6, .int (u.1)), (4, .long (u.2)), (0, .ref fh), (1, .long ala), (3, .int la)]) (H0 := s.heap) (A := A) (D := (dC, dI)) (cl := vwCl) ((0 : Int32), (0 : Int64)) (show (0 ≤ (0 : Int32).toInt ∧ (0 : Int32).toInt ≤ 40) ∧ (∀ j : Nat, j < 64 → (sbit (0 : Int64) j ↔ ((j : Int) < (0 : Int32).toInt ∧ sbit ala j ∧ lbit (fc_lanes j) (la).toNatClampNeg))) from ⟨⟨by omega, by omega⟩, (wl_0 rfl (by decide))⟩) (by exact hP) (by exact hD) hS (by exact hl) (fun u_1 hu_1 ih_1 H_1 locs_1 ls1 hP1 hD1 hS1 hl1 => ?_)
  obtain ⟨v_2, v_3⟩ := u_1
  replace hu_1 : (0 ≤ v_2.toInt ∧ v_2.toInt ≤ 40) ∧ (∀ j : Nat, j < 64 → (sbit v_3 j ↔ ((j : Int) < v_2.toInt ∧ sbit ala j ∧ lbit (fc_lanes j) (la).toNatClampNeg))) := hu_1
  obtain ⟨q_v_2, x_1_0⟩ := hu_1
  replace hP : va_P (dC, dI) vwCl [(fh, .inr (0, [.int f_isReached, f_least, f_greatest, f_sites, f_maybeNull, f_known, .ref fa_lanes, f_shortest, f_longest, f_leastAt, f_greatestAt])), (fa_lanes, .inl (cI, 40, .inl fc_lanes))] H_1 := hP1
  replace hD : va_D A [(fh, .inr (0, [.int f_isReached, f_least, f_greatest, f_sites, f_maybeNull, f_known, .ref fa_lanes, f_shortest, f_longest, f_leastAt, f_greatestAt])), (fa_lanes, .inl (cI, 40, .inl fc_lanes))] := hD1
  replace hS := hS1
  clear hP1 hD1 hS1
  replace hl : lv_has ls1 7 [(6, .int v_2), (4, .long v_3), (0, .ref fh), (1, .long ala), (3, .int la)] := hl1
  clear hl1
  refine lv_iload hx hb dX0_withLane_6 (lv_at hl 0 rfl) ?_
  refine lv_bipush (v := 40) hx hb dX0_withLane_8 (by decide) ?_
  refine lv_icmp_ge (tgt := 52) hx hb dX0_withLane_10 (by decide) (fun c_4 => ?_) (fun c_4 => ?_)
  · -- yes
    have k_4 : (40 : Int32).toInt ≤ v_2.toInt := ci_ge c_4
    refine lv_lload hx hb dX0_withLane_52 (lv_at hl 1 rfl) ?_
    have hP9 := hP.sub (ws' := [(fh, .inr (0, [.int f_isReached, f_least, f_greatest, f_sites, f_maybeNull, f_known, .ref fa_lanes, f_shortest, f_longest, f_leastAt, f_greatestAt])), (fa_lanes, .inl (cI, 40, .inl fc_lanes))]) [0, 1] rfl
    have hD9 := hD.sub (ws' := [(fh, .inr (0, [.int f_isReached, f_least, f_greatest, f_sites, f_maybeNull, f_known, .ref fa_lanes, f_shortest, f_longest, f_leastAt, f_greatestAt])), (fa_lanes, .inl (cI, 40, .inl fc_lanes))]) [0, 1] (by decide) rfl
    exact W.lret (v := v_3) hx hb hr (fun t ht hW => ⟨⟨v_3, (), rfl, (show ∀ j : Nat, j < 64 → (sbit v_3 j ↔ (j < 40 ∧ sbit ala j ∧ lbit (fc_lanes j) (la).toNatClampNeg)) from (fun j hj => by rw [x_1_0 j hj]; constructor; (· rintro ⟨h1, h2⟩; exact ⟨by omega, h2⟩); (· rintro ⟨h1, h2⟩; exact ⟨by omega, h2⟩))), by rw [ht]; exact hP9, va_K.moved hW.alike hK, hD9⟩, hS.F ht⟩) hS.2.2 dX0_withLane_54
  · -- no
    have k_4 : v_2.toInt < (40 : Int32).toInt := ci_nge c_4
    refine lv_lload_n hx hb dX0_withLane_13 rfl (lv_at hl 3 rfl) ?_
    refine lv_iload hx hb dX0_withLane_14 (lv_at hl 0 rfl) ?_
    refine vp_callSi (va_runSN (As := [.long ala, .int v_2]) (rest := []) ⟨hx, hb, hml, hown, hts⟩ (s_X4_isIn l ala v_2 (by first | assumption | omega)) (⟨va_cnB 2 hts h_X0_withLane_X4_isIn_102 rfl rfl rfl (hN.2.2.2.2.2.2.2.2.1) (hts (.initialized RX4) (List.mem_of_getElem? (i := 1) rfl)) (by decide +kernel) ⟨Nat.le_of_ble_eq_true rfl, Nat.le_of_ble_eq_true rfl⟩, hts (.static yX4_isIn) (List.mem_of_getElem? (i := 2) rfl), trivial⟩) ⟨fun _ _ _ _ q => q, fun _ _ _ => ⟨rfl, trivial⟩⟩ rfl rfl hl.1 rfl (lv_room (Nat.le_of_ble_eq_true rfl)) dX0_withLane_16 ⟨Nat.le_of_ble_eq_true rfl, Nat.le_of_ble_eq_true rfl⟩).run (fun r_5 hw_5 => ?_)
    replace hw_5 : (two r_5 (sbit ala (v_2).toNatClampNeg) 1 0) := hw_5
    have q_r_5 := hw_5
    refine lv_if_eq (tgt := 46) hx hb dX0_withLane_19 (by decide) (fun c_6 => ?_) (fun c_6 => ?_)
    · -- yes
      have k_6 : r_5.toInt = (0 : Int32).toInt := ci_eq c_6
      have kt_6 : ¬ (sbit ala (v_2).toNatClampNeg) := two_z q_r_5 c_6
      refine sf_iinc hx hb dX0_withLane_46 hl (k := 0) (x := v_2) (w := 1) rfl (by decide) (by decide) ⟨by omega, by omega⟩ (fun v_7 q_v_7 ls1 hl1 => ?_)
      replace hl : lv_has ls1 7 [(6, .int v_7), (4, .long v_3), (0, .ref fh), (1, .long ala), (3, .int la)] := hl1
      clear hl1
      refine lv_goto (tgt := 6) hx hb dX0_withLane_49 (by decide) ?_
      exact ih_1 (v_7, v_3) (show (0 ≤ v_7.toInt ∧ v_7.toInt ≤ 40) ∧ (∀ j : Nat, j < 64 → (sbit v_3 j ↔ ((j : Int) < v_7.toInt ∧ sbit ala j ∧ lbit (fc_lanes j) (la).toNatClampNeg))) from ⟨⟨by omega, by omega⟩, (wl_skip (P := fun j => sbit ala j ∧ lbit (fc_lanes j) (la).toNatClampNeg) x_1_0 (by omega) (show v_7.toInt = v_2.toInt + 1 from by omega) (fun h => kt_6 h.1))⟩) (by show (40 - v_7.toInt).toNat < (40 - v_2.toInt).toNat; omega) _ _ _ (hP.sub [0, 1] rfl) (hD.sub [0, 1] (by decide) rfl) hS (lv_sub hl [0, 1, 2, 3, 4] rfl)
    · -- no
      have k_6 : ¬ r_5.toInt = (0 : Int32).toInt := ci_ne c_6
      have kt_6 : sbit ala (v_2).toNatClampNeg := two_nz q_r_5 c_6
      refine lv_aload_n hx hb dX0_withLane_22 rfl (lv_at hl 2 rfl) ?_
      refine va_get (D := (dC, dI)) (ci := 0) (v := .ref fa_lanes) (C := RX0) (T := TX0) (N := 11) hx hb hts inv_X0_withLane_X0 hown hK hP 0 rfl rfl 6 (by decide) (hts (.fieldLink RX0 33 "ArraySegments$Facts" "lanes" "[I") (List.mem_of_getElem? (i := 3) rfl)) (fun _ h9 => h9) rfl dX0_withLane_23 ?_
      refine lv_iload hx hb dX0_withLane_26 (lv_at hl 0 rfl) ?_
      refine sf_iald kL7 hx hb hK hP 1 0 rfl rfl h_fc_lanes (vp_in_iff.mpr ⟨by omega, by omega⟩) dX0_withLane_28 (fun v_8 q_v_8 e_v_8 => ?_)
      have et_v_8 : v_8.toInt = (fc_lanes (v_2).toNatClampNeg).toInt := by rw [e_v_8]
      have ni_9 := nn_cl (z := v_2) (by omega)
      refine lv_iload_n hx hb dX0_withLane_29 rfl (lv_at hl 4 rfl) ?_
      refine lv_iushr (v := _) hx hb dX0_withLane_30 rfl ?_
      refine lv_topi (fun v_10 e_v_10 => ?_)
      refine lv_iconst (v := 1) hx hb dX0_withLane_31 (by decide) ?_
      refine lv_iand hx hb dX0_withLane_32 ?_
      refine lv_topi (fun v_11 e_v_11 => ?_)
      refine lv_iconst (v := 1) hx hb dX0_withLane_33 (by decide) ?_
      refine lv_icmp_ne (tgt := 46) hx hb dX0_withLane_34 (by decide) (fun c_12 => ?_) (fun c_12 => ?_)
      · -- yes
        have k_12 : ¬ v_11.toInt = (1 : Int32).toInt := ci_ne c_12
        refine sf_iinc hx hb dX0_withLane_46 hl (k := 0) (x := v_2) (w := 1) rfl (by decide) (by decide) ⟨by omega, by omega⟩ (fun v_13 q_v_13 ls1 hl1 => ?_)
        replace hl : lv_has ls1 7 [(6, .int v_13), (4, .long v_3), (0, .ref fh), (1, .long ala), (3, .int la)] := hl1
        clear hl1
        refine lv_goto (tgt := 6) hx hb dX0_withLane_49 (by decide) ?_
        exact ih_1 (v_13, v_3) (show (0 ≤ v_13.toInt ∧ v_13.toInt ≤ 40) ∧ (∀ j : Nat, j < 64 → (sbit v_3 j ↔ ((j : Int) < v_13.toInt ∧ sbit ala j ∧ lbit (fc_lanes j) (la).toNatClampNeg))) from ⟨⟨by omega, by omega⟩, (wl_skip (P := fun j => sbit ala j ∧ lbit (fc_lanes j) (la).toNatClampNeg) x_1_0 (by omega) (show v_13.toInt = v_2.toInt + 1 from by omega) (fun h => by have b0 := lb_ushr (l := la) ⟨by omega, by omega⟩ e_v_10 e_v_11; rw [e_v_8] at b0; exact absurd h.2 ((b0.resolve_left (fun h9 => by omega)).2)))⟩) (by show (40 - v_13.toInt).toNat < (40 - v_2.toInt).toNat; omega) _ _ _ (hP.sub [0, 1] rfl) (hD.sub [0, 1] (by decide) rfl) hS (lv_sub hl [0, 1, 2, 3, 4] rfl)
      · -- no
        have k_12 : v_11.toInt = (1 : Int32).toInt := ci_eq c_12
        refine lv_lload hx hb dX0_withLane_37 (lv_at hl 1 rfl) ?_
        refine lv_lconst (v := 1) hx hb dX0_withLane_39 (by decide) ?_
        refine lv_iload hx hb dX0_withLane_40 (lv_at hl 0 rfl) ?_
        refine lv_lshl (v := _) hx hb dX0_withLane_42 rfl ?_
        refine lv_topl (fun v_14 e_v_14 => ?_)
        refine lv_lor hx hb dX0_withLane_43 ?_
        refine lv_topl (fun v_15 e_v_15 => ?_)
        refine lv_lstore (lv' := [(4, .long v_15), (6, .int v_2), (0, .ref fh), (1, .long ala), (3, .int la)]) hx hb dX0_withLane_44 hl (by decide) rfl (fun ls1 hl1 => ?_)
        replace hl := hl1; clear hl1
        refine sf_iinc hx hb dX0_withLane_46 hl (k := 1) (x := v_2) (w := 1) rfl (by decide) (by decide) ⟨by omega, by omega⟩ (fun v_16 q_v_16 ls1 hl1 => ?_)
        replace hl : lv_has ls1 7 [(6, .int v_16), (4, .long v_15), (0, .ref fh), (1, .long ala), (3, .int la)] := hl1
        clear hl1
        refine lv_goto (tgt := 6) hx hb dX0_withLane_49 (by decide) ?_
        exact ih_1 (v_16, v_15) (show (0 ≤ v_16.toInt ∧ v_16.toInt ≤ 40) ∧ (∀ j : Nat, j < 64 → (sbit v_15 j ↔ ((j : Int) < v_16.toInt ∧ sbit ala j ∧ lbit (fc_lanes j) (la).toNatClampNeg))) from ⟨⟨by omega, by omega⟩, (wl_add (P := fun j => sbit ala j ∧ lbit (fc_lanes j) (la).toNatClampNeg) x_1_0 ⟨by omega, by omega⟩ (show v_16.toInt = v_2.toInt + 1 from by omega) e_v_14 e_v_15 ⟨kt_6, by have b0 := lb_ushr (l := la) ⟨by omega, by omega⟩ e_v_10 e_v_11; rw [e_v_8] at b0; exact (b0.resolve_right (fun h9 => by omega)).2⟩)⟩) (by show (40 - v_16.toInt).toNat < (40 - v_2.toInt).toNat; omega) _ _ _ (hP.sub [0, 1] rfl) (hD.sub [0, 1] (by decide) rfl) hS (lv_sub hl [0, 1, 2, 3, 4] rfl)

def v_X0_lanesOf : List Cond := .code yX0_lanesOf cX0_lanesOf 5 (some .int) :: ([.initialized RX4, .static yX4_isIn, .fieldLink RX0 33 "ArraySegments$Facts" "lanes" "[I"] ++ (wsX00 ++ (v_X4_isIn)))
theorem inv_X0_lanesOf_X0 : ∀ w ∈ wsX00, w ∈ v_X0_lanesOf := fun _ h => List.mem_cons_of_mem _ (List.mem_append_right _ (List.mem_append_left _ h))
theorem im_X0_lanesOf_X4_isIn : ∀ w ∈ v_X4_isIn, w ∈ v_X0_lanesOf := fun _ h => List.mem_cons_of_mem _ (List.mem_append_right _ (List.mem_append_right _ (h)))
set_option maxRecDepth 20000 in
theorem gd_X0_lanesOf : gdL v_X0_lanesOf := gdC (gdW (by decide +kernel)) (gdA (gdW (by decide +kernel)) (gdA gd_wsX00 gd_X4_isIn))
theorem h_X0_lanesOf_X4_isIn_102 : GoodIn v_X0_lanesOf (v_X4_isIn) := fun w h => ⟨im_X0_lanesOf_X4_isIn w h, gd_X4_isIn w h⟩
abbrev sw_X0_lanesOf (cI cJ cZ : ClassId) (fh : Nat) (f_isReached : Int32) (f_least : Value) (f_greatest : Value) (f_sites : Value) (f_maybeNull : Value) (f_known : Value) (fa_lanes : Nat) (f_shortest : Value) (f_longest : Value) (f_leastAt : Value) (f_greatestAt : Value) (fc_lanes : Nat → Int32) (ala : Int64) : va_W := [(fh, .inr (0, [.int f_isReached, f_least, f_greatest, f_sites, f_maybeNull, f_known, .ref fa_lanes, f_shortest, f_longest, f_leastAt, f_greatestAt])), (fa_lanes, .inl (cI, 40, .inl fc_lanes))]
set_option maxHeartbeats 8000000 in
set_option maxRecDepth 100000 in
theorem s_X0_lanesOf (l : Launch) (dC : Nat → ClassId) (dI : Nat → Nat → Nat) (cI cJ cZ : ClassId) (fh : Nat) (f_isReached : Int32) (f_least : Value) (f_greatest : Value) (f_sites : Value) (f_maybeNull : Value) (f_known : Value) (fa_lanes : Nat) (f_shortest : Value) (f_longest : Value) (f_leastAt : Value) (f_greatestAt : Value) (fc_lanes : Nat → Int32) (ala : Int64) (sz : Nat) (q_f_isReached : kZ f_isReached) (h_fc_lanes : ∀ j : Nat, kL7 (fc_lanes j)) : Met l yX0_lanesOf v_X0_lanesOf ({ frames := 1, cells := 0, slots := 0, locals := 22 }) (va_Pc [.ref fh, .long ala] (cPre dC dI cI cJ cZ sz (sw_X0_lanesOf cI cJ cZ fh f_isReached f_least f_greatest f_sites f_maybeNull f_known fa_lanes f_shortest f_longest f_leastAt f_greatestAt fc_lanes ala))) (va_Qi (fun (r : Int32) (u : Unit) => ((0 ≤ r.toInt ∧ r.toInt ≤ 7) ∧ (∀ j : Nat, j < 40 → sbit ala j → ∀ q : Nat, lbit (fc_lanes j) q → lbit r q))) (fun (u : Unit) => cPost dC dI cI cJ cZ (va_A (sw_X0_lanesOf cI cJ cZ fh f_isReached f_least f_greatest f_sites f_maybeNull f_known fa_lanes f_shortest f_longest f_leastAt f_greatestAt fc_lanes ala) sz) [(fh, .inr (0, [.int f_isReached, f_least, f_greatest, f_sites, f_maybeNull, f_known, .ref fa_lanes, f_shortest, f_longest, f_leastAt, f_greatestAt])), (fa_lanes, .inl (cI, 40, .inl fc_lanes))]) (va_A (sw_X0_lanesOf cI cJ cZ fh f_isReached f_least f_greatest f_sites f_maybeNull f_known fa_lanes f_shortest f_longest f_leastAt f_greatestAt fc_lanes ala) sz)) 0 0 (va_A (sw_X0_lanesOf cI cJ cZ fh f_isReached f_least f_greatest f_sites f_maybeNull f_known fa_lanes f_shortest f_longest f_leastAt f_greatestAt fc_lanes ala) sz) := by
  refine Met.ofW (cc := cX0_lanesOf) (maxL := 5) (ret := (some .int)) (by decide) rfl ?_
  intro p e s m args below meth c s₁ B hml hv
  obtain ⟨rfl, hsz, hP, hK, hD0, hN⟩ := hv
  have hx := B.exec
  have hb := B.bytes
  have hr := B.returns
  have hts := atoms_spec (ws := v_X0_lanesOf) B.pre
  have hown : s.vm.findClass RX0 = some m.cls := findClass_of_methodNamed B.named
  have hlocks := B.notSynchronized
  subst hsz
  have hD := hD0.self (sz := s.heap.size)
  generalize hAe : va_A (sw_X0_lanesOf cI cJ cZ fh f_isReached f_least f_greatest f_sites f_maybeNull f_known fa_lanes f_shortest f_longest f_leastAt f_greatestAt fc_lanes ala) s.heap.size = A at hD ⊢
  have hA : ∀ q : Nat, s.heap.size ≤ q → A q := fun q h => by rw [← hAe]; exact Or.inr h
  clear hAe hD0
  have hS : va_S A s.heap s.heap [] := va_S.rf
  replace hP : va_P (dC, dI) vwCl [(fh, .inr (0, [.int f_isReached, f_least, f_greatest, f_sites, f_maybeNull, f_known, .ref fa_lanes, f_shortest, f_longest, f_leastAt, f_greatestAt])), (fa_lanes, .inl (cI, 40, .inl fc_lanes))] s.heap := hP
  replace hD : va_D A [(fh, .inr (0, [.int f_isReached, f_least, f_greatest, f_sites, f_maybeNull, f_known, .ref fa_lanes, f_shortest, f_longest, f_leastAt, f_greatestAt])), (fa_lanes, .inl (cI, 40, .inl fc_lanes))] := hD
  have hl := lv_entry ([.ref fh, .long ala]) (n := 5) (Nat.le_of_ble_eq_true rfl)
  rw [lg_entry_eq]
  generalize (lg_sl ([.ref fh, .long ala]) ++ List.replicate (5 - (lg_sl ([.ref fh, .long ala])).length) Slot.unset).toArray = ls at hl ⊢
  replace hl : lv_has ls 5 [(0, .ref fh), (1, .long ala)] := hl
  have z_0 : (0 : Int32).toInt = 0 := by decide
  have z_1 : (1 : Int32).toInt = 1 := by decide
  have z_40 : (40 : Int32).toInt = 40 := by decide
  refine lv_iconst (v := 0) hx hb dX0_lanesOf_0 (by decide) ?_
  refine lv_istore_n (lv' := [(3, .int 0), (0, .ref fh), (1, .long ala)]) hx hb dX0_lanesOf_1 rfl hl (by decide) rfl (fun ls1 hl1 => ?_)
  replace hl := hl1; clear hl1
  refine lv_iconst (v := 0) hx hb dX0_lanesOf_2 (by decide) ?_
  refine lv_istore (lv' := [(4, .int 0), (3, .int 0), (0, .ref fh), (1, .long ala)]) hx hb dX0_lanesOf_3 hl (by decide) rfl (fun ls1 hl1 => ?_)
  replace hl := hl1; clear hl1
  refine my_wloop (S := Int32 × Int32) (fun u => (0 ≤ (u.1).toInt ∧ (u.1).toInt ≤ 40) ∧ (0 ≤ (u.2).toInt ∧ (u.2).toInt ≤ 7) ∧ (∀ j : Nat, (j : Int) < (u.1).toInt → sbit ala j → ∀ q : Nat, lbit (fc_lanes j) q → lbit (u.2) q)) (fun u => (40 - (u.1).toInt).toNat) (fun u => [(fh, .inr (0, [.int f_isReached, f_least, f_greatest, f_sites, f_maybeNull, f_known, .ref fa_lanes, f_shortest, f_longest, f_leastAt, f_greatestAt])), (fa_lanes, .inl (cI, 40, .inl fc_lanes))]) (fun u => [(4, .int (u.1)), (3, .int (u.2)), (0, .ref fh), (1, .long ala)]) (H0 := s.heap) (A := A) (D := (dC, dI)) (cl := vwCl) ((0 : Int32), (0 : Int32)) (show (0 ≤ (0 : Int32).toInt ∧ (0 : Int32).toInt ≤ 40) ∧ (0 ≤ (0 : Int32).toInt ∧ (0 : Int32).toInt ≤ 7) ∧ (∀ j : Nat, (j : Int) < (0 : Int32).toInt → sbit ala j → ∀ q : Nat, lbit (fc_lanes j) q → lbit (0 : Int32) q) from ⟨⟨by omega, by omega⟩, ⟨by omega, by omega⟩, (fun j hj => by omega)⟩) (by exact hP) (by exact hD) hS (by exact hl) (fun u_1 hu_1 ih_1 H_1 locs_1 ls1 hP1 hD1 hS1 hl1 => ?_)
  obtain ⟨v_2, v_3⟩ := u_1
  replace hu_1 : (0 ≤ v_2.toInt ∧ v_2.toInt ≤ 40) ∧ (0 ≤ v_3.toInt ∧ v_3.toInt ≤ 7) ∧ (∀ j : Nat, (j : Int) < v_2.toInt → sbit ala j → ∀ q : Nat, lbit (fc_lanes j) q → lbit v_3 q) := hu_1
  obtain ⟨q_v_2, q_v_3, x_1_0⟩ := hu_1
  replace hP : va_P (dC, dI) vwCl [(fh, .inr (0, [.int f_isReached, f_least, f_greatest, f_sites, f_maybeNull, f_known, .ref fa_lanes, f_shortest, f_longest, f_leastAt, f_greatestAt])), (fa_lanes, .inl (cI, 40, .inl fc_lanes))] H_1 := hP1
  replace hD : va_D A [(fh, .inr (0, [.int f_isReached, f_least, f_greatest, f_sites, f_maybeNull, f_known, .ref fa_lanes, f_shortest, f_longest, f_leastAt, f_greatestAt])), (fa_lanes, .inl (cI, 40, .inl fc_lanes))] := hD1
  replace hS := hS1
  clear hP1 hD1 hS1
  replace hl : lv_has ls1 5 [(4, .int v_2), (3, .int v_3), (0, .ref fh), (1, .long ala)] := hl1
  clear hl1
  refine lv_iload hx hb dX0_lanesOf_5 (lv_at hl 0 rfl) ?_
  refine lv_bipush (v := 40) hx hb dX0_lanesOf_7 (by decide) ?_
  refine lv_icmp_ge (tgt := 37) hx hb dX0_lanesOf_9 (by decide) (fun c_4 => ?_) (fun c_4 => ?_)
  · -- yes
    have k_4 : (40 : Int32).toInt ≤ v_2.toInt := ci_ge c_4
    refine lv_iload_n hx hb dX0_lanesOf_37 rfl (lv_at hl 1 rfl) ?_
    have hP9 := hP.sub (ws' := [(fh, .inr (0, [.int f_isReached, f_least, f_greatest, f_sites, f_maybeNull, f_known, .ref fa_lanes, f_shortest, f_longest, f_leastAt, f_greatestAt])), (fa_lanes, .inl (cI, 40, .inl fc_lanes))]) [0, 1] rfl
    have hD9 := hD.sub (ws' := [(fh, .inr (0, [.int f_isReached, f_least, f_greatest, f_sites, f_maybeNull, f_known, .ref fa_lanes, f_shortest, f_longest, f_leastAt, f_greatestAt])), (fa_lanes, .inl (cI, 40, .inl fc_lanes))]) [0, 1] (by decide) rfl
    exact W.iret (v := v_3) hx hb hr (fun t ht hW => ⟨⟨v_3, (), rfl, (show (0 ≤ v_3.toInt ∧ v_3.toInt ≤ 7) ∧ (∀ j : Nat, j < 40 → sbit ala j → ∀ q : Nat, lbit (fc_lanes j) q → lbit v_3 q) from ⟨by omega, fun j hj => x_1_0 j (by omega)⟩), by rw [ht]; exact hP9, va_K.moved hW.alike hK, hD9⟩, hS.F ht⟩) hS.2.2 dX0_lanesOf_38
  · -- no
    have k_4 : v_2.toInt < (40 : Int32).toInt := ci_nge c_4
    refine lv_lload_n hx hb dX0_lanesOf_12 rfl (lv_at hl 3 rfl) ?_
    refine lv_iload hx hb dX0_lanesOf_13 (lv_at hl 0 rfl) ?_
    refine vp_callSi (va_runSN (As := [.long ala, .int v_2]) (rest := []) ⟨hx, hb, hml, hown, hts⟩ (s_X4_isIn l ala v_2 (by first | assumption | omega)) (⟨va_cnB 2 hts h_X0_lanesOf_X4_isIn_102 rfl rfl rfl (hN.2.2.2.2.2.2.2.2.1) (hts (.initialized RX4) (List.mem_of_getElem? (i := 1) rfl)) (by decide +kernel) ⟨Nat.le_of_ble_eq_true rfl, Nat.le_of_ble_eq_true rfl⟩, hts (.static yX4_isIn) (List.mem_of_getElem? (i := 2) rfl), trivial⟩) ⟨fun _ _ _ _ q => q, fun _ _ _ => ⟨rfl, trivial⟩⟩ rfl rfl hl.1 rfl (lv_room (Nat.le_of_ble_eq_true rfl)) dX0_lanesOf_15 ⟨Nat.le_of_ble_eq_true rfl, Nat.le_of_ble_eq_true rfl⟩).run (fun r_5 hw_5 => ?_)
    replace hw_5 : (two r_5 (sbit ala (v_2).toNatClampNeg) 1 0) := hw_5
    have q_r_5 := hw_5
    refine lv_if_eq (tgt := 31) hx hb dX0_lanesOf_18 (by decide) (fun c_6 => ?_) (fun c_6 => ?_)
    · -- yes
      have k_6 : r_5.toInt = (0 : Int32).toInt := ci_eq c_6
      have kt_6 : ¬ (sbit ala (v_2).toNatClampNeg) := two_z q_r_5 c_6
      refine sf_iinc hx hb dX0_lanesOf_31 hl (k := 0) (x := v_2) (w := 1) rfl (by decide) (by decide) ⟨by omega, by omega⟩ (fun v_7 q_v_7 ls1 hl1 => ?_)
      replace hl : lv_has ls1 5 [(4, .int v_7), (3, .int v_3), (0, .ref fh), (1, .long ala)] := hl1
      clear hl1
      refine lv_goto (tgt := 5) hx hb dX0_lanesOf_34 (by decide) ?_
      exact ih_1 (v_7, v_3) (show (0 ≤ v_7.toInt ∧ v_7.toInt ≤ 40) ∧ (0 ≤ v_3.toInt ∧ v_3.toInt ≤ 7) ∧ (∀ j : Nat, (j : Int) < v_7.toInt → sbit ala j → ∀ q : Nat, lbit (fc_lanes j) q → lbit v_3 q) from ⟨⟨by omega, by omega⟩, ⟨by omega, by omega⟩, (fun j hj hs => by have b7 := nn_cl2 v_2; by_cases hq : j = v_2.toNatClampNeg; (· subst hq; exact absurd hs kt_6); (· have b8 := x_1_0 j (by omega) hs; exact b8))⟩) (by show (40 - v_7.toInt).toNat < (40 - v_2.toInt).toNat; omega) _ _ _ (hP.sub [0, 1] rfl) (hD.sub [0, 1] (by decide) rfl) hS (lv_sub hl [0, 1, 2, 3] rfl)
    · -- no
      have k_6 : ¬ r_5.toInt = (0 : Int32).toInt := ci_ne c_6
      have kt_6 : sbit ala (v_2).toNatClampNeg := two_nz q_r_5 c_6
      refine lv_iload_n hx hb dX0_lanesOf_21 rfl (lv_at hl 1 rfl) ?_
      refine lv_aload_n hx hb dX0_lanesOf_22 rfl (lv_at hl 2 rfl) ?_
      refine va_get (D := (dC, dI)) (ci := 0) (v := .ref fa_lanes) (C := RX0) (T := TX0) (N := 11) hx hb hts inv_X0_lanesOf_X0 hown hK hP 0 rfl rfl 6 (by decide) (hts (.fieldLink RX0 33 "ArraySegments$Facts" "lanes" "[I") (List.mem_of_getElem? (i := 3) rfl)) (fun _ h9 => h9) rfl dX0_lanesOf_23 ?_
      refine lv_iload hx hb dX0_lanesOf_26 (lv_at hl 0 rfl) ?_
      refine sf_iald kL7 hx hb hK hP 1 0 rfl rfl h_fc_lanes (vp_in_iff.mpr ⟨by omega, by omega⟩) dX0_lanesOf_28 (fun v_8 q_v_8 e_v_8 => ?_)
      have et_v_8 : v_8.toInt = (fc_lanes (v_2).toNatClampNeg).toInt := by rw [e_v_8]
      have ni_9 := nn_cl (z := v_2) (by omega)
      refine lv_ior hx hb dX0_lanesOf_29 ?_
      refine lv_topi (fun v_10 e_v_10 => ?_)
      have qo_v_10 : kL7 v_10 := or7 e_v_10 ⟨by omega, by omega⟩ ⟨by omega, by omega⟩
      refine lv_istore_n (lv' := [(3, .int v_10), (4, .int v_2), (0, .ref fh), (1, .long ala)]) hx hb dX0_lanesOf_30 rfl hl (by decide) rfl (fun ls1 hl1 => ?_)
      replace hl := hl1; clear hl1
      refine sf_iinc hx hb dX0_lanesOf_31 hl (k := 1) (x := v_2) (w := 1) rfl (by decide) (by decide) ⟨by omega, by omega⟩ (fun v_11 q_v_11 ls1 hl1 => ?_)
      replace hl : lv_has ls1 5 [(4, .int v_11), (3, .int v_10), (0, .ref fh), (1, .long ala)] := hl1
      clear hl1
      refine lv_goto (tgt := 5) hx hb dX0_lanesOf_34 (by decide) ?_
      exact ih_1 (v_11, v_10) (show (0 ≤ v_11.toInt ∧ v_11.toInt ≤ 40) ∧ (0 ≤ v_10.toInt ∧ v_10.toInt ≤ 7) ∧ (∀ j : Nat, (j : Int) < v_11.toInt → sbit ala j → ∀ q : Nat, lbit (fc_lanes j) q → lbit v_10 q) from ⟨⟨by omega, by omega⟩, ⟨by omega, by omega⟩, (fun j hj hs => by have b7 := nn_cl2 v_2; by_cases hq : j = v_2.toNatClampNeg; (· subst hq; intro q h; rw [← e_v_8] at h; exact (lb_or e_v_10 q).mpr (Or.inr h)); (· have b8 := x_1_0 j (by omega) hs; exact fun q h => (lb_or e_v_10 q).mpr (Or.inl (b8 q h))))⟩) (by show (40 - v_11.toInt).toNat < (40 - v_2.toInt).toNat; omega) _ _ _ (hP.sub [0, 1] rfl) (hD.sub [0, 1] (by decide) rfl) hS (lv_sub hl [0, 1, 2, 3] rfl)

def v_X0_longestOf : List Cond := .code yX0_longestOf cX0_longestOf 5 (some .int) :: ([.initialized RX4, .static yX4_isIn, .fieldLink RX0 39 "ArraySegments$Facts" "longest" "[I", .methodLink RX0 68 Lib.Math.max.name, .static Lib.Math.max.name, .initialized "java/lang/Math", .code Lib.Math.max.name Lib.Math.max.code 2 (some .int)] ++ (wsX00 ++ (v_X4_isIn)))
theorem inv_X0_longestOf_X0 : ∀ w ∈ wsX00, w ∈ v_X0_longestOf := fun _ h => List.mem_cons_of_mem _ (List.mem_append_right _ (List.mem_append_left _ h))
theorem im_X0_longestOf_X4_isIn : ∀ w ∈ v_X4_isIn, w ∈ v_X0_longestOf := fun _ h => List.mem_cons_of_mem _ (List.mem_append_right _ (List.mem_append_right _ (h)))
set_option maxRecDepth 20000 in
theorem gd_X0_longestOf : gdL v_X0_longestOf := gdC (gdW (by decide +kernel)) (gdA (gdW (by decide +kernel)) (gdA gd_wsX00 gd_X4_isIn))
theorem h_X0_longestOf_X4_isIn_102 : GoodIn v_X0_longestOf (v_X4_isIn) := fun w h => ⟨im_X0_longestOf_X4_isIn w h, gd_X4_isIn w h⟩
abbrev sw_X0_longestOf (cI cJ cZ : ClassId) (fh : Nat) (f_isReached : Int32) (f_least : Value) (f_greatest : Value) (f_sites : Value) (f_maybeNull : Value) (f_known : Value) (f_lanes : Value) (f_shortest : Value) (fa_longest : Nat) (f_leastAt : Value) (f_greatestAt : Value) (fc_longest : Nat → Int32) (ala : Int64) : va_W := [(fh, .inr (0, [.int f_isReached, f_least, f_greatest, f_sites, f_maybeNull, f_known, f_lanes, f_shortest, .ref fa_longest, f_leastAt, f_greatestAt])), (fa_longest, .inl (cI, 40, .inl fc_longest))]
set_option maxHeartbeats 8000000 in
set_option maxRecDepth 100000 in
theorem s_X0_longestOf (l : Launch) (dC : Nat → ClassId) (dI : Nat → Nat → Nat) (cI cJ cZ : ClassId) (fh : Nat) (f_isReached : Int32) (f_least : Value) (f_greatest : Value) (f_sites : Value) (f_maybeNull : Value) (f_known : Value) (f_lanes : Value) (f_shortest : Value) (fa_longest : Nat) (f_leastAt : Value) (f_greatestAt : Value) (fc_longest : Nat → Int32) (ala : Int64) (sz : Nat) (q_f_isReached : kZ f_isReached) (h_fc_longest : ∀ j : Nat, kLE12 (fc_longest j)) : Met l yX0_longestOf v_X0_longestOf ({ frames := 1, cells := 0, slots := 0, locals := 22 }) (va_Pc [.ref fh, .long ala] (cPre dC dI cI cJ cZ sz (sw_X0_longestOf cI cJ cZ fh f_isReached f_least f_greatest f_sites f_maybeNull f_known f_lanes f_shortest fa_longest f_leastAt f_greatestAt fc_longest ala))) (va_Qi (fun (r : Int32) (u : Unit) => ((0 ≤ r.toInt ∧ r.toInt ≤ 12) ∧ (∀ j : Nat, j < 40 → sbit ala j → (fc_longest j).toInt ≤ r.toInt))) (fun (u : Unit) => cPost dC dI cI cJ cZ (va_A (sw_X0_longestOf cI cJ cZ fh f_isReached f_least f_greatest f_sites f_maybeNull f_known f_lanes f_shortest fa_longest f_leastAt f_greatestAt fc_longest ala) sz) [(fh, .inr (0, [.int f_isReached, f_least, f_greatest, f_sites, f_maybeNull, f_known, f_lanes, f_shortest, .ref fa_longest, f_leastAt, f_greatestAt])), (fa_longest, .inl (cI, 40, .inl fc_longest))]) (va_A (sw_X0_longestOf cI cJ cZ fh f_isReached f_least f_greatest f_sites f_maybeNull f_known f_lanes f_shortest fa_longest f_leastAt f_greatestAt fc_longest ala) sz)) 0 0 (va_A (sw_X0_longestOf cI cJ cZ fh f_isReached f_least f_greatest f_sites f_maybeNull f_known f_lanes f_shortest fa_longest f_leastAt f_greatestAt fc_longest ala) sz) := by
  refine Met.ofW (cc := cX0_longestOf) (maxL := 5) (ret := (some .int)) (by decide) rfl ?_
  intro p e s m args below meth c s₁ B hml hv
  obtain ⟨rfl, hsz, hP, hK, hD0, hN⟩ := hv
  have hx := B.exec
  have hb := B.bytes
  have hr := B.returns
  have hts := atoms_spec (ws := v_X0_longestOf) B.pre
  have hown : s.vm.findClass RX0 = some m.cls := findClass_of_methodNamed B.named
  have hlocks := B.notSynchronized
  subst hsz
  have hD := hD0.self (sz := s.heap.size)
  generalize hAe : va_A (sw_X0_longestOf cI cJ cZ fh f_isReached f_least f_greatest f_sites f_maybeNull f_known f_lanes f_shortest fa_longest f_leastAt f_greatestAt fc_longest ala) s.heap.size = A at hD ⊢
  have hA : ∀ q : Nat, s.heap.size ≤ q → A q := fun q h => by rw [← hAe]; exact Or.inr h
  clear hAe hD0
  have hS : va_S A s.heap s.heap [] := va_S.rf
  replace hP : va_P (dC, dI) vwCl [(fh, .inr (0, [.int f_isReached, f_least, f_greatest, f_sites, f_maybeNull, f_known, f_lanes, f_shortest, .ref fa_longest, f_leastAt, f_greatestAt])), (fa_longest, .inl (cI, 40, .inl fc_longest))] s.heap := hP
  replace hD : va_D A [(fh, .inr (0, [.int f_isReached, f_least, f_greatest, f_sites, f_maybeNull, f_known, f_lanes, f_shortest, .ref fa_longest, f_leastAt, f_greatestAt])), (fa_longest, .inl (cI, 40, .inl fc_longest))] := hD
  have hl := lv_entry ([.ref fh, .long ala]) (n := 5) (Nat.le_of_ble_eq_true rfl)
  rw [lg_entry_eq]
  generalize (lg_sl ([.ref fh, .long ala]) ++ List.replicate (5 - (lg_sl ([.ref fh, .long ala])).length) Slot.unset).toArray = ls at hl ⊢
  replace hl : lv_has ls 5 [(0, .ref fh), (1, .long ala)] := hl
  have z_0 : (0 : Int32).toInt = 0 := by decide
  have z_1 : (1 : Int32).toInt = 1 := by decide
  have z_40 : (40 : Int32).toInt = 40 := by decide
  refine lv_iconst (v := 0) hx hb dX0_longestOf_0 (by decide) ?_
  refine lv_istore_n (lv' := [(3, .int 0), (0, .ref fh), (1, .long ala)]) hx hb dX0_longestOf_1 rfl hl (by decide) rfl (fun ls1 hl1 => ?_)
  replace hl := hl1; clear hl1
  refine lv_iconst (v := 0) hx hb dX0_longestOf_2 (by decide) ?_
  refine lv_istore (lv' := [(4, .int 0), (3, .int 0), (0, .ref fh), (1, .long ala)]) hx hb dX0_longestOf_3 hl (by decide) rfl (fun ls1 hl1 => ?_)
  replace hl := hl1; clear hl1
  refine my_wloop (S := Int32 × Int32) (fun u => (0 ≤ (u.1).toInt ∧ (u.1).toInt ≤ 40) ∧ (0 ≤ (u.2).toInt ∧ (u.2).toInt ≤ 12) ∧ (∀ j : Nat, (j : Int) < (u.1).toInt → sbit ala j → (fc_longest j).toInt ≤ (u.2).toInt)) (fun u => (40 - (u.1).toInt).toNat) (fun u => [(fh, .inr (0, [.int f_isReached, f_least, f_greatest, f_sites, f_maybeNull, f_known, f_lanes, f_shortest, .ref fa_longest, f_leastAt, f_greatestAt])), (fa_longest, .inl (cI, 40, .inl fc_longest))]) (fun u => [(4, .int (u.1)), (3, .int (u.2)), (0, .ref fh), (1, .long ala)]) (H0 := s.heap) (A := A) (D := (dC, dI)) (cl := vwCl) ((0 : Int32), (0 : Int32)) (show (0 ≤ (0 : Int32).toInt ∧ (0 : Int32).toInt ≤ 40) ∧ (0 ≤ (0 : Int32).toInt ∧ (0 : Int32).toInt ≤ 12) ∧ (∀ j : Nat, (j : Int) < (0 : Int32).toInt → sbit ala j → (fc_longest j).toInt ≤ (0 : Int32).toInt) from ⟨⟨by omega, by omega⟩, ⟨by omega, by omega⟩, (fun j hj => by omega)⟩) (by exact hP) (by exact hD) hS (by exact hl) (fun u_1 hu_1 ih_1 H_1 locs_1 ls1 hP1 hD1 hS1 hl1 => ?_)
  obtain ⟨v_2, v_3⟩ := u_1
  replace hu_1 : (0 ≤ v_2.toInt ∧ v_2.toInt ≤ 40) ∧ (0 ≤ v_3.toInt ∧ v_3.toInt ≤ 12) ∧ (∀ j : Nat, (j : Int) < v_2.toInt → sbit ala j → (fc_longest j).toInt ≤ v_3.toInt) := hu_1
  obtain ⟨q_v_2, q_v_3, x_1_0⟩ := hu_1
  replace hP : va_P (dC, dI) vwCl [(fh, .inr (0, [.int f_isReached, f_least, f_greatest, f_sites, f_maybeNull, f_known, f_lanes, f_shortest, .ref fa_longest, f_leastAt, f_greatestAt])), (fa_longest, .inl (cI, 40, .inl fc_longest))] H_1 := hP1
  replace hD : va_D A [(fh, .inr (0, [.int f_isReached, f_least, f_greatest, f_sites, f_maybeNull, f_known, f_lanes, f_shortest, .ref fa_longest, f_leastAt, f_greatestAt])), (fa_longest, .inl (cI, 40, .inl fc_longest))] := hD1
  replace hS := hS1
  clear hP1 hD1 hS1
  replace hl : lv_has ls1 5 [(4, .int v_2), (3, .int v_3), (0, .ref fh), (1, .long ala)] := hl1
  clear hl1
  refine lv_iload hx hb dX0_longestOf_5 (lv_at hl 0 rfl) ?_
  refine lv_bipush (v := 40) hx hb dX0_longestOf_7 (by decide) ?_
  refine lv_icmp_ge (tgt := 39) hx hb dX0_longestOf_9 (by decide) (fun c_4 => ?_) (fun c_4 => ?_)
  · -- yes
    have k_4 : (40 : Int32).toInt ≤ v_2.toInt := ci_ge c_4
    refine lv_iload_n hx hb dX0_longestOf_39 rfl (lv_at hl 1 rfl) ?_
    have hP9 := hP.sub (ws' := [(fh, .inr (0, [.int f_isReached, f_least, f_greatest, f_sites, f_maybeNull, f_known, f_lanes, f_shortest, .ref fa_longest, f_leastAt, f_greatestAt])), (fa_longest, .inl (cI, 40, .inl fc_longest))]) [0, 1] rfl
    have hD9 := hD.sub (ws' := [(fh, .inr (0, [.int f_isReached, f_least, f_greatest, f_sites, f_maybeNull, f_known, f_lanes, f_shortest, .ref fa_longest, f_leastAt, f_greatestAt])), (fa_longest, .inl (cI, 40, .inl fc_longest))]) [0, 1] (by decide) rfl
    exact W.iret (v := v_3) hx hb hr (fun t ht hW => ⟨⟨v_3, (), rfl, (show (0 ≤ v_3.toInt ∧ v_3.toInt ≤ 12) ∧ (∀ j : Nat, j < 40 → sbit ala j → (fc_longest j).toInt ≤ v_3.toInt) from ⟨by omega, fun j hj => x_1_0 j (by omega)⟩), by rw [ht]; exact hP9, va_K.moved hW.alike hK, hD9⟩, hS.F ht⟩) hS.2.2 dX0_longestOf_40
  · -- no
    have k_4 : v_2.toInt < (40 : Int32).toInt := ci_nge c_4
    refine lv_lload_n hx hb dX0_longestOf_12 rfl (lv_at hl 3 rfl) ?_
    refine lv_iload hx hb dX0_longestOf_13 (lv_at hl 0 rfl) ?_
    refine vp_callSi (va_runSN (As := [.long ala, .int v_2]) (rest := []) ⟨hx, hb, hml, hown, hts⟩ (s_X4_isIn l ala v_2 (by first | assumption | omega)) (⟨va_cnB 2 hts h_X0_longestOf_X4_isIn_102 rfl rfl rfl (hN.2.2.2.2.2.2.2.2.1) (hts (.initialized RX4) (List.mem_of_getElem? (i := 1) rfl)) (by decide +kernel) ⟨Nat.le_of_ble_eq_true rfl, Nat.le_of_ble_eq_true rfl⟩, hts (.static yX4_isIn) (List.mem_of_getElem? (i := 2) rfl), trivial⟩) ⟨fun _ _ _ _ q => q, fun _ _ _ => ⟨rfl, trivial⟩⟩ rfl rfl hl.1 rfl (lv_room (Nat.le_of_ble_eq_true rfl)) dX0_longestOf_15 ⟨Nat.le_of_ble_eq_true rfl, Nat.le_of_ble_eq_true rfl⟩).run (fun r_5 hw_5 => ?_)
    replace hw_5 : (two r_5 (sbit ala (v_2).toNatClampNeg) 1 0) := hw_5
    have q_r_5 := hw_5
    refine lv_if_eq (tgt := 33) hx hb dX0_longestOf_18 (by decide) (fun c_6 => ?_) (fun c_6 => ?_)
    · -- yes
      have k_6 : r_5.toInt = (0 : Int32).toInt := ci_eq c_6
      have kt_6 : ¬ (sbit ala (v_2).toNatClampNeg) := two_z q_r_5 c_6
      refine sf_iinc hx hb dX0_longestOf_33 hl (k := 0) (x := v_2) (w := 1) rfl (by decide) (by decide) ⟨by omega, by omega⟩ (fun v_7 q_v_7 ls1 hl1 => ?_)
      replace hl : lv_has ls1 5 [(4, .int v_7), (3, .int v_3), (0, .ref fh), (1, .long ala)] := hl1
      clear hl1
      refine lv_goto (tgt := 5) hx hb dX0_longestOf_36 (by decide) ?_
      exact ih_1 (v_7, v_3) (show (0 ≤ v_7.toInt ∧ v_7.toInt ≤ 40) ∧ (0 ≤ v_3.toInt ∧ v_3.toInt ≤ 12) ∧ (∀ j : Nat, (j : Int) < v_7.toInt → sbit ala j → (fc_longest j).toInt ≤ v_3.toInt) from ⟨⟨by omega, by omega⟩, ⟨by omega, by omega⟩, (fun j hj hs => by have b7 := nn_cl2 v_2; by_cases hq : j = v_2.toNatClampNeg; (· subst hq; exact absurd hs kt_6); (· have b8 := x_1_0 j (by omega) hs; omega))⟩) (by show (40 - v_7.toInt).toNat < (40 - v_2.toInt).toNat; omega) _ _ _ (hP.sub [0, 1] rfl) (hD.sub [0, 1] (by decide) rfl) hS (lv_sub hl [0, 1, 2, 3] rfl)
    · -- no
      have k_6 : ¬ r_5.toInt = (0 : Int32).toInt := ci_ne c_6
      have kt_6 : sbit ala (v_2).toNatClampNeg := two_nz q_r_5 c_6
      refine lv_iload_n hx hb dX0_longestOf_21 rfl (lv_at hl 1 rfl) ?_
      refine lv_aload_n hx hb dX0_longestOf_22 rfl (lv_at hl 2 rfl) ?_
      refine va_get (D := (dC, dI)) (ci := 0) (v := .ref fa_longest) (C := RX0) (T := TX0) (N := 11) hx hb hts inv_X0_longestOf_X0 hown hK hP 0 rfl rfl 8 (by decide) (hts (.fieldLink RX0 39 "ArraySegments$Facts" "longest" "[I") (List.mem_of_getElem? (i := 3) rfl)) (fun _ h9 => h9) rfl dX0_longestOf_23 ?_
      refine lv_iload hx hb dX0_longestOf_26 (lv_at hl 0 rfl) ?_
      refine sf_iald kLE12 hx hb hK hP 1 0 rfl rfl h_fc_longest (vp_in_iff.mpr ⟨by omega, by omega⟩) dX0_longestOf_28 (fun v_8 q_v_8 e_v_8 => ?_)
      have et_v_8 : v_8.toInt = (fc_longest (v_2).toNatClampNeg).toInt := by rw [e_v_8]
      have ni_9 := nn_cl (z := v_2) (by omega)
      have ir_v_8 := i32r v_8
      have ir_11 := i32r v_8
      refine sf_mmax hx hb (by rw [hml]; exact hl.1.symm) hown (hts (.methodLink RX0 68 Lib.Math.max.name) (List.mem_of_getElem? (i := 4) rfl)) (hts (.static Lib.Math.max.name) (List.mem_of_getElem? (i := 5) rfl)) (hts (.initialized "java/lang/Math") (List.mem_of_getElem? (i := 6) rfl)) (hts (.code Lib.Math.max.name Lib.Math.max.code 2 (some .int)) (List.mem_of_getElem? (i := 7) rfl)) (Nat.le_of_ble_eq_true rfl) (Nat.le_of_ble_eq_true rfl) (Nat.le_of_ble_eq_true rfl) (Nat.le_of_ble_eq_true rfl) dX0_longestOf_29 (fun v_10 q_v_10 => ?_)
      have qi_v_10 : 0 ≤ v_10.toInt ∧ v_10.toInt ≤ 12 := by omega
      refine lv_istore_n (lv' := [(3, .int v_10), (4, .int v_2), (0, .ref fh), (1, .long ala)]) hx hb dX0_longestOf_32 rfl hl (by decide) rfl (fun ls1 hl1 => ?_)
      replace hl := hl1; clear hl1
      refine sf_iinc hx hb dX0_longestOf_33 hl (k := 1) (x := v_2) (w := 1) rfl (by decide) (by decide) ⟨by omega, by omega⟩ (fun v_12 q_v_12 ls1 hl1 => ?_)
      replace hl : lv_has ls1 5 [(4, .int v_12), (3, .int v_10), (0, .ref fh), (1, .long ala)] := hl1
      clear hl1
      refine lv_goto (tgt := 5) hx hb dX0_longestOf_36 (by decide) ?_
      exact ih_1 (v_12, v_10) (show (0 ≤ v_12.toInt ∧ v_12.toInt ≤ 40) ∧ (0 ≤ v_10.toInt ∧ v_10.toInt ≤ 12) ∧ (∀ j : Nat, (j : Int) < v_12.toInt → sbit ala j → (fc_longest j).toInt ≤ v_10.toInt) from ⟨⟨by omega, by omega⟩, ⟨by omega, by omega⟩, (fun j hj hs => by have b7 := nn_cl2 v_2; by_cases hq : j = v_2.toNatClampNeg; (· subst hq; omega); (· have b8 := x_1_0 j (by omega) hs; omega))⟩) (by show (40 - v_12.toInt).toNat < (40 - v_2.toInt).toNat; omega) _ _ _ (hP.sub [0, 1] rfl) (hD.sub [0, 1] (by decide) rfl) hS (lv_sub hl [0, 1, 2, 3] rfl)

def v_X0_someMayHaveFewer : List Cond := .code yX0_someMayHaveFewer cX0_someMayHaveFewer 6 (some .boolean) :: ([.initialized RX4, .static yX4_isIn, .fieldLink RX0 36 "ArraySegments$Facts" "shortest" "[I"] ++ (wsX00 ++ (v_X4_isIn)))
theorem inv_X0_someMayHaveFewer_X0 : ∀ w ∈ wsX00, w ∈ v_X0_someMayHaveFewer := fun _ h => List.mem_cons_of_mem _ (List.mem_append_right _ (List.mem_append_left _ h))
theorem im_X0_someMayHaveFewer_X4_isIn : ∀ w ∈ v_X4_isIn, w ∈ v_X0_someMayHaveFewer := fun _ h => List.mem_cons_of_mem _ (List.mem_append_right _ (List.mem_append_right _ (h)))
set_option maxRecDepth 20000 in
theorem gd_X0_someMayHaveFewer : gdL v_X0_someMayHaveFewer := gdC (gdW (by decide +kernel)) (gdA (gdW (by decide +kernel)) (gdA gd_wsX00 gd_X4_isIn))
theorem h_X0_someMayHaveFewer_X4_isIn_102 : GoodIn v_X0_someMayHaveFewer (v_X4_isIn) := fun w h => ⟨im_X0_someMayHaveFewer_X4_isIn w h, gd_X4_isIn w h⟩
abbrev sw_X0_someMayHaveFewer (cI cJ cZ : ClassId) (fh : Nat) (f_isReached : Int32) (f_least : Value) (f_greatest : Value) (f_sites : Value) (f_maybeNull : Value) (f_known : Value) (f_lanes : Value) (fa_shortest : Nat) (f_longest : Value) (f_leastAt : Value) (f_greatestAt : Value) (fc_shortest : Nat → Int32) (ala : Int64) (wa : Int64) : va_W := [(fh, .inr (0, [.int f_isReached, f_least, f_greatest, f_sites, f_maybeNull, f_known, f_lanes, .ref fa_shortest, f_longest, f_leastAt, f_greatestAt])), (fa_shortest, .inl (cI, 40, .inl fc_shortest))]
set_option maxHeartbeats 8000000 in
set_option maxRecDepth 100000 in
theorem s_X0_someMayHaveFewer (l : Launch) (dC : Nat → ClassId) (dI : Nat → Nat → Nat) (cI cJ cZ : ClassId) (fh : Nat) (f_isReached : Int32) (f_least : Value) (f_greatest : Value) (f_sites : Value) (f_maybeNull : Value) (f_known : Value) (f_lanes : Value) (fa_shortest : Nat) (f_longest : Value) (f_leastAt : Value) (f_greatestAt : Value) (fc_shortest : Nat → Int32) (ala : Int64) (wa : Int64) (sz : Nat) (q_f_isReached : kZ f_isReached) : Met l yX0_someMayHaveFewer v_X0_someMayHaveFewer ({ frames := 1, cells := 0, slots := 0, locals := 22 }) (va_Pc [.ref fh, .long ala, .long wa] (cPre dC dI cI cJ cZ sz (sw_X0_someMayHaveFewer cI cJ cZ fh f_isReached f_least f_greatest f_sites f_maybeNull f_known f_lanes fa_shortest f_longest f_leastAt f_greatestAt fc_shortest ala wa))) (va_Qi (fun (r : Int32) (u : Unit) => (kZ r) ∧ (¬ r.toInt = 0 ∨ (∀ j : Nat, j < 40 → sbit ala j → wa.toInt ≤ (fc_shortest j).toInt))) (fun (u : Unit) => cPost dC dI cI cJ cZ (va_A (sw_X0_someMayHaveFewer cI cJ cZ fh f_isReached f_least f_greatest f_sites f_maybeNull f_known f_lanes fa_shortest f_longest f_leastAt f_greatestAt fc_shortest ala wa) sz) [(fh, .inr (0, [.int f_isReached, f_least, f_greatest, f_sites, f_maybeNull, f_known, f_lanes, .ref fa_shortest, f_longest, f_leastAt, f_greatestAt])), (fa_shortest, .inl (cI, 40, .inl fc_shortest))]) (va_A (sw_X0_someMayHaveFewer cI cJ cZ fh f_isReached f_least f_greatest f_sites f_maybeNull f_known f_lanes fa_shortest f_longest f_leastAt f_greatestAt fc_shortest ala wa) sz)) 0 0 (va_A (sw_X0_someMayHaveFewer cI cJ cZ fh f_isReached f_least f_greatest f_sites f_maybeNull f_known f_lanes fa_shortest f_longest f_leastAt f_greatestAt fc_shortest ala wa) sz) := by
  refine Met.ofW (cc := cX0_someMayHaveFewer) (maxL := 6) (ret := (some .boolean)) (by decide) rfl ?_
  intro p e s m args below meth c s₁ B hml hv
  obtain ⟨rfl, hsz, hP, hK, hD0, hN⟩ := hv
  have hx := B.exec
  have hb := B.bytes
  have hr := B.returns
  have hts := atoms_spec (ws := v_X0_someMayHaveFewer) B.pre
  have hown : s.vm.findClass RX0 = some m.cls := findClass_of_methodNamed B.named
  have hlocks := B.notSynchronized
  subst hsz
  have hD := hD0.self (sz := s.heap.size)
  generalize hAe : va_A (sw_X0_someMayHaveFewer cI cJ cZ fh f_isReached f_least f_greatest f_sites f_maybeNull f_known f_lanes fa_shortest f_longest f_leastAt f_greatestAt fc_shortest ala wa) s.heap.size = A at hD ⊢
  have hA : ∀ q : Nat, s.heap.size ≤ q → A q := fun q h => by rw [← hAe]; exact Or.inr h
  clear hAe hD0
  have hS : va_S A s.heap s.heap [] := va_S.rf
  replace hP : va_P (dC, dI) vwCl [(fh, .inr (0, [.int f_isReached, f_least, f_greatest, f_sites, f_maybeNull, f_known, f_lanes, .ref fa_shortest, f_longest, f_leastAt, f_greatestAt])), (fa_shortest, .inl (cI, 40, .inl fc_shortest))] s.heap := hP
  replace hD : va_D A [(fh, .inr (0, [.int f_isReached, f_least, f_greatest, f_sites, f_maybeNull, f_known, f_lanes, .ref fa_shortest, f_longest, f_leastAt, f_greatestAt])), (fa_shortest, .inl (cI, 40, .inl fc_shortest))] := hD
  have hl := lv_entry ([.ref fh, .long ala, .long wa]) (n := 6) (Nat.le_of_ble_eq_true rfl)
  rw [lg_entry_eq]
  generalize (lg_sl ([.ref fh, .long ala, .long wa]) ++ List.replicate (6 - (lg_sl ([.ref fh, .long ala, .long wa])).length) Slot.unset).toArray = ls at hl ⊢
  replace hl : lv_has ls 6 [(0, .ref fh), (1, .long ala), (3, .long wa)] := hl
  have z_0 : (0 : Int32).toInt = 0 := by decide
  have z_1 : (1 : Int32).toInt = 1 := by decide
  have z_40 : (40 : Int32).toInt = 40 := by decide
  refine lv_iconst (v := 0) hx hb dX0_someMayHaveFewer_0 (by decide) ?_
  refine lv_istore (lv' := [(5, .int 0), (0, .ref fh), (1, .long ala), (3, .long wa)]) hx hb dX0_someMayHaveFewer_1 hl (by decide) rfl (fun ls1 hl1 => ?_)
  replace hl := hl1; clear hl1
  refine my_wloop (S := Int32) (fun u => (0 ≤ (u).toInt ∧ (u).toInt ≤ 40) ∧ (∀ j : Nat, (j : Int) < (u).toInt → sbit ala j → wa.toInt ≤ (fc_shortest j).toInt)) (fun u => (40 - (u).toInt).toNat) (fun u => [(fh, .inr (0, [.int f_isReached, f_least, f_greatest, f_sites, f_maybeNull, f_known, f_lanes, .ref fa_shortest, f_longest, f_leastAt, f_greatestAt])), (fa_shortest, .inl (cI, 40, .inl fc_shortest))]) (fun u => [(5, .int (u)), (0, .ref fh), (1, .long ala), (3, .long wa)]) (H0 := s.heap) (A := A) (D := (dC, dI)) (cl := vwCl) (0 : Int32) (show (0 ≤ (0 : Int32).toInt ∧ (0 : Int32).toInt ≤ 40) ∧ (∀ j : Nat, (j : Int) < (0 : Int32).toInt → sbit ala j → wa.toInt ≤ (fc_shortest j).toInt) from ⟨⟨by omega, by omega⟩, (fun j hj => by omega)⟩) (by exact hP) (by exact hD) hS (by exact hl) (fun u_1 hu_1 ih_1 H_1 locs_1 ls1 hP1 hD1 hS1 hl1 => ?_)
  obtain ⟨v_2, rfl⟩ : ∃ z, z = u_1 := ⟨_, rfl⟩
  replace hu_1 : (0 ≤ v_2.toInt ∧ v_2.toInt ≤ 40) ∧ (∀ j : Nat, (j : Int) < v_2.toInt → sbit ala j → wa.toInt ≤ (fc_shortest j).toInt) := hu_1
  obtain ⟨q_v_2, x_1_0⟩ := hu_1
  replace hP : va_P (dC, dI) vwCl [(fh, .inr (0, [.int f_isReached, f_least, f_greatest, f_sites, f_maybeNull, f_known, f_lanes, .ref fa_shortest, f_longest, f_leastAt, f_greatestAt])), (fa_shortest, .inl (cI, 40, .inl fc_shortest))] H_1 := hP1
  replace hD : va_D A [(fh, .inr (0, [.int f_isReached, f_least, f_greatest, f_sites, f_maybeNull, f_known, f_lanes, .ref fa_shortest, f_longest, f_leastAt, f_greatestAt])), (fa_shortest, .inl (cI, 40, .inl fc_shortest))] := hD1
  replace hS := hS1
  clear hP1 hD1 hS1
  replace hl : lv_has ls1 6 [(5, .int v_2), (0, .ref fh), (1, .long ala), (3, .long wa)] := hl1
  clear hl1
  refine lv_iload hx hb dX0_someMayHaveFewer_3 (lv_at hl 0 rfl) ?_
  refine lv_bipush (v := 40) hx hb dX0_someMayHaveFewer_5 (by decide) ?_
  refine lv_icmp_ge (tgt := 40) hx hb dX0_someMayHaveFewer_7 (by decide) (fun c_3 => ?_) (fun c_3 => ?_)
  · -- yes
    have k_3 : (40 : Int32).toInt ≤ v_2.toInt := ci_ge c_3
    refine lv_iconst (v := 0) hx hb dX0_someMayHaveFewer_40 (by decide) ?_
    have hP9 := hP.sub (ws' := [(fh, .inr (0, [.int f_isReached, f_least, f_greatest, f_sites, f_maybeNull, f_known, f_lanes, .ref fa_shortest, f_longest, f_leastAt, f_greatestAt])), (fa_shortest, .inl (cI, 40, .inl fc_shortest))]) [0, 1] rfl
    have hD9 := hD.sub (ws' := [(fh, .inr (0, [.int f_isReached, f_least, f_greatest, f_sites, f_maybeNull, f_known, f_lanes, .ref fa_shortest, f_longest, f_leastAt, f_greatestAt])), (fa_shortest, .inl (cI, 40, .inl fc_shortest))]) [0, 1] (by decide) rfl
    exact W.zret (v := 0) (ty := .boolean) hx hb hr rfl (fun t ht hW => ⟨⟨0, (), rfl, ⟨(show kZ (0 : Int32) from (by decide)), (show ¬ (0 : Int32).toInt = 0 ∨ (∀ j : Nat, j < 40 → sbit ala j → wa.toInt ≤ (fc_shortest j).toInt) from (Or.inr (fun j hj => x_1_0 j (by omega))))⟩, by rw [ht]; exact hP9, va_K.moved hW.alike hK, hD9⟩, hS.F ht⟩) hS.2.2 dX0_someMayHaveFewer_41
  · -- no
    have k_3 : v_2.toInt < (40 : Int32).toInt := ci_nge c_3
    refine lv_lload_n hx hb dX0_someMayHaveFewer_10 rfl (lv_at hl 2 rfl) ?_
    refine lv_iload hx hb dX0_someMayHaveFewer_11 (lv_at hl 0 rfl) ?_
    refine vp_callSi (va_runSN (As := [.long ala, .int v_2]) (rest := []) ⟨hx, hb, hml, hown, hts⟩ (s_X4_isIn l ala v_2 (by first | assumption | omega)) (⟨va_cnB 2 hts h_X0_someMayHaveFewer_X4_isIn_102 rfl rfl rfl (hN.2.2.2.2.2.2.2.2.1) (hts (.initialized RX4) (List.mem_of_getElem? (i := 1) rfl)) (by decide +kernel) ⟨Nat.le_of_ble_eq_true rfl, Nat.le_of_ble_eq_true rfl⟩, hts (.static yX4_isIn) (List.mem_of_getElem? (i := 2) rfl), trivial⟩) ⟨fun _ _ _ _ q => q, fun _ _ _ => ⟨rfl, trivial⟩⟩ rfl rfl hl.1 rfl (lv_room (Nat.le_of_ble_eq_true rfl)) dX0_someMayHaveFewer_13 ⟨Nat.le_of_ble_eq_true rfl, Nat.le_of_ble_eq_true rfl⟩).run (fun r_4 hw_4 => ?_)
    replace hw_4 : (two r_4 (sbit ala (v_2).toNatClampNeg) 1 0) := hw_4
    have q_r_4 := hw_4
    refine lv_if_eq (tgt := 34) hx hb dX0_someMayHaveFewer_16 (by decide) (fun c_5 => ?_) (fun c_5 => ?_)
    · -- yes
      have k_5 : r_4.toInt = (0 : Int32).toInt := ci_eq c_5
      have kt_5 : ¬ (sbit ala (v_2).toNatClampNeg) := two_z q_r_4 c_5
      refine sf_iinc hx hb dX0_someMayHaveFewer_34 hl (k := 0) (x := v_2) (w := 1) rfl (by decide) (by decide) ⟨by omega, by omega⟩ (fun v_6 q_v_6 ls1 hl1 => ?_)
      replace hl : lv_has ls1 6 [(5, .int v_6), (0, .ref fh), (1, .long ala), (3, .long wa)] := hl1
      clear hl1
      refine lv_goto (tgt := 3) hx hb dX0_someMayHaveFewer_37 (by decide) ?_
      exact ih_1 v_6 (show (0 ≤ v_6.toInt ∧ v_6.toInt ≤ 40) ∧ (∀ j : Nat, (j : Int) < v_6.toInt → sbit ala j → wa.toInt ≤ (fc_shortest j).toInt) from ⟨⟨by omega, by omega⟩, (fun j hj hs => by have b7 := nn_cl2 v_2; by_cases hq : j = v_2.toNatClampNeg; (· subst hq; exact absurd hs kt_5); (· have b8 := x_1_0 j (by omega) hs; omega))⟩) (by show (40 - v_6.toInt).toNat < (40 - v_2.toInt).toNat; omega) _ _ _ (hP.sub [0, 1] rfl) (hD.sub [0, 1] (by decide) rfl) hS (lv_sub hl [0, 1, 2, 3] rfl)
    · -- no
      have k_5 : ¬ r_4.toInt = (0 : Int32).toInt := ci_ne c_5
      have kt_5 : sbit ala (v_2).toNatClampNeg := two_nz q_r_4 c_5
      refine lv_aload_n hx hb dX0_someMayHaveFewer_19 rfl (lv_at hl 1 rfl) ?_
      refine va_get (D := (dC, dI)) (ci := 0) (v := .ref fa_shortest) (C := RX0) (T := TX0) (N := 11) hx hb hts inv_X0_someMayHaveFewer_X0 hown hK hP 0 rfl rfl 7 (by decide) (hts (.fieldLink RX0 36 "ArraySegments$Facts" "shortest" "[I") (List.mem_of_getElem? (i := 3) rfl)) (fun _ h9 => h9) rfl dX0_someMayHaveFewer_20 ?_
      refine lv_iload hx hb dX0_someMayHaveFewer_23 (lv_at hl 0 rfl) ?_
      refine sf_iald kT hx hb hK hP 1 0 rfl rfl (fun _ => trivial) (vp_in_iff.mpr ⟨by omega, by omega⟩) dX0_someMayHaveFewer_25 (fun v_7 q_v_7 e_v_7 => ?_)
      have et_v_7 : v_7.toInt = (fc_shortest (v_2).toNatClampNeg).toInt := by rw [e_v_7]
      have ni_8 := nn_cl (z := v_2) (by omega)
      have ir_v_7 := i32r v_7
      refine sf_i2l hx hb dX0_someMayHaveFewer_26 (fun v_9 q_v_9 => ?_)
      refine lv_lload_n hx hb dX0_someMayHaveFewer_27 rfl (lv_at hl 3 rfl) ?_
      refine W.lcmp hx hb dX0_someMayHaveFewer_28 ?_
      refine lv_if_ge (tgt := 34) hx hb dX0_someMayHaveFewer_29 (by decide) (fun c_10 => ?_) (fun c_10 => ?_)
      · -- yes
        have k_10 : wa.toInt ≤ v_9.toInt := lc_ge c_10
        refine sf_iinc hx hb dX0_someMayHaveFewer_34 hl (k := 0) (x := v_2) (w := 1) rfl (by decide) (by decide) ⟨by omega, by omega⟩ (fun v_11 q_v_11 ls1 hl1 => ?_)
        replace hl : lv_has ls1 6 [(5, .int v_11), (0, .ref fh), (1, .long ala), (3, .long wa)] := hl1
        clear hl1
        refine lv_goto (tgt := 3) hx hb dX0_someMayHaveFewer_37 (by decide) ?_
        exact ih_1 v_11 (show (0 ≤ v_11.toInt ∧ v_11.toInt ≤ 40) ∧ (∀ j : Nat, (j : Int) < v_11.toInt → sbit ala j → wa.toInt ≤ (fc_shortest j).toInt) from ⟨⟨by omega, by omega⟩, (fun j hj hs => by have b7 := nn_cl2 v_2; by_cases hq : j = v_2.toNatClampNeg; (· subst hq; omega); (· have b8 := x_1_0 j (by omega) hs; omega))⟩) (by show (40 - v_11.toInt).toNat < (40 - v_2.toInt).toNat; omega) _ _ _ (hP.sub [0, 1] rfl) (hD.sub [0, 1] (by decide) rfl) hS (lv_sub hl [0, 1, 2, 3] rfl)
      · -- no
        have k_10 : v_9.toInt < wa.toInt := lc_nge c_10
        refine lv_iconst (v := 1) hx hb dX0_someMayHaveFewer_32 (by decide) ?_
        have hP9 := hP.sub (ws' := [(fh, .inr (0, [.int f_isReached, f_least, f_greatest, f_sites, f_maybeNull, f_known, f_lanes, .ref fa_shortest, f_longest, f_leastAt, f_greatestAt])), (fa_shortest, .inl (cI, 40, .inl fc_shortest))]) [0, 1] rfl
        have hD9 := hD.sub (ws' := [(fh, .inr (0, [.int f_isReached, f_least, f_greatest, f_sites, f_maybeNull, f_known, f_lanes, .ref fa_shortest, f_longest, f_leastAt, f_greatestAt])), (fa_shortest, .inl (cI, 40, .inl fc_shortest))]) [0, 1] (by decide) rfl
        exact W.zret (v := 1) (ty := .boolean) hx hb hr rfl (fun t ht hW => ⟨⟨1, (), rfl, ⟨(show kZ (1 : Int32) from (by decide)), (show ¬ (1 : Int32).toInt = 0 ∨ (∀ j : Nat, j < 40 → sbit ala j → wa.toInt ≤ (fc_shortest j).toInt) from (Or.inl (by decide)))⟩, by rw [ht]; exact hP9, va_K.moved hW.alike hK, hD9⟩, hS.F ht⟩) hS.2.2 dX0_someMayHaveFewer_33

def v_X0_putSpan : List Cond := .code yX0_putSpan cX0_putSpan 10 none :: ([.methodLink RX0 68 Lib.Math.max.name, .static Lib.Math.max.name, .initialized "java/lang/Math", .code Lib.Math.max.name Lib.Math.max.code 2 (some .int), .fieldLink RX0 42 "ArraySegments$Facts" "leastAt" "[I", .methodLink RX0 62 Lib.Math.min.name, .static Lib.Math.min.name, .code Lib.Math.min.name Lib.Math.min.code 2 (some .int), .fieldLink RX0 45 "ArraySegments$Facts" "greatestAt" "[I"] ++ (wsX00))
theorem inv_X0_putSpan_X0 : ∀ w ∈ wsX00, w ∈ v_X0_putSpan := fun _ h => List.mem_cons_of_mem _ (List.mem_append_right _ (h))
set_option maxRecDepth 20000 in
theorem gd_X0_putSpan : gdL v_X0_putSpan := gdC (gdW (by decide +kernel)) (gdA (gdW (by decide +kernel)) gd_wsX00)
abbrev sw_X0_putSpan (cI cJ cZ : ClassId) (fh : Nat) (f_isReached : Int32) (f_least : Value) (f_greatest : Value) (f_sites : Value) (f_maybeNull : Value) (f_known : Value) (f_lanes : Value) (f_shortest : Value) (f_longest : Value) (fa_leastAt : Nat) (fa_greatestAt : Nat) (fc_leastAt : Nat → Int32) (fc_greatestAt : Nat → Int32) (ia : Int32) (fa : Int32) (ba : Int64) (loa : Int32) (hia : Int32) (sa : Int32) : va_W := [(fh, .inr (0, [.int f_isReached, f_least, f_greatest, f_sites, f_maybeNull, f_known, f_lanes, f_shortest, f_longest, .ref fa_leastAt, .ref fa_greatestAt])), (fa_leastAt, .inl (cI, 480, .inl fc_leastAt)), (fa_greatestAt, .inl (cI, 480, .inl fc_greatestAt))]
set_option maxHeartbeats 8000000 in
set_option maxRecDepth 100000 in
theorem s_X0_putSpan (l : Launch) (dC : Nat → ClassId) (dI : Nat → Nat → Nat) (cI cJ cZ : ClassId) (fh : Nat) (f_isReached : Int32) (f_least : Value) (f_greatest : Value) (f_sites : Value) (f_maybeNull : Value) (f_known : Value) (f_lanes : Value) (f_shortest : Value) (f_longest : Value) (fa_leastAt : Nat) (fa_greatestAt : Nat) (fc_leastAt : Nat → Int32) (fc_greatestAt : Nat → Int32) (ia : Int32) (fa : Int32) (ba : Int64) (loa : Int32) (hia : Int32) (sa : Int32) (sz : Nat) (q_f_isReached : kZ f_isReached) (hy_ia : 0 ≤ ia.toInt ∧ ia.toInt ≤ 39) : Met l yX0_putSpan v_X0_putSpan ({ frames := 1, cells := 0, slots := 0, locals := 19 }) (va_Pc [.ref fh, .int ia, .int fa, .long ba, .int loa, .int hia, .int sa] (cPre dC dI cI cJ cZ sz (sw_X0_putSpan cI cJ cZ fh f_isReached f_least f_greatest f_sites f_maybeNull f_known f_lanes f_shortest f_longest fa_leastAt fa_greatestAt fc_leastAt fc_greatestAt ia fa ba loa hia sa))) (va_Qv (fun (u : (Nat → Int32) × (Nat → Int32)) => (∀ j : Nat, (12 * ia.toInt ≤ j ∧ 12 * ia.toInt + fa.toInt ≤ j ∧ (j : Int) < 12 * ia.toInt + 12 ∧ (j : Int) < 12 * ia.toInt + ba.toInt → (sa.toInt = 0 → ((u.1) j).toInt ≤ (fc_leastAt j).toInt ∧ ((u.1) j).toInt ≤ loa.toInt ∧ (((u.1) j).toInt = (fc_leastAt j).toInt ∨ ((u.1) j).toInt = loa.toInt)) ∧ (¬ sa.toInt = 0 → ((u.1) j).toInt = loa.toInt)) ∧ (¬ (12 * ia.toInt ≤ j ∧ 12 * ia.toInt + fa.toInt ≤ j ∧ (j : Int) < 12 * ia.toInt + 12 ∧ (j : Int) < 12 * ia.toInt + ba.toInt) → ((u.1) j).toInt = (fc_leastAt j).toInt)) ∧ (∀ j : Nat, (12 * ia.toInt ≤ j ∧ 12 * ia.toInt + fa.toInt ≤ j ∧ (j : Int) < 12 * ia.toInt + 12 ∧ (j : Int) < 12 * ia.toInt + ba.toInt → (sa.toInt = 0 → (fc_greatestAt j).toInt ≤ ((u.2) j).toInt ∧ hia.toInt ≤ ((u.2) j).toInt ∧ (((u.2) j).toInt = (fc_greatestAt j).toInt ∨ ((u.2) j).toInt = hia.toInt)) ∧ (¬ sa.toInt = 0 → ((u.2) j).toInt = hia.toInt)) ∧ (¬ (12 * ia.toInt ≤ j ∧ 12 * ia.toInt + fa.toInt ≤ j ∧ (j : Int) < 12 * ia.toInt + 12 ∧ (j : Int) < 12 * ia.toInt + ba.toInt) → ((u.2) j).toInt = (fc_greatestAt j).toInt))) (fun (u : (Nat → Int32) × (Nat → Int32)) => cPost dC dI cI cJ cZ (va_A (sw_X0_putSpan cI cJ cZ fh f_isReached f_least f_greatest f_sites f_maybeNull f_known f_lanes f_shortest f_longest fa_leastAt fa_greatestAt fc_leastAt fc_greatestAt ia fa ba loa hia sa) sz) [(fh, .inr (0, [.int f_isReached, f_least, f_greatest, f_sites, f_maybeNull, f_known, f_lanes, f_shortest, f_longest, .ref fa_leastAt, .ref fa_greatestAt])), (fa_leastAt, .inl (cI, 480, .inl (u.1))), (fa_greatestAt, .inl (cI, 480, .inl (u.2)))]) (va_A (sw_X0_putSpan cI cJ cZ fh f_isReached f_least f_greatest f_sites f_maybeNull f_known f_lanes f_shortest f_longest fa_leastAt fa_greatestAt fc_leastAt fc_greatestAt ia fa ba loa hia sa) sz)) 0 0 (va_A (sw_X0_putSpan cI cJ cZ fh f_isReached f_least f_greatest f_sites f_maybeNull f_known f_lanes f_shortest f_longest fa_leastAt fa_greatestAt fc_leastAt fc_greatestAt ia fa ba loa hia sa) sz) := by
  refine Met.ofW (cc := cX0_putSpan) (maxL := 10) (ret := none) (by decide) rfl ?_
  intro p e s m args below meth c s₁ B hml hv
  obtain ⟨rfl, hsz, hP, hK, hD0, hN⟩ := hv
  have hx := B.exec
  have hb := B.bytes
  have hr := B.returns
  have hts := atoms_spec (ws := v_X0_putSpan) B.pre
  have hown : s.vm.findClass RX0 = some m.cls := findClass_of_methodNamed B.named
  have hlocks := B.notSynchronized
  subst hsz
  have hD := hD0.self (sz := s.heap.size)
  generalize hAe : va_A (sw_X0_putSpan cI cJ cZ fh f_isReached f_least f_greatest f_sites f_maybeNull f_known f_lanes f_shortest f_longest fa_leastAt fa_greatestAt fc_leastAt fc_greatestAt ia fa ba loa hia sa) s.heap.size = A at hD ⊢
  have hA : ∀ q : Nat, s.heap.size ≤ q → A q := fun q h => by rw [← hAe]; exact Or.inr h
  clear hAe hD0
  have hS : va_S A s.heap s.heap [] := va_S.rf
  replace hP : va_P (dC, dI) vwCl [(fh, .inr (0, [.int f_isReached, f_least, f_greatest, f_sites, f_maybeNull, f_known, f_lanes, f_shortest, f_longest, .ref fa_leastAt, .ref fa_greatestAt])), (fa_leastAt, .inl (cI, 480, .inl fc_leastAt)), (fa_greatestAt, .inl (cI, 480, .inl fc_greatestAt))] s.heap := hP
  replace hD : va_D A [(fh, .inr (0, [.int f_isReached, f_least, f_greatest, f_sites, f_maybeNull, f_known, f_lanes, f_shortest, f_longest, .ref fa_leastAt, .ref fa_greatestAt])), (fa_leastAt, .inl (cI, 480, .inl fc_leastAt)), (fa_greatestAt, .inl (cI, 480, .inl fc_greatestAt))] := hD
  have hl := lv_entry ([.ref fh, .int ia, .int fa, .long ba, .int loa, .int hia, .int sa]) (n := 10) (Nat.le_of_ble_eq_true rfl)
  rw [lg_entry_eq]
  generalize (lg_sl ([.ref fh, .int ia, .int fa, .long ba, .int loa, .int hia, .int sa]) ++ List.replicate (10 - (lg_sl ([.ref fh, .int ia, .int fa, .long ba, .int loa, .int hia, .int sa])).length) Slot.unset).toArray = ls at hl ⊢
  replace hl : lv_has ls 10 [(0, .ref fh), (1, .int ia), (2, .int fa), (3, .long ba), (5, .int loa), (6, .int hia), (7, .int sa)] := hl
  have z_0 : (0 : Int32).toInt = 0 := by decide
  have z_1 : (1 : Int32).toInt = 1 := by decide
  have z_12 : (12 : Int32).toInt = 12 := by decide
  refine lv_iload_n hx hb dX0_putSpan_0 rfl (lv_at hl 2 rfl) ?_
  refine lv_iconst (v := 0) hx hb dX0_putSpan_1 (by decide) ?_
  have ir_2 := i32r fa
  refine sf_mmax hx hb (by rw [hml]; exact hl.1.symm) hown (hts (.methodLink RX0 68 Lib.Math.max.name) (List.mem_of_getElem? (i := 1) rfl)) (hts (.static Lib.Math.max.name) (List.mem_of_getElem? (i := 2) rfl)) (hts (.initialized "java/lang/Math") (List.mem_of_getElem? (i := 3) rfl)) (hts (.code Lib.Math.max.name Lib.Math.max.code 2 (some .int)) (List.mem_of_getElem? (i := 4) rfl)) (Nat.le_of_ble_eq_true rfl) (Nat.le_of_ble_eq_true rfl) (Nat.le_of_ble_eq_true rfl) (Nat.le_of_ble_eq_true rfl) dX0_putSpan_2 (fun v_1 q_v_1 => ?_)
  have qi_v_1 : 0 ≤ v_1.toInt := by omega
  refine lv_istore (lv' := [(8, .int v_1), (0, .ref fh), (1, .int ia), (2, .int fa), (3, .long ba), (5, .int loa), (6, .int hia), (7, .int sa)]) hx hb dX0_putSpan_5 hl (by decide) rfl (fun ls1 hl1 => ?_)
  replace hl := hl1; clear hl1
  refine my_wloop (S := Int32 × (Nat → Int32) × (Nat → Int32)) (fun u => (0 ≤ (u.1).toInt) ∧ ((0 ≤ (u.1).toInt ∧ fa.toInt ≤ (u.1).toInt) ∧ (((u.1).toInt = 0 ∨ (u.1).toInt = fa.toInt) ∨ ((u.1).toInt ≤ ba.toInt ∧ (u.1).toInt ≤ 12))) ∧ (∀ j : Nat, (12 * ia.toInt ≤ j ∧ 12 * ia.toInt + fa.toInt ≤ j ∧ (j : Int) < 12 * ia.toInt + (u.1).toInt → (sa.toInt = 0 → ((u.2.1) j).toInt ≤ (fc_leastAt j).toInt ∧ ((u.2.1) j).toInt ≤ loa.toInt ∧ (((u.2.1) j).toInt = (fc_leastAt j).toInt ∨ ((u.2.1) j).toInt = loa.toInt)) ∧ (¬ sa.toInt = 0 → ((u.2.1) j).toInt = loa.toInt)) ∧ (¬ (12 * ia.toInt ≤ j ∧ 12 * ia.toInt + fa.toInt ≤ j ∧ (j : Int) < 12 * ia.toInt + (u.1).toInt) → ((u.2.1) j).toInt = (fc_leastAt j).toInt)) ∧ (∀ j : Nat, (12 * ia.toInt ≤ j ∧ 12 * ia.toInt + fa.toInt ≤ j ∧ (j : Int) < 12 * ia.toInt + (u.1).toInt → (sa.toInt = 0 → (fc_greatestAt j).toInt ≤ ((u.2.2) j).toInt ∧ hia.toInt ≤ ((u.2.2) j).toInt ∧ (((u.2.2) j).toInt = (fc_greatestAt j).toInt ∨ ((u.2.2) j).toInt = hia.toInt)) ∧ (¬ sa.toInt = 0 → ((u.2.2) j).toInt = hia.toInt)) ∧ (¬ (12 * ia.toInt ≤ j ∧ 12 * ia.toInt + fa.toInt ≤ j ∧ (j : Int) < 12 * ia.toInt + (u.1).toInt) → ((u.2.2) j).toInt = (fc_greatestAt j).toInt))) (fun u => (12 - (u.1).toInt).toNat) (fun u => [(fh, .inr (0, [.int f_isReached, f_least, f_greatest, f_sites, f_maybeNull, f_known, f_lanes, f_shortest, f_longest, .ref fa_leastAt, .ref fa_greatestAt])), (fa_leastAt, .inl (cI, 480, .inl (u.2.1))), (fa_greatestAt, .inl (cI, 480, .inl (u.2.2)))]) (fun u => [(8, .int (u.1)), (0, .ref fh), (1, .int ia), (2, .int fa), (3, .long ba), (5, .int loa), (6, .int hia), (7, .int sa)]) (H0 := s.heap) (A := A) (D := (dC, dI)) (cl := vwCl) (v_1, fc_leastAt, fc_greatestAt) (show (0 ≤ v_1.toInt) ∧ ((0 ≤ v_1.toInt ∧ fa.toInt ≤ v_1.toInt) ∧ ((v_1.toInt = 0 ∨ v_1.toInt = fa.toInt) ∨ (v_1.toInt ≤ ba.toInt ∧ v_1.toInt ≤ 12))) ∧ (∀ j : Nat, (12 * ia.toInt ≤ j ∧ 12 * ia.toInt + fa.toInt ≤ j ∧ (j : Int) < 12 * ia.toInt + v_1.toInt → (sa.toInt = 0 → (fc_leastAt j).toInt ≤ (fc_leastAt j).toInt ∧ (fc_leastAt j).toInt ≤ loa.toInt ∧ ((fc_leastAt j).toInt = (fc_leastAt j).toInt ∨ (fc_leastAt j).toInt = loa.toInt)) ∧ (¬ sa.toInt = 0 → (fc_leastAt j).toInt = loa.toInt)) ∧ (¬ (12 * ia.toInt ≤ j ∧ 12 * ia.toInt + fa.toInt ≤ j ∧ (j : Int) < 12 * ia.toInt + v_1.toInt) → (fc_leastAt j).toInt = (fc_leastAt j).toInt)) ∧ (∀ j : Nat, (12 * ia.toInt ≤ j ∧ 12 * ia.toInt + fa.toInt ≤ j ∧ (j : Int) < 12 * ia.toInt + v_1.toInt → (sa.toInt = 0 → (fc_greatestAt j).toInt ≤ (fc_greatestAt j).toInt ∧ hia.toInt ≤ (fc_greatestAt j).toInt ∧ ((fc_greatestAt j).toInt = (fc_greatestAt j).toInt ∨ (fc_greatestAt j).toInt = hia.toInt)) ∧ (¬ sa.toInt = 0 → (fc_greatestAt j).toInt = hia.toInt)) ∧ (¬ (12 * ia.toInt ≤ j ∧ 12 * ia.toInt + fa.toInt ≤ j ∧ (j : Int) < 12 * ia.toInt + v_1.toInt) → (fc_greatestAt j).toInt = (fc_greatestAt j).toInt)) from ⟨(by omega), (by omega), (fun j => ⟨fun h => by omega, fun _ => rfl⟩), (fun j => ⟨fun h => by omega, fun _ => rfl⟩)⟩) (by exact hP) (by exact hD) hS (by exact hl) (fun u_3 hu_3 ih_3 H_3 locs_3 ls1 hP1 hD1 hS1 hl1 => ?_)
  obtain ⟨v_4, f_5, f_6⟩ := u_3
  replace hu_3 : (0 ≤ v_4.toInt) ∧ ((0 ≤ v_4.toInt ∧ fa.toInt ≤ v_4.toInt) ∧ ((v_4.toInt = 0 ∨ v_4.toInt = fa.toInt) ∨ (v_4.toInt ≤ ba.toInt ∧ v_4.toInt ≤ 12))) ∧ (∀ j : Nat, (12 * ia.toInt ≤ j ∧ 12 * ia.toInt + fa.toInt ≤ j ∧ (j : Int) < 12 * ia.toInt + v_4.toInt → (sa.toInt = 0 → (f_5 j).toInt ≤ (fc_leastAt j).toInt ∧ (f_5 j).toInt ≤ loa.toInt ∧ ((f_5 j).toInt = (fc_leastAt j).toInt ∨ (f_5 j).toInt = loa.toInt)) ∧ (¬ sa.toInt = 0 → (f_5 j).toInt = loa.toInt)) ∧ (¬ (12 * ia.toInt ≤ j ∧ 12 * ia.toInt + fa.toInt ≤ j ∧ (j : Int) < 12 * ia.toInt + v_4.toInt) → (f_5 j).toInt = (fc_leastAt j).toInt)) ∧ (∀ j : Nat, (12 * ia.toInt ≤ j ∧ 12 * ia.toInt + fa.toInt ≤ j ∧ (j : Int) < 12 * ia.toInt + v_4.toInt → (sa.toInt = 0 → (fc_greatestAt j).toInt ≤ (f_6 j).toInt ∧ hia.toInt ≤ (f_6 j).toInt ∧ ((f_6 j).toInt = (fc_greatestAt j).toInt ∨ (f_6 j).toInt = hia.toInt)) ∧ (¬ sa.toInt = 0 → (f_6 j).toInt = hia.toInt)) ∧ (¬ (12 * ia.toInt ≤ j ∧ 12 * ia.toInt + fa.toInt ≤ j ∧ (j : Int) < 12 * ia.toInt + v_4.toInt) → (f_6 j).toInt = (fc_greatestAt j).toInt)) := hu_3
  obtain ⟨q_v_4, x_3_0, x_3_1, x_3_2⟩ := hu_3
  replace hP : va_P (dC, dI) vwCl [(fh, .inr (0, [.int f_isReached, f_least, f_greatest, f_sites, f_maybeNull, f_known, f_lanes, f_shortest, f_longest, .ref fa_leastAt, .ref fa_greatestAt])), (fa_leastAt, .inl (cI, 480, .inl f_5)), (fa_greatestAt, .inl (cI, 480, .inl f_6))] H_3 := hP1
  replace hD : va_D A [(fh, .inr (0, [.int f_isReached, f_least, f_greatest, f_sites, f_maybeNull, f_known, f_lanes, f_shortest, f_longest, .ref fa_leastAt, .ref fa_greatestAt])), (fa_leastAt, .inl (cI, 480, .inl f_5)), (fa_greatestAt, .inl (cI, 480, .inl f_6))] := hD1
  replace hS := hS1
  clear hP1 hD1 hS1
  replace hl : lv_has ls1 10 [(8, .int v_4), (0, .ref fh), (1, .int ia), (2, .int fa), (3, .long ba), (5, .int loa), (6, .int hia), (7, .int sa)] := hl1
  clear hl1
  refine lv_iload hx hb dX0_putSpan_7 (lv_at hl 0 rfl) ?_
  refine sf_i2l hx hb dX0_putSpan_9 (fun v_7 q_v_7 => ?_)
  refine lv_lload_n hx hb dX0_putSpan_10 rfl (lv_at hl 4 rfl) ?_
  refine W.lcmp hx hb dX0_putSpan_11 ?_
  refine lv_if_ge (tgt := 95) hx hb dX0_putSpan_12 (by decide) (fun c_8 => ?_) (fun c_8 => ?_)
  · -- yes
    have k_8 : ba.toInt ≤ v_7.toInt := lc_ge c_8
    have hP9 := hP.sub (ws' := [(fh, .inr (0, [.int f_isReached, f_least, f_greatest, f_sites, f_maybeNull, f_known, f_lanes, f_shortest, f_longest, .ref fa_leastAt, .ref fa_greatestAt])), (fa_leastAt, .inl (cI, 480, .inl f_5)), (fa_greatestAt, .inl (cI, 480, .inl f_6))]) [0, 1, 2] rfl
    have hD9 := hD.sub (ws' := [(fh, .inr (0, [.int f_isReached, f_least, f_greatest, f_sites, f_maybeNull, f_known, f_lanes, f_shortest, f_longest, .ref fa_leastAt, .ref fa_greatestAt])), (fa_leastAt, .inl (cI, 480, .inl f_5)), (fa_greatestAt, .inl (cI, 480, .inl f_6))]) [0, 1, 2] (by decide) rfl
    exact W.vret hx hb hr (fun t ht hW => ⟨⟨(f_5, f_6), rfl, ⟨(show ∀ j : Nat, (12 * ia.toInt ≤ j ∧ 12 * ia.toInt + fa.toInt ≤ j ∧ (j : Int) < 12 * ia.toInt + 12 ∧ (j : Int) < 12 * ia.toInt + ba.toInt → (sa.toInt = 0 → (f_5 j).toInt ≤ (fc_leastAt j).toInt ∧ (f_5 j).toInt ≤ loa.toInt ∧ ((f_5 j).toInt = (fc_leastAt j).toInt ∨ (f_5 j).toInt = loa.toInt)) ∧ (¬ sa.toInt = 0 → (f_5 j).toInt = loa.toInt)) ∧ (¬ (12 * ia.toInt ≤ j ∧ 12 * ia.toInt + fa.toInt ≤ j ∧ (j : Int) < 12 * ia.toInt + 12 ∧ (j : Int) < 12 * ia.toInt + ba.toInt) → (f_5 j).toInt = (fc_leastAt j).toInt) from (fun j => by have b0 := x_3_1 j; have b1 := x_3_0; omega)), (show ∀ j : Nat, (12 * ia.toInt ≤ j ∧ 12 * ia.toInt + fa.toInt ≤ j ∧ (j : Int) < 12 * ia.toInt + 12 ∧ (j : Int) < 12 * ia.toInt + ba.toInt → (sa.toInt = 0 → (fc_greatestAt j).toInt ≤ (f_6 j).toInt ∧ hia.toInt ≤ (f_6 j).toInt ∧ ((f_6 j).toInt = (fc_greatestAt j).toInt ∨ (f_6 j).toInt = hia.toInt)) ∧ (¬ sa.toInt = 0 → (f_6 j).toInt = hia.toInt)) ∧ (¬ (12 * ia.toInt ≤ j ∧ 12 * ia.toInt + fa.toInt ≤ j ∧ (j : Int) < 12 * ia.toInt + 12 ∧ (j : Int) < 12 * ia.toInt + ba.toInt) → (f_6 j).toInt = (fc_greatestAt j).toInt) from (fun j => by have b0 := x_3_2 j; have b1 := x_3_0; omega))⟩, by rw [ht]; exact hP9, va_K.moved hW.alike hK, hD9⟩, hS.F ht⟩) hS.2.2 dX0_putSpan_95
  · -- no
    have k_8 : v_7.toInt < ba.toInt := lc_nge c_8
    refine lv_iload hx hb dX0_putSpan_15 (lv_at hl 0 rfl) ?_
    refine lv_bipush (v := 12) hx hb dX0_putSpan_17 (by decide) ?_
    refine lv_icmp_ge (tgt := 95) hx hb dX0_putSpan_19 (by decide) (fun c_9 => ?_) (fun c_9 => ?_)
    · -- yes
      have k_9 : (12 : Int32).toInt ≤ v_4.toInt := ci_ge c_9
      have hP9 := hP.sub (ws' := [(fh, .inr (0, [.int f_isReached, f_least, f_greatest, f_sites, f_maybeNull, f_known, f_lanes, f_shortest, f_longest, .ref fa_leastAt, .ref fa_greatestAt])), (fa_leastAt, .inl (cI, 480, .inl f_5)), (fa_greatestAt, .inl (cI, 480, .inl f_6))]) [0, 1, 2] rfl
      have hD9 := hD.sub (ws' := [(fh, .inr (0, [.int f_isReached, f_least, f_greatest, f_sites, f_maybeNull, f_known, f_lanes, f_shortest, f_longest, .ref fa_leastAt, .ref fa_greatestAt])), (fa_leastAt, .inl (cI, 480, .inl f_5)), (fa_greatestAt, .inl (cI, 480, .inl f_6))]) [0, 1, 2] (by decide) rfl
      exact W.vret hx hb hr (fun t ht hW => ⟨⟨(f_5, f_6), rfl, ⟨(show ∀ j : Nat, (12 * ia.toInt ≤ j ∧ 12 * ia.toInt + fa.toInt ≤ j ∧ (j : Int) < 12 * ia.toInt + 12 ∧ (j : Int) < 12 * ia.toInt + ba.toInt → (sa.toInt = 0 → (f_5 j).toInt ≤ (fc_leastAt j).toInt ∧ (f_5 j).toInt ≤ loa.toInt ∧ ((f_5 j).toInt = (fc_leastAt j).toInt ∨ (f_5 j).toInt = loa.toInt)) ∧ (¬ sa.toInt = 0 → (f_5 j).toInt = loa.toInt)) ∧ (¬ (12 * ia.toInt ≤ j ∧ 12 * ia.toInt + fa.toInt ≤ j ∧ (j : Int) < 12 * ia.toInt + 12 ∧ (j : Int) < 12 * ia.toInt + ba.toInt) → (f_5 j).toInt = (fc_leastAt j).toInt) from (fun j => by have b0 := x_3_1 j; have b1 := x_3_0; omega)), (show ∀ j : Nat, (12 * ia.toInt ≤ j ∧ 12 * ia.toInt + fa.toInt ≤ j ∧ (j : Int) < 12 * ia.toInt + 12 ∧ (j : Int) < 12 * ia.toInt + ba.toInt → (sa.toInt = 0 → (fc_greatestAt j).toInt ≤ (f_6 j).toInt ∧ hia.toInt ≤ (f_6 j).toInt ∧ ((f_6 j).toInt = (fc_greatestAt j).toInt ∨ (f_6 j).toInt = hia.toInt)) ∧ (¬ sa.toInt = 0 → (f_6 j).toInt = hia.toInt)) ∧ (¬ (12 * ia.toInt ≤ j ∧ 12 * ia.toInt + fa.toInt ≤ j ∧ (j : Int) < 12 * ia.toInt + 12 ∧ (j : Int) < 12 * ia.toInt + ba.toInt) → (f_6 j).toInt = (fc_greatestAt j).toInt) from (fun j => by have b0 := x_3_2 j; have b1 := x_3_0; omega))⟩, by rw [ht]; exact hP9, va_K.moved hW.alike hK, hD9⟩, hS.F ht⟩) hS.2.2 dX0_putSpan_95
    · -- no
      have k_9 : v_4.toInt < (12 : Int32).toInt := ci_nge c_9
      refine lv_iload_n hx hb dX0_putSpan_22 rfl (lv_at hl 2 rfl) ?_
      refine lv_bipush (v := 12) hx hb dX0_putSpan_23 (by decide) ?_
      refine sf_imul (w := ia.toInt) (z := 12) hx hb dX0_putSpan_25 rfl (by decide) ⟨by omega, by omega⟩ (fun v_10 q_v_10 => ?_)
      refine lv_iload hx hb dX0_putSpan_26 (lv_at hl 0 rfl) ?_
      refine sf_iadd hx hb dX0_putSpan_28 ⟨by omega, by omega⟩ (fun v_11 q_v_11 => ?_)
      refine lv_istore (lv' := [(9, .int v_11), (8, .int v_4), (0, .ref fh), (1, .int ia), (2, .int fa), (3, .long ba), (5, .int loa), (6, .int hia), (7, .int sa)]) hx hb dX0_putSpan_29 hl (by decide) rfl (fun ls1 hl1 => ?_)
      replace hl := hl1; clear hl1
      refine lv_aload_n hx hb dX0_putSpan_31 rfl (lv_at hl 2 rfl) ?_
      refine va_get (D := (dC, dI)) (ci := 0) (v := .ref fa_leastAt) (C := RX0) (T := TX0) (N := 11) hx hb hts inv_X0_putSpan_X0 hown hK hP 0 rfl rfl 9 (by decide) (hts (.fieldLink RX0 42 "ArraySegments$Facts" "leastAt" "[I") (List.mem_of_getElem? (i := 5) rfl)) (fun _ h9 => h9) rfl dX0_putSpan_32 ?_
      refine lv_iload hx hb dX0_putSpan_35 (lv_at hl 0 rfl) ?_
      refine lv_iload hx hb dX0_putSpan_37 (lv_at hl 8 rfl) ?_
      refine lv_if_eq (tgt := 47) hx hb dX0_putSpan_39 (by decide) (fun c_12 => ?_) (fun c_12 => ?_)
      · -- yes
        have k_12 : sa.toInt = (0 : Int32).toInt := ci_eq c_12
        refine lv_aload_n hx hb dX0_putSpan_47 rfl (lv_at hl 2 rfl) ?_
        refine va_get (D := (dC, dI)) (ci := 0) (v := .ref fa_leastAt) (C := RX0) (T := TX0) (N := 11) hx hb hts inv_X0_putSpan_X0 hown hK hP 0 rfl rfl 9 (by decide) (hts (.fieldLink RX0 42 "ArraySegments$Facts" "leastAt" "[I") (List.mem_of_getElem? (i := 5) rfl)) (fun _ h9 => h9) rfl dX0_putSpan_48 ?_
        refine lv_iload hx hb dX0_putSpan_51 (lv_at hl 0 rfl) ?_
        refine sf_iald kT hx hb hK hP 1 0 rfl rfl (fun _ => trivial) (vp_in_iff.mpr ⟨by omega, by omega⟩) dX0_putSpan_53 (fun v_13 q_v_13 e_v_13 => ?_)
        have et_v_13 : v_13.toInt = (f_5 (v_11).toNatClampNeg).toInt := by rw [e_v_13]
        have ni_14 := nn_cl (z := v_11) (by omega)
        have ir_v_13 := i32r v_13
        refine lv_iload hx hb dX0_putSpan_54 (lv_at hl 6 rfl) ?_
        have ir_16 := i32r v_13
        have ir_17 := i32r loa
        refine sf_mmin hx hb (by rw [hml]; exact hl.1.symm) hown (hts (.methodLink RX0 62 Lib.Math.min.name) (List.mem_of_getElem? (i := 6) rfl)) (hts (.static Lib.Math.min.name) (List.mem_of_getElem? (i := 7) rfl)) (hts (.initialized "java/lang/Math") (List.mem_of_getElem? (i := 3) rfl)) (hts (.code Lib.Math.min.name Lib.Math.min.code 2 (some .int)) (List.mem_of_getElem? (i := 8) rfl)) (Nat.le_of_ble_eq_true rfl) (Nat.le_of_ble_eq_true rfl) (Nat.le_of_ble_eq_true rfl) (Nat.le_of_ble_eq_true rfl) dX0_putSpan_56 (fun v_15 q_v_15 => ?_)
        have ni_20 := nn_cl (z := v_11) (by omega)
        refine sf_iastU kT hx hb hK hP hD hS 1 0 rfl rfl (fun _ => trivial) trivial (vp_in_iff.mpr ⟨by omega, by omega⟩) dX0_putSpan_59 (fun f_18 h_f_18 u_f_18 H_19 locs_19 hP1 hD1 hS1 => ?_)
        replace hP : va_P (dC, dI) vwCl [(fh, .inr (0, [.int f_isReached, f_least, f_greatest, f_sites, f_maybeNull, f_known, f_lanes, f_shortest, f_longest, .ref fa_leastAt, .ref fa_greatestAt])), (fa_leastAt, .inl (cI, 480, .inl f_18)), (fa_greatestAt, .inl (cI, 480, .inl f_6))] H_19 := hP1
        replace hD : va_D A [(fh, .inr (0, [.int f_isReached, f_least, f_greatest, f_sites, f_maybeNull, f_known, f_lanes, f_shortest, f_longest, .ref fa_leastAt, .ref fa_greatestAt])), (fa_leastAt, .inl (cI, 480, .inl f_18)), (fa_greatestAt, .inl (cI, 480, .inl f_6))] := hD1
        replace hS := hS1
        clear hP1 hD1 hS1
        refine lv_aload_n hx hb dX0_putSpan_60 rfl (lv_at hl 2 rfl) ?_
        refine va_get (D := (dC, dI)) (ci := 0) (v := .ref fa_greatestAt) (C := RX0) (T := TX0) (N := 11) hx hb hts inv_X0_putSpan_X0 hown hK hP 0 rfl rfl 10 (by decide) (hts (.fieldLink RX0 45 "ArraySegments$Facts" "greatestAt" "[I") (List.mem_of_getElem? (i := 9) rfl)) (fun _ h9 => h9) rfl dX0_putSpan_61 ?_
        refine lv_iload hx hb dX0_putSpan_64 (lv_at hl 0 rfl) ?_
        refine lv_iload hx hb dX0_putSpan_66 (lv_at hl 8 rfl) ?_
        refine lv_if_eq (tgt := 76) hx hb dX0_putSpan_68 (by decide) (fun c_21 => ?_) (fun c_21 => ?_)
        · -- yes
          have k_21 : sa.toInt = (0 : Int32).toInt := ci_eq c_21
          refine lv_aload_n hx hb dX0_putSpan_76 rfl (lv_at hl 2 rfl) ?_
          refine va_get (D := (dC, dI)) (ci := 0) (v := .ref fa_greatestAt) (C := RX0) (T := TX0) (N := 11) hx hb hts inv_X0_putSpan_X0 hown hK hP 0 rfl rfl 10 (by decide) (hts (.fieldLink RX0 45 "ArraySegments$Facts" "greatestAt" "[I") (List.mem_of_getElem? (i := 9) rfl)) (fun _ h9 => h9) rfl dX0_putSpan_77 ?_
          refine lv_iload hx hb dX0_putSpan_80 (lv_at hl 0 rfl) ?_
          refine sf_iald kT hx hb hK hP 2 0 rfl rfl (fun _ => trivial) (vp_in_iff.mpr ⟨by omega, by omega⟩) dX0_putSpan_82 (fun v_22 q_v_22 e_v_22 => ?_)
          have et_v_22 : v_22.toInt = (f_6 (v_11).toNatClampNeg).toInt := by rw [e_v_22]
          have ni_23 := nn_cl (z := v_11) (by omega)
          have ir_v_22 := i32r v_22
          refine lv_iload hx hb dX0_putSpan_83 (lv_at hl 7 rfl) ?_
          have ir_25 := i32r v_22
          have ir_26 := i32r hia
          refine sf_mmax hx hb (by rw [hml]; exact hl.1.symm) hown (hts (.methodLink RX0 68 Lib.Math.max.name) (List.mem_of_getElem? (i := 1) rfl)) (hts (.static Lib.Math.max.name) (List.mem_of_getElem? (i := 2) rfl)) (hts (.initialized "java/lang/Math") (List.mem_of_getElem? (i := 3) rfl)) (hts (.code Lib.Math.max.name Lib.Math.max.code 2 (some .int)) (List.mem_of_getElem? (i := 4) rfl)) (Nat.le_of_ble_eq_true rfl) (Nat.le_of_ble_eq_true rfl) (Nat.le_of_ble_eq_true rfl) (Nat.le_of_ble_eq_true rfl) dX0_putSpan_85 (fun v_24 q_v_24 => ?_)
          have ni_29 := nn_cl (z := v_11) (by omega)
          refine sf_iastU kT hx hb hK hP hD hS 2 0 rfl rfl (fun _ => trivial) trivial (vp_in_iff.mpr ⟨by omega, by omega⟩) dX0_putSpan_88 (fun f_27 h_f_27 u_f_27 H_28 locs_28 hP1 hD1 hS1 => ?_)
          replace hP : va_P (dC, dI) vwCl [(fh, .inr (0, [.int f_isReached, f_least, f_greatest, f_sites, f_maybeNull, f_known, f_lanes, f_shortest, f_longest, .ref fa_leastAt, .ref fa_greatestAt])), (fa_leastAt, .inl (cI, 480, .inl f_18)), (fa_greatestAt, .inl (cI, 480, .inl f_27))] H_28 := hP1
          replace hD : va_D A [(fh, .inr (0, [.int f_isReached, f_least, f_greatest, f_sites, f_maybeNull, f_known, f_lanes, f_shortest, f_longest, .ref fa_leastAt, .ref fa_greatestAt])), (fa_leastAt, .inl (cI, 480, .inl f_18)), (fa_greatestAt, .inl (cI, 480, .inl f_27))] := hD1
          replace hS := hS1
          clear hP1 hD1 hS1
          refine sf_iinc hx hb dX0_putSpan_89 hl (k := 1) (x := v_4) (w := 1) rfl (by decide) (by decide) ⟨by omega, by omega⟩ (fun v_30 q_v_30 ls1 hl1 => ?_)
          replace hl : lv_has ls1 10 [(8, .int v_30), (9, .int v_11), (0, .ref fh), (1, .int ia), (2, .int fa), (3, .long ba), (5, .int loa), (6, .int hia), (7, .int sa)] := hl1
          clear hl1
          refine lv_goto (tgt := 7) hx hb dX0_putSpan_92 (by decide) ?_
          exact ih_3 (v_30, f_18, f_27) (show (0 ≤ v_30.toInt) ∧ ((0 ≤ v_30.toInt ∧ fa.toInt ≤ v_30.toInt) ∧ ((v_30.toInt = 0 ∨ v_30.toInt = fa.toInt) ∨ (v_30.toInt ≤ ba.toInt ∧ v_30.toInt ≤ 12))) ∧ (∀ j : Nat, (12 * ia.toInt ≤ j ∧ 12 * ia.toInt + fa.toInt ≤ j ∧ (j : Int) < 12 * ia.toInt + v_30.toInt → (sa.toInt = 0 → (f_18 j).toInt ≤ (fc_leastAt j).toInt ∧ (f_18 j).toInt ≤ loa.toInt ∧ ((f_18 j).toInt = (fc_leastAt j).toInt ∨ (f_18 j).toInt = loa.toInt)) ∧ (¬ sa.toInt = 0 → (f_18 j).toInt = loa.toInt)) ∧ (¬ (12 * ia.toInt ≤ j ∧ 12 * ia.toInt + fa.toInt ≤ j ∧ (j : Int) < 12 * ia.toInt + v_30.toInt) → (f_18 j).toInt = (fc_leastAt j).toInt)) ∧ (∀ j : Nat, (12 * ia.toInt ≤ j ∧ 12 * ia.toInt + fa.toInt ≤ j ∧ (j : Int) < 12 * ia.toInt + v_30.toInt → (sa.toInt = 0 → (fc_greatestAt j).toInt ≤ (f_27 j).toInt ∧ hia.toInt ≤ (f_27 j).toInt ∧ ((f_27 j).toInt = (fc_greatestAt j).toInt ∨ (f_27 j).toInt = hia.toInt)) ∧ (¬ sa.toInt = 0 → (f_27 j).toInt = hia.toInt)) ∧ (¬ (12 * ia.toInt ≤ j ∧ 12 * ia.toInt + fa.toInt ≤ j ∧ (j : Int) < 12 * ia.toInt + v_30.toInt) → (f_27 j).toInt = (fc_greatestAt j).toInt)) from ⟨(by omega), (by have b0 := x_3_0; omega), (fun j => by have b0 := u_f_18 j; have b1 := x_3_1 j; by_cases hq : j = (v_11).toNatClampNeg; (· subst hq; omega); (· omega)), (fun j => by have b0 := u_f_27 j; have b1 := x_3_2 j; by_cases hq : j = (v_11).toNatClampNeg; (· subst hq; omega); (· omega))⟩) (by show (12 - v_30.toInt).toNat < (12 - v_4.toInt).toNat; omega) _ _ _ (hP.sub [0, 1, 2] rfl) (hD.sub [0, 1, 2] (by decide) rfl) hS (lv_sub hl [0, 2, 3, 4, 5, 6, 7, 8] rfl)
        · -- no
          have k_21 : ¬ sa.toInt = (0 : Int32).toInt := ci_ne c_21
          exfalso; omega
      · -- no
        have k_12 : ¬ sa.toInt = (0 : Int32).toInt := ci_ne c_12
        refine lv_iload hx hb dX0_putSpan_42 (lv_at hl 6 rfl) ?_
        refine lv_goto (tgt := 59) hx hb dX0_putSpan_44 (by decide) ?_
        have ni_33 := nn_cl (z := v_11) (by omega)
        refine sf_iastU kT hx hb hK hP hD hS 1 0 rfl rfl (fun _ => trivial) trivial (vp_in_iff.mpr ⟨by omega, by omega⟩) dX0_putSpan_59 (fun f_31 h_f_31 u_f_31 H_32 locs_32 hP1 hD1 hS1 => ?_)
        replace hP : va_P (dC, dI) vwCl [(fh, .inr (0, [.int f_isReached, f_least, f_greatest, f_sites, f_maybeNull, f_known, f_lanes, f_shortest, f_longest, .ref fa_leastAt, .ref fa_greatestAt])), (fa_leastAt, .inl (cI, 480, .inl f_31)), (fa_greatestAt, .inl (cI, 480, .inl f_6))] H_32 := hP1
        replace hD : va_D A [(fh, .inr (0, [.int f_isReached, f_least, f_greatest, f_sites, f_maybeNull, f_known, f_lanes, f_shortest, f_longest, .ref fa_leastAt, .ref fa_greatestAt])), (fa_leastAt, .inl (cI, 480, .inl f_31)), (fa_greatestAt, .inl (cI, 480, .inl f_6))] := hD1
        replace hS := hS1
        clear hP1 hD1 hS1
        refine lv_aload_n hx hb dX0_putSpan_60 rfl (lv_at hl 2 rfl) ?_
        refine va_get (D := (dC, dI)) (ci := 0) (v := .ref fa_greatestAt) (C := RX0) (T := TX0) (N := 11) hx hb hts inv_X0_putSpan_X0 hown hK hP 0 rfl rfl 10 (by decide) (hts (.fieldLink RX0 45 "ArraySegments$Facts" "greatestAt" "[I") (List.mem_of_getElem? (i := 9) rfl)) (fun _ h9 => h9) rfl dX0_putSpan_61 ?_
        refine lv_iload hx hb dX0_putSpan_64 (lv_at hl 0 rfl) ?_
        refine lv_iload hx hb dX0_putSpan_66 (lv_at hl 8 rfl) ?_
        refine lv_if_eq (tgt := 76) hx hb dX0_putSpan_68 (by decide) (fun c_34 => ?_) (fun c_34 => ?_)
        · -- yes
          have k_34 : sa.toInt = (0 : Int32).toInt := ci_eq c_34
          refine lv_aload_n hx hb dX0_putSpan_76 rfl (lv_at hl 2 rfl) ?_
          refine va_get (D := (dC, dI)) (ci := 0) (v := .ref fa_greatestAt) (C := RX0) (T := TX0) (N := 11) hx hb hts inv_X0_putSpan_X0 hown hK hP 0 rfl rfl 10 (by decide) (hts (.fieldLink RX0 45 "ArraySegments$Facts" "greatestAt" "[I") (List.mem_of_getElem? (i := 9) rfl)) (fun _ h9 => h9) rfl dX0_putSpan_77 ?_
          refine lv_iload hx hb dX0_putSpan_80 (lv_at hl 0 rfl) ?_
          refine sf_iald kT hx hb hK hP 2 0 rfl rfl (fun _ => trivial) (vp_in_iff.mpr ⟨by omega, by omega⟩) dX0_putSpan_82 (fun v_35 q_v_35 e_v_35 => ?_)
          have et_v_35 : v_35.toInt = (f_6 (v_11).toNatClampNeg).toInt := by rw [e_v_35]
          have ni_36 := nn_cl (z := v_11) (by omega)
          have ir_v_35 := i32r v_35
          refine lv_iload hx hb dX0_putSpan_83 (lv_at hl 7 rfl) ?_
          have ir_38 := i32r v_35
          have ir_39 := i32r hia
          refine sf_mmax hx hb (by rw [hml]; exact hl.1.symm) hown (hts (.methodLink RX0 68 Lib.Math.max.name) (List.mem_of_getElem? (i := 1) rfl)) (hts (.static Lib.Math.max.name) (List.mem_of_getElem? (i := 2) rfl)) (hts (.initialized "java/lang/Math") (List.mem_of_getElem? (i := 3) rfl)) (hts (.code Lib.Math.max.name Lib.Math.max.code 2 (some .int)) (List.mem_of_getElem? (i := 4) rfl)) (Nat.le_of_ble_eq_true rfl) (Nat.le_of_ble_eq_true rfl) (Nat.le_of_ble_eq_true rfl) (Nat.le_of_ble_eq_true rfl) dX0_putSpan_85 (fun v_37 q_v_37 => ?_)
          have ni_42 := nn_cl (z := v_11) (by omega)
          refine sf_iastU kT hx hb hK hP hD hS 2 0 rfl rfl (fun _ => trivial) trivial (vp_in_iff.mpr ⟨by omega, by omega⟩) dX0_putSpan_88 (fun f_40 h_f_40 u_f_40 H_41 locs_41 hP1 hD1 hS1 => ?_)
          replace hP : va_P (dC, dI) vwCl [(fh, .inr (0, [.int f_isReached, f_least, f_greatest, f_sites, f_maybeNull, f_known, f_lanes, f_shortest, f_longest, .ref fa_leastAt, .ref fa_greatestAt])), (fa_leastAt, .inl (cI, 480, .inl f_31)), (fa_greatestAt, .inl (cI, 480, .inl f_40))] H_41 := hP1
          replace hD : va_D A [(fh, .inr (0, [.int f_isReached, f_least, f_greatest, f_sites, f_maybeNull, f_known, f_lanes, f_shortest, f_longest, .ref fa_leastAt, .ref fa_greatestAt])), (fa_leastAt, .inl (cI, 480, .inl f_31)), (fa_greatestAt, .inl (cI, 480, .inl f_40))] := hD1
          replace hS := hS1
          clear hP1 hD1 hS1
          refine sf_iinc hx hb dX0_putSpan_89 hl (k := 1) (x := v_4) (w := 1) rfl (by decide) (by decide) ⟨by omega, by omega⟩ (fun v_43 q_v_43 ls1 hl1 => ?_)
          replace hl : lv_has ls1 10 [(8, .int v_43), (9, .int v_11), (0, .ref fh), (1, .int ia), (2, .int fa), (3, .long ba), (5, .int loa), (6, .int hia), (7, .int sa)] := hl1
          clear hl1
          refine lv_goto (tgt := 7) hx hb dX0_putSpan_92 (by decide) ?_
          exact ih_3 (v_43, f_31, f_40) (show (0 ≤ v_43.toInt) ∧ ((0 ≤ v_43.toInt ∧ fa.toInt ≤ v_43.toInt) ∧ ((v_43.toInt = 0 ∨ v_43.toInt = fa.toInt) ∨ (v_43.toInt ≤ ba.toInt ∧ v_43.toInt ≤ 12))) ∧ (∀ j : Nat, (12 * ia.toInt ≤ j ∧ 12 * ia.toInt + fa.toInt ≤ j ∧ (j : Int) < 12 * ia.toInt + v_43.toInt → (sa.toInt = 0 → (f_31 j).toInt ≤ (fc_leastAt j).toInt ∧ (f_31 j).toInt ≤ loa.toInt ∧ ((f_31 j).toInt = (fc_leastAt j).toInt ∨ (f_31 j).toInt = loa.toInt)) ∧ (¬ sa.toInt = 0 → (f_31 j).toInt = loa.toInt)) ∧ (¬ (12 * ia.toInt ≤ j ∧ 12 * ia.toInt + fa.toInt ≤ j ∧ (j : Int) < 12 * ia.toInt + v_43.toInt) → (f_31 j).toInt = (fc_leastAt j).toInt)) ∧ (∀ j : Nat, (12 * ia.toInt ≤ j ∧ 12 * ia.toInt + fa.toInt ≤ j ∧ (j : Int) < 12 * ia.toInt + v_43.toInt → (sa.toInt = 0 → (fc_greatestAt j).toInt ≤ (f_40 j).toInt ∧ hia.toInt ≤ (f_40 j).toInt ∧ ((f_40 j).toInt = (fc_greatestAt j).toInt ∨ (f_40 j).toInt = hia.toInt)) ∧ (¬ sa.toInt = 0 → (f_40 j).toInt = hia.toInt)) ∧ (¬ (12 * ia.toInt ≤ j ∧ 12 * ia.toInt + fa.toInt ≤ j ∧ (j : Int) < 12 * ia.toInt + v_43.toInt) → (f_40 j).toInt = (fc_greatestAt j).toInt)) from ⟨(by omega), (by have b0 := x_3_0; omega), (fun j => by have b0 := u_f_31 j; have b1 := x_3_1 j; by_cases hq : j = (v_11).toNatClampNeg; (· subst hq; omega); (· omega)), (fun j => by have b0 := u_f_40 j; have b1 := x_3_2 j; by_cases hq : j = (v_11).toNatClampNeg; (· subst hq; omega); (· omega))⟩) (by show (12 - v_43.toInt).toNat < (12 - v_4.toInt).toNat; omega) _ _ _ (hP.sub [0, 1, 2] rfl) (hD.sub [0, 1, 2] (by decide) rfl) hS (lv_sub hl [0, 2, 3, 4, 5, 6, 7, 8] rfl)
        · -- no
          have k_34 : ¬ sa.toInt = (0 : Int32).toInt := ci_ne c_34
          refine lv_iload hx hb dX0_putSpan_71 (lv_at hl 7 rfl) ?_
          refine lv_goto (tgt := 88) hx hb dX0_putSpan_73 (by decide) ?_
          have ni_46 := nn_cl (z := v_11) (by omega)
          refine sf_iastU kT hx hb hK hP hD hS 2 0 rfl rfl (fun _ => trivial) trivial (vp_in_iff.mpr ⟨by omega, by omega⟩) dX0_putSpan_88 (fun f_44 h_f_44 u_f_44 H_45 locs_45 hP1 hD1 hS1 => ?_)
          replace hP : va_P (dC, dI) vwCl [(fh, .inr (0, [.int f_isReached, f_least, f_greatest, f_sites, f_maybeNull, f_known, f_lanes, f_shortest, f_longest, .ref fa_leastAt, .ref fa_greatestAt])), (fa_leastAt, .inl (cI, 480, .inl f_31)), (fa_greatestAt, .inl (cI, 480, .inl f_44))] H_45 := hP1
          replace hD : va_D A [(fh, .inr (0, [.int f_isReached, f_least, f_greatest, f_sites, f_maybeNull, f_known, f_lanes, f_shortest, f_longest, .ref fa_leastAt, .ref fa_greatestAt])), (fa_leastAt, .inl (cI, 480, .inl f_31)), (fa_greatestAt, .inl (cI, 480, .inl f_44))] := hD1
          replace hS := hS1
          clear hP1 hD1 hS1
          refine sf_iinc hx hb dX0_putSpan_89 hl (k := 1) (x := v_4) (w := 1) rfl (by decide) (by decide) ⟨by omega, by omega⟩ (fun v_47 q_v_47 ls1 hl1 => ?_)
          replace hl : lv_has ls1 10 [(8, .int v_47), (9, .int v_11), (0, .ref fh), (1, .int ia), (2, .int fa), (3, .long ba), (5, .int loa), (6, .int hia), (7, .int sa)] := hl1
          clear hl1
          refine lv_goto (tgt := 7) hx hb dX0_putSpan_92 (by decide) ?_
          exact ih_3 (v_47, f_31, f_44) (show (0 ≤ v_47.toInt) ∧ ((0 ≤ v_47.toInt ∧ fa.toInt ≤ v_47.toInt) ∧ ((v_47.toInt = 0 ∨ v_47.toInt = fa.toInt) ∨ (v_47.toInt ≤ ba.toInt ∧ v_47.toInt ≤ 12))) ∧ (∀ j : Nat, (12 * ia.toInt ≤ j ∧ 12 * ia.toInt + fa.toInt ≤ j ∧ (j : Int) < 12 * ia.toInt + v_47.toInt → (sa.toInt = 0 → (f_31 j).toInt ≤ (fc_leastAt j).toInt ∧ (f_31 j).toInt ≤ loa.toInt ∧ ((f_31 j).toInt = (fc_leastAt j).toInt ∨ (f_31 j).toInt = loa.toInt)) ∧ (¬ sa.toInt = 0 → (f_31 j).toInt = loa.toInt)) ∧ (¬ (12 * ia.toInt ≤ j ∧ 12 * ia.toInt + fa.toInt ≤ j ∧ (j : Int) < 12 * ia.toInt + v_47.toInt) → (f_31 j).toInt = (fc_leastAt j).toInt)) ∧ (∀ j : Nat, (12 * ia.toInt ≤ j ∧ 12 * ia.toInt + fa.toInt ≤ j ∧ (j : Int) < 12 * ia.toInt + v_47.toInt → (sa.toInt = 0 → (fc_greatestAt j).toInt ≤ (f_44 j).toInt ∧ hia.toInt ≤ (f_44 j).toInt ∧ ((f_44 j).toInt = (fc_greatestAt j).toInt ∨ (f_44 j).toInt = hia.toInt)) ∧ (¬ sa.toInt = 0 → (f_44 j).toInt = hia.toInt)) ∧ (¬ (12 * ia.toInt ≤ j ∧ 12 * ia.toInt + fa.toInt ≤ j ∧ (j : Int) < 12 * ia.toInt + v_47.toInt) → (f_44 j).toInt = (fc_greatestAt j).toInt)) from ⟨(by omega), (by have b0 := x_3_0; omega), (fun j => by have b0 := u_f_31 j; have b1 := x_3_1 j; by_cases hq : j = (v_11).toNatClampNeg; (· subst hq; omega); (· omega)), (fun j => by have b0 := u_f_44 j; have b1 := x_3_2 j; by_cases hq : j = (v_11).toNatClampNeg; (· subst hq; omega); (· omega))⟩) (by show (12 - v_47.toInt).toNat < (12 - v_4.toInt).toNat; omega) _ _ _ (hP.sub [0, 1, 2] rfl) (hD.sub [0, 1, 2] (by decide) rfl) hS (lv_sub hl [0, 2, 3, 4, 5, 6, 7, 8] rfl)

def v_X0_movePlaces : List Cond := .code yX0_movePlaces cX0_movePlaces 7 none :: ([.methodLink RX0 68 Lib.Math.max.name, .static Lib.Math.max.name, .initialized "java/lang/Math", .code Lib.Math.max.name Lib.Math.max.code 2 (some .int), .methodLink RX0 62 Lib.Math.min.name, .static Lib.Math.min.name, .code Lib.Math.min.name Lib.Math.min.code 2 (some .int), .fieldLink RX0 42 "ArraySegments$Facts" "leastAt" "[I", .methodLink RX0 52 arraycopyName, .native arraycopyName, .static arraycopyName, .initialized "java/lang/System", .fieldLink RX0 45 "ArraySegments$Facts" "greatestAt" "[I"] ++ (wsX00))
theorem inv_X0_movePlaces_X0 : ∀ w ∈ wsX00, w ∈ v_X0_movePlaces := fun _ h => List.mem_cons_of_mem _ (List.mem_append_right _ (h))
set_option maxRecDepth 20000 in
theorem gd_X0_movePlaces : gdL v_X0_movePlaces := gdC (gdW (by decide +kernel)) (gdA (gdW (by decide +kernel)) gd_wsX00)
abbrev sw_X0_movePlaces (cI cJ cZ : ClassId) (fh : Nat) (f_isReached : Int32) (f_least : Value) (f_greatest : Value) (f_sites : Value) (f_maybeNull : Value) (f_known : Value) (f_lanes : Value) (f_shortest : Value) (f_longest : Value) (fa_leastAt : Nat) (fa_greatestAt : Nat) (fc_leastAt : Nat → Int32) (fc_greatestAt : Nat → Int32) (ia : Int32) (fa : Int32) (ta : Int32) (ga : Int32) (ma : Int32) : va_W := [(fh, .inr (0, [.int f_isReached, f_least, f_greatest, f_sites, f_maybeNull, f_known, f_lanes, f_shortest, f_longest, .ref fa_leastAt, .ref fa_greatestAt])), (fa_leastAt, .inl (cI, 480, .inl fc_leastAt)), (fa_greatestAt, .inl (cI, 480, .inl fc_greatestAt))]
set_option maxHeartbeats 8000000 in
set_option maxRecDepth 100000 in
theorem s_X0_movePlaces (l : Launch) (dC : Nat → ClassId) (dI : Nat → Nat → Nat) (cI cJ cZ : ClassId) (fh : Nat) (f_isReached : Int32) (f_least : Value) (f_greatest : Value) (f_sites : Value) (f_maybeNull : Value) (f_known : Value) (f_lanes : Value) (f_shortest : Value) (f_longest : Value) (fa_leastAt : Nat) (fa_greatestAt : Nat) (fc_leastAt : Nat → Int32) (fc_greatestAt : Nat → Int32) (ia : Int32) (fa : Int32) (ta : Int32) (ga : Int32) (ma : Int32) (sz : Nat) (q_f_isReached : kZ f_isReached) (hy_ia : 0 ≤ ia.toInt ∧ ia.toInt ≤ 39) (hy_ta : 0 ≤ ta.toInt ∧ ta.toInt ≤ 39) : Met l yX0_movePlaces v_X0_movePlaces ({ frames := 1, cells := 0, slots := 0, locals := 60 }) (va_Pc [.ref fh, .int ia, .int fa, .int ta, .int ga, .int ma] (cPre dC dI cI cJ cZ sz (sw_X0_movePlaces cI cJ cZ fh f_isReached f_least f_greatest f_sites f_maybeNull f_known f_lanes f_shortest f_longest fa_leastAt fa_greatestAt fc_leastAt fc_greatestAt ia fa ta ga ma))) (va_Qv (fun (u : (Nat → Int32) × (Nat → Int32)) => (¬ (0 ≤ fa.toInt ∧ 0 ≤ ga.toInt ∧ 0 ≤ ma.toInt ∧ fa.toInt + ma.toInt ≤ 12 ∧ ga.toInt + ma.toInt ≤ 12) ∨ (∀ j : Nat, (12 * ta.toInt + ga.toInt ≤ j ∧ (j : Int) < 12 * ta.toInt + ga.toInt + ma.toInt → ((u.1) j).toInt = (fc_leastAt (12 * (ia).toNatClampNeg + (fa).toNatClampNeg + (j - (12 * (ta).toNatClampNeg + (ga).toNatClampNeg)))).toInt) ∧ (¬ (12 * ta.toInt + ga.toInt ≤ j ∧ (j : Int) < 12 * ta.toInt + ga.toInt + ma.toInt) → ((u.1) j).toInt = (fc_leastAt j).toInt))) ∧ (¬ (0 ≤ fa.toInt ∧ 0 ≤ ga.toInt ∧ 0 ≤ ma.toInt ∧ fa.toInt + ma.toInt ≤ 12 ∧ ga.toInt + ma.toInt ≤ 12) ∨ (∀ j : Nat, (12 * ta.toInt + ga.toInt ≤ j ∧ (j : Int) < 12 * ta.toInt + ga.toInt + ma.toInt → ((u.2) j).toInt = (fc_greatestAt (12 * (ia).toNatClampNeg + (fa).toNatClampNeg + (j - (12 * (ta).toNatClampNeg + (ga).toNatClampNeg)))).toInt) ∧ (¬ (12 * ta.toInt + ga.toInt ≤ j ∧ (j : Int) < 12 * ta.toInt + ga.toInt + ma.toInt) → ((u.2) j).toInt = (fc_greatestAt j).toInt)))) (fun (u : (Nat → Int32) × (Nat → Int32)) => cPost dC dI cI cJ cZ (va_A (sw_X0_movePlaces cI cJ cZ fh f_isReached f_least f_greatest f_sites f_maybeNull f_known f_lanes f_shortest f_longest fa_leastAt fa_greatestAt fc_leastAt fc_greatestAt ia fa ta ga ma) sz) [(fh, .inr (0, [.int f_isReached, f_least, f_greatest, f_sites, f_maybeNull, f_known, f_lanes, f_shortest, f_longest, .ref fa_leastAt, .ref fa_greatestAt])), (fa_leastAt, .inl (cI, 480, .inl (u.1))), (fa_greatestAt, .inl (cI, 480, .inl (u.2)))]) (va_A (sw_X0_movePlaces cI cJ cZ fh f_isReached f_least f_greatest f_sites f_maybeNull f_known f_lanes f_shortest f_longest fa_leastAt fa_greatestAt fc_leastAt fc_greatestAt ia fa ta ga ma) sz)) 0 0 (va_A (sw_X0_movePlaces cI cJ cZ fh f_isReached f_least f_greatest f_sites f_maybeNull f_known f_lanes f_shortest f_longest fa_leastAt fa_greatestAt fc_leastAt fc_greatestAt ia fa ta ga ma) sz) := by
  refine Met.ofW (cc := cX0_movePlaces) (maxL := 7) (ret := none) (by decide) rfl ?_
  intro p e s m args below meth c s₁ B hml hv
  obtain ⟨rfl, hsz, hP, hK, hD0, hN⟩ := hv
  have hx := B.exec
  have hb := B.bytes
  have hr := B.returns
  have hts := atoms_spec (ws := v_X0_movePlaces) B.pre
  have hown : s.vm.findClass RX0 = some m.cls := findClass_of_methodNamed B.named
  have hlocks := B.notSynchronized
  subst hsz
  have hD := hD0.self (sz := s.heap.size)
  generalize hAe : va_A (sw_X0_movePlaces cI cJ cZ fh f_isReached f_least f_greatest f_sites f_maybeNull f_known f_lanes f_shortest f_longest fa_leastAt fa_greatestAt fc_leastAt fc_greatestAt ia fa ta ga ma) s.heap.size = A at hD ⊢
  have hA : ∀ q : Nat, s.heap.size ≤ q → A q := fun q h => by rw [← hAe]; exact Or.inr h
  clear hAe hD0
  have hS : va_S A s.heap s.heap [] := va_S.rf
  replace hP : va_P (dC, dI) vwCl [(fh, .inr (0, [.int f_isReached, f_least, f_greatest, f_sites, f_maybeNull, f_known, f_lanes, f_shortest, f_longest, .ref fa_leastAt, .ref fa_greatestAt])), (fa_leastAt, .inl (cI, 480, .inl fc_leastAt)), (fa_greatestAt, .inl (cI, 480, .inl fc_greatestAt))] s.heap := hP
  replace hD : va_D A [(fh, .inr (0, [.int f_isReached, f_least, f_greatest, f_sites, f_maybeNull, f_known, f_lanes, f_shortest, f_longest, .ref fa_leastAt, .ref fa_greatestAt])), (fa_leastAt, .inl (cI, 480, .inl fc_leastAt)), (fa_greatestAt, .inl (cI, 480, .inl fc_greatestAt))] := hD
  have hl := lv_entry ([.ref fh, .int ia, .int fa, .int ta, .int ga, .int ma]) (n := 7) (Nat.le_of_ble_eq_true rfl)
  rw [lg_entry_eq]
  generalize (lg_sl ([.ref fh, .int ia, .int fa, .int ta, .int ga, .int ma]) ++ List.replicate (7 - (lg_sl ([.ref fh, .int ia, .int fa, .int ta, .int ga, .int ma])).length) Slot.unset).toArray = ls at hl ⊢
  replace hl : lv_has ls 7 [(0, .ref fh), (1, .int ia), (2, .int fa), (3, .int ta), (4, .int ga), (5, .int ma)] := hl
  have z_0 : (0 : Int32).toInt = 0 := by decide
  have z_1 : (1 : Int32).toInt = 1 := by decide
  have z_12 : (12 : Int32).toInt = 12 := by decide
  have nc_ia := nn_cl2 ia
  have nc_fa := nn_cl2 fa
  have nc_ta := nn_cl2 ta
  have nc_ga := nn_cl2 ga
  refine lv_iload hx hb dX0_movePlaces_0 (lv_at hl 5 rfl) ?_
  refine lv_bipush (v := 12) hx hb dX0_movePlaces_2 (by decide) ?_
  refine lv_iload_n hx hb dX0_movePlaces_4 rfl (lv_at hl 2 rfl) ?_
  refine lv_iload hx hb dX0_movePlaces_5 (lv_at hl 4 rfl) ?_
  have ir_2 := i32r fa
  have ir_3 := i32r ga
  refine sf_mmax hx hb (by rw [hml]; exact hl.1.symm) hown (hts (.methodLink RX0 68 Lib.Math.max.name) (List.mem_of_getElem? (i := 1) rfl)) (hts (.static Lib.Math.max.name) (List.mem_of_getElem? (i := 2) rfl)) (hts (.initialized "java/lang/Math") (List.mem_of_getElem? (i := 3) rfl)) (hts (.code Lib.Math.max.name Lib.Math.max.code 2 (some .int)) (List.mem_of_getElem? (i := 4) rfl)) (Nat.le_of_ble_eq_true rfl) (Nat.le_of_ble_eq_true rfl) (Nat.le_of_ble_eq_true rfl) (Nat.le_of_ble_eq_true rfl) dX0_movePlaces_7 (fun v_1 q_v_1 => ?_)
  refine lv_isub hx hb dX0_movePlaces_10 ?_
  refine lv_topi (fun v_4 e_v_4 => ?_)
  have ir_6 := i32r ma
  have ir_7 := i32r v_4
  refine sf_mmin hx hb (by rw [hml]; exact hl.1.symm) hown (hts (.methodLink RX0 62 Lib.Math.min.name) (List.mem_of_getElem? (i := 5) rfl)) (hts (.static Lib.Math.min.name) (List.mem_of_getElem? (i := 6) rfl)) (hts (.initialized "java/lang/Math") (List.mem_of_getElem? (i := 3) rfl)) (hts (.code Lib.Math.min.name Lib.Math.min.code 2 (some .int)) (List.mem_of_getElem? (i := 7) rfl)) (Nat.le_of_ble_eq_true rfl) (Nat.le_of_ble_eq_true rfl) (Nat.le_of_ble_eq_true rfl) (Nat.le_of_ble_eq_true rfl) dX0_movePlaces_11 (fun v_5 q_v_5 => ?_)
  refine lv_istore (lv' := [(6, .int v_5), (0, .ref fh), (1, .int ia), (2, .int fa), (3, .int ta), (4, .int ga), (5, .int ma)]) hx hb dX0_movePlaces_14 hl (by decide) rfl (fun ls1 hl1 => ?_)
  replace hl := hl1; clear hl1
  refine lv_iload hx hb dX0_movePlaces_16 (lv_at hl 0 rfl) ?_
  refine lv_if_le (tgt := 82) hx hb dX0_movePlaces_18 (by decide) (fun c_8 => ?_) (fun c_8 => ?_)
  · -- yes
    have k_8 : v_5.toInt ≤ (0 : Int32).toInt := ci_le c_8
    have hP9 := hP.sub (ws' := [(fh, .inr (0, [.int f_isReached, f_least, f_greatest, f_sites, f_maybeNull, f_known, f_lanes, f_shortest, f_longest, .ref fa_leastAt, .ref fa_greatestAt])), (fa_leastAt, .inl (cI, 480, .inl fc_leastAt)), (fa_greatestAt, .inl (cI, 480, .inl fc_greatestAt))]) [0, 1, 2] rfl
    have hD9 := hD.sub (ws' := [(fh, .inr (0, [.int f_isReached, f_least, f_greatest, f_sites, f_maybeNull, f_known, f_lanes, f_shortest, f_longest, .ref fa_leastAt, .ref fa_greatestAt])), (fa_leastAt, .inl (cI, 480, .inl fc_leastAt)), (fa_greatestAt, .inl (cI, 480, .inl fc_greatestAt))]) [0, 1, 2] (by decide) rfl
    exact W.vret hx hb hr (fun t ht hW => ⟨⟨(fc_leastAt, fc_greatestAt), rfl, ⟨(show ¬ (0 ≤ fa.toInt ∧ 0 ≤ ga.toInt ∧ 0 ≤ ma.toInt ∧ fa.toInt + ma.toInt ≤ 12 ∧ ga.toInt + ma.toInt ≤ 12) ∨ (∀ j : Nat, (12 * ta.toInt + ga.toInt ≤ j ∧ (j : Int) < 12 * ta.toInt + ga.toInt + ma.toInt → (fc_leastAt j).toInt = (fc_leastAt (12 * (ia).toNatClampNeg + (fa).toNatClampNeg + (j - (12 * (ta).toNatClampNeg + (ga).toNatClampNeg)))).toInt) ∧ (¬ (12 * ta.toInt + ga.toInt ≤ j ∧ (j : Int) < 12 * ta.toInt + ga.toInt + ma.toInt) → (fc_leastAt j).toInt = (fc_leastAt j).toInt)) from (by by_cases hq : (0 ≤ fa.toInt ∧ 0 ≤ ga.toInt ∧ 0 ≤ ma.toInt ∧ fa.toInt + ma.toInt ≤ 12 ∧ ga.toInt + ma.toInt ≤ 12); (· exact Or.inr (fun j => ⟨fun h => by omega, fun _ => rfl⟩)); (· exact Or.inl hq))), (show ¬ (0 ≤ fa.toInt ∧ 0 ≤ ga.toInt ∧ 0 ≤ ma.toInt ∧ fa.toInt + ma.toInt ≤ 12 ∧ ga.toInt + ma.toInt ≤ 12) ∨ (∀ j : Nat, (12 * ta.toInt + ga.toInt ≤ j ∧ (j : Int) < 12 * ta.toInt + ga.toInt + ma.toInt → (fc_greatestAt j).toInt = (fc_greatestAt (12 * (ia).toNatClampNeg + (fa).toNatClampNeg + (j - (12 * (ta).toNatClampNeg + (ga).toNatClampNeg)))).toInt) ∧ (¬ (12 * ta.toInt + ga.toInt ≤ j ∧ (j : Int) < 12 * ta.toInt + ga.toInt + ma.toInt) → (fc_greatestAt j).toInt = (fc_greatestAt j).toInt)) from (by by_cases hq : (0 ≤ fa.toInt ∧ 0 ≤ ga.toInt ∧ 0 ≤ ma.toInt ∧ fa.toInt + ma.toInt ≤ 12 ∧ ga.toInt + ma.toInt ≤ 12); (· exact Or.inr (fun j => ⟨fun h => by omega, fun _ => rfl⟩)); (· exact Or.inl hq)))⟩, by rw [ht]; exact hP9, va_K.moved hW.alike hK, hD9⟩, hS.F ht⟩) hS.2.2 dX0_movePlaces_82
  · -- no
    have k_8 : (0 : Int32).toInt < v_5.toInt := ci_nle c_8
    refine lv_iload_n hx hb dX0_movePlaces_21 rfl (lv_at hl 3 rfl) ?_
    refine lv_if_lt (tgt := 82) hx hb dX0_movePlaces_22 (by decide) (fun c_9 => ?_) (fun c_9 => ?_)
    · -- yes
      have k_9 : fa.toInt < (0 : Int32).toInt := ci_lt c_9
      have hP9 := hP.sub (ws' := [(fh, .inr (0, [.int f_isReached, f_least, f_greatest, f_sites, f_maybeNull, f_known, f_lanes, f_shortest, f_longest, .ref fa_leastAt, .ref fa_greatestAt])), (fa_leastAt, .inl (cI, 480, .inl fc_leastAt)), (fa_greatestAt, .inl (cI, 480, .inl fc_greatestAt))]) [0, 1, 2] rfl
      have hD9 := hD.sub (ws' := [(fh, .inr (0, [.int f_isReached, f_least, f_greatest, f_sites, f_maybeNull, f_known, f_lanes, f_shortest, f_longest, .ref fa_leastAt, .ref fa_greatestAt])), (fa_leastAt, .inl (cI, 480, .inl fc_leastAt)), (fa_greatestAt, .inl (cI, 480, .inl fc_greatestAt))]) [0, 1, 2] (by decide) rfl
      exact W.vret hx hb hr (fun t ht hW => ⟨⟨(fc_leastAt, fc_greatestAt), rfl, ⟨(show ¬ (0 ≤ fa.toInt ∧ 0 ≤ ga.toInt ∧ 0 ≤ ma.toInt ∧ fa.toInt + ma.toInt ≤ 12 ∧ ga.toInt + ma.toInt ≤ 12) ∨ (∀ j : Nat, (12 * ta.toInt + ga.toInt ≤ j ∧ (j : Int) < 12 * ta.toInt + ga.toInt + ma.toInt → (fc_leastAt j).toInt = (fc_leastAt (12 * (ia).toNatClampNeg + (fa).toNatClampNeg + (j - (12 * (ta).toNatClampNeg + (ga).toNatClampNeg)))).toInt) ∧ (¬ (12 * ta.toInt + ga.toInt ≤ j ∧ (j : Int) < 12 * ta.toInt + ga.toInt + ma.toInt) → (fc_leastAt j).toInt = (fc_leastAt j).toInt)) from (by by_cases hq : (0 ≤ fa.toInt ∧ 0 ≤ ga.toInt ∧ 0 ≤ ma.toInt ∧ fa.toInt + ma.toInt ≤ 12 ∧ ga.toInt + ma.toInt ≤ 12); (· exact Or.inr (fun j => ⟨fun h => by omega, fun _ => rfl⟩)); (· exact Or.inl hq))), (show ¬ (0 ≤ fa.toInt ∧ 0 ≤ ga.toInt ∧ 0 ≤ ma.toInt ∧ fa.toInt + ma.toInt ≤ 12 ∧ ga.toInt + ma.toInt ≤ 12) ∨ (∀ j : Nat, (12 * ta.toInt + ga.toInt ≤ j ∧ (j : Int) < 12 * ta.toInt + ga.toInt + ma.toInt → (fc_greatestAt j).toInt = (fc_greatestAt (12 * (ia).toNatClampNeg + (fa).toNatClampNeg + (j - (12 * (ta).toNatClampNeg + (ga).toNatClampNeg)))).toInt) ∧ (¬ (12 * ta.toInt + ga.toInt ≤ j ∧ (j : Int) < 12 * ta.toInt + ga.toInt + ma.toInt) → (fc_greatestAt j).toInt = (fc_greatestAt j).toInt)) from (by by_cases hq : (0 ≤ fa.toInt ∧ 0 ≤ ga.toInt ∧ 0 ≤ ma.toInt ∧ fa.toInt + ma.toInt ≤ 12 ∧ ga.toInt + ma.toInt ≤ 12); (· exact Or.inr (fun j => ⟨fun h => by omega, fun _ => rfl⟩)); (· exact Or.inl hq)))⟩, by rw [ht]; exact hP9, va_K.moved hW.alike hK, hD9⟩, hS.F ht⟩) hS.2.2 dX0_movePlaces_82
    · -- no
      have k_9 : (0 : Int32).toInt ≤ fa.toInt := ci_nlt c_9
      refine lv_iload hx hb dX0_movePlaces_25 (lv_at hl 5 rfl) ?_
      refine lv_if_lt (tgt := 82) hx hb dX0_movePlaces_27 (by decide) (fun c_10 => ?_) (fun c_10 => ?_)
      · -- yes
        have k_10 : ga.toInt < (0 : Int32).toInt := ci_lt c_10
        have hP9 := hP.sub (ws' := [(fh, .inr (0, [.int f_isReached, f_least, f_greatest, f_sites, f_maybeNull, f_known, f_lanes, f_shortest, f_longest, .ref fa_leastAt, .ref fa_greatestAt])), (fa_leastAt, .inl (cI, 480, .inl fc_leastAt)), (fa_greatestAt, .inl (cI, 480, .inl fc_greatestAt))]) [0, 1, 2] rfl
        have hD9 := hD.sub (ws' := [(fh, .inr (0, [.int f_isReached, f_least, f_greatest, f_sites, f_maybeNull, f_known, f_lanes, f_shortest, f_longest, .ref fa_leastAt, .ref fa_greatestAt])), (fa_leastAt, .inl (cI, 480, .inl fc_leastAt)), (fa_greatestAt, .inl (cI, 480, .inl fc_greatestAt))]) [0, 1, 2] (by decide) rfl
        exact W.vret hx hb hr (fun t ht hW => ⟨⟨(fc_leastAt, fc_greatestAt), rfl, ⟨(show ¬ (0 ≤ fa.toInt ∧ 0 ≤ ga.toInt ∧ 0 ≤ ma.toInt ∧ fa.toInt + ma.toInt ≤ 12 ∧ ga.toInt + ma.toInt ≤ 12) ∨ (∀ j : Nat, (12 * ta.toInt + ga.toInt ≤ j ∧ (j : Int) < 12 * ta.toInt + ga.toInt + ma.toInt → (fc_leastAt j).toInt = (fc_leastAt (12 * (ia).toNatClampNeg + (fa).toNatClampNeg + (j - (12 * (ta).toNatClampNeg + (ga).toNatClampNeg)))).toInt) ∧ (¬ (12 * ta.toInt + ga.toInt ≤ j ∧ (j : Int) < 12 * ta.toInt + ga.toInt + ma.toInt) → (fc_leastAt j).toInt = (fc_leastAt j).toInt)) from (by by_cases hq : (0 ≤ fa.toInt ∧ 0 ≤ ga.toInt ∧ 0 ≤ ma.toInt ∧ fa.toInt + ma.toInt ≤ 12 ∧ ga.toInt + ma.toInt ≤ 12); (· exact Or.inr (fun j => ⟨fun h => by omega, fun _ => rfl⟩)); (· exact Or.inl hq))), (show ¬ (0 ≤ fa.toInt ∧ 0 ≤ ga.toInt ∧ 0 ≤ ma.toInt ∧ fa.toInt + ma.toInt ≤ 12 ∧ ga.toInt + ma.toInt ≤ 12) ∨ (∀ j : Nat, (12 * ta.toInt + ga.toInt ≤ j ∧ (j : Int) < 12 * ta.toInt + ga.toInt + ma.toInt → (fc_greatestAt j).toInt = (fc_greatestAt (12 * (ia).toNatClampNeg + (fa).toNatClampNeg + (j - (12 * (ta).toNatClampNeg + (ga).toNatClampNeg)))).toInt) ∧ (¬ (12 * ta.toInt + ga.toInt ≤ j ∧ (j : Int) < 12 * ta.toInt + ga.toInt + ma.toInt) → (fc_greatestAt j).toInt = (fc_greatestAt j).toInt)) from (by by_cases hq : (0 ≤ fa.toInt ∧ 0 ≤ ga.toInt ∧ 0 ≤ ma.toInt ∧ fa.toInt + ma.toInt ≤ 12 ∧ ga.toInt + ma.toInt ≤ 12); (· exact Or.inr (fun j => ⟨fun h => by omega, fun _ => rfl⟩)); (· exact Or.inl hq)))⟩, by rw [ht]; exact hP9, va_K.moved hW.alike hK, hD9⟩, hS.F ht⟩) hS.2.2 dX0_movePlaces_82
      · -- no
        have k_10 : (0 : Int32).toInt ≤ ga.toInt := ci_nlt c_10
        have d_v_4 : v_4.toInt = 12 - v_1.toInt := by have r1 := i32r v_1; rw [e_v_4, Int32.toInt_sub, bm32 (by omega)]; omega
        have m1 : fa.toInt ≤ 11 ∧ ga.toInt ≤ 11 ∧ v_5.toInt ≤ 12 := by omega
        obtain ⟨m1, m2, m3⟩ := m1
        refine lv_aload_n hx hb dX0_movePlaces_30 rfl (lv_at hl 1 rfl) ?_
        refine va_get (D := (dC, dI)) (ci := 0) (v := .ref fa_leastAt) (C := RX0) (T := TX0) (N := 11) hx hb hts inv_X0_movePlaces_X0 hown hK hP 0 rfl rfl 9 (by decide) (hts (.fieldLink RX0 42 "ArraySegments$Facts" "leastAt" "[I") (List.mem_of_getElem? (i := 8) rfl)) (fun _ h9 => h9) rfl dX0_movePlaces_31 ?_
        refine lv_iload_n hx hb dX0_movePlaces_34 rfl (lv_at hl 2 rfl) ?_
        refine lv_bipush (v := 12) hx hb dX0_movePlaces_35 (by decide) ?_
        refine sf_imul (w := ia.toInt) (z := 12) hx hb dX0_movePlaces_37 rfl (by decide) ⟨by omega, by omega⟩ (fun v_11 q_v_11 => ?_)
        refine lv_iload_n hx hb dX0_movePlaces_38 rfl (lv_at hl 3 rfl) ?_
        refine sf_iadd hx hb dX0_movePlaces_39 ⟨by omega, by omega⟩ (fun v_12 q_v_12 => ?_)
        refine lv_aload_n hx hb dX0_movePlaces_40 rfl (lv_at hl 1 rfl) ?_
        refine va_get (D := (dC, dI)) (ci := 0) (v := .ref fa_leastAt) (C := RX0) (T := TX0) (N := 11) hx hb hts inv_X0_movePlaces_X0 hown hK hP 0 rfl rfl 9 (by decide) (hts (.fieldLink RX0 42 "ArraySegments$Facts" "leastAt" "[I") (List.mem_of_getElem? (i := 8) rfl)) (fun _ h9 => h9) rfl dX0_movePlaces_41 ?_
        refine lv_iload_n hx hb dX0_movePlaces_44 rfl (lv_at hl 4 rfl) ?_
        refine lv_bipush (v := 12) hx hb dX0_movePlaces_45 (by decide) ?_
        refine sf_imul (w := ta.toInt) (z := 12) hx hb dX0_movePlaces_47 rfl (by decide) ⟨by omega, by omega⟩ (fun v_13 q_v_13 => ?_)
        refine lv_iload hx hb dX0_movePlaces_48 (lv_at hl 5 rfl) ?_
        refine sf_iadd hx hb dX0_movePlaces_50 ⟨by omega, by omega⟩ (fun v_14 q_v_14 => ?_)
        refine lv_iload hx hb dX0_movePlaces_51 (lv_at hl 0 rfl) ?_
        refine sf_copyiU kT hx hb (by rw [hml]; exact hl.1.symm) hown (hts (.methodLink RX0 52 arraycopyName) (List.mem_of_getElem? (i := 9) rfl)) (hts (.native arraycopyName) (List.mem_of_getElem? (i := 10) rfl)) (hts (.static arraycopyName) (List.mem_of_getElem? (i := 11) rfl)) (hts (.initialized "java/lang/System") (List.mem_of_getElem? (i := 12) rfl)) hK hP hD hS 1 1 0 0 rfl rfl rfl rfl (fun _ => trivial) (fun _ => trivial) (by omega) (by omega) (by omega) (by omega) (by omega) (Nat.le_of_ble_eq_true rfl) (Nat.le_of_ble_eq_true rfl) dX0_movePlaces_53 (fun f_15 h_f_15 u_f_15 H_16 locs_16 hP1 hD1 hS1 => ?_)
        have ni_17 := nn_cl (z := v_5) (by omega)
        have ni_18 := nn_cl (z := v_14) (by omega)
        have ni_19 := nn_cl (z := v_12) (by omega)
        replace hP : va_P (dC, dI) vwCl [(fh, .inr (0, [.int f_isReached, f_least, f_greatest, f_sites, f_maybeNull, f_known, f_lanes, f_shortest, f_longest, .ref fa_leastAt, .ref fa_greatestAt])), (fa_leastAt, .inl (cI, 480, .inl f_15)), (fa_greatestAt, .inl (cI, 480, .inl fc_greatestAt))] H_16 := hP1
        replace hD : va_D A [(fh, .inr (0, [.int f_isReached, f_least, f_greatest, f_sites, f_maybeNull, f_known, f_lanes, f_shortest, f_longest, .ref fa_leastAt, .ref fa_greatestAt])), (fa_leastAt, .inl (cI, 480, .inl f_15)), (fa_greatestAt, .inl (cI, 480, .inl fc_greatestAt))] := hD1
        replace hS := hS1
        clear hP1 hD1 hS1
        refine lv_aload_n hx hb dX0_movePlaces_56 rfl (lv_at hl 1 rfl) ?_
        refine va_get (D := (dC, dI)) (ci := 0) (v := .ref fa_greatestAt) (C := RX0) (T := TX0) (N := 11) hx hb hts inv_X0_movePlaces_X0 hown hK hP 0 rfl rfl 10 (by decide) (hts (.fieldLink RX0 45 "ArraySegments$Facts" "greatestAt" "[I") (List.mem_of_getElem? (i := 13) rfl)) (fun _ h9 => h9) rfl dX0_movePlaces_57 ?_
        refine lv_iload_n hx hb dX0_movePlaces_60 rfl (lv_at hl 2 rfl) ?_
        refine lv_bipush (v := 12) hx hb dX0_movePlaces_61 (by decide) ?_
        refine sf_imul (w := ia.toInt) (z := 12) hx hb dX0_movePlaces_63 rfl (by decide) ⟨by omega, by omega⟩ (fun v_20 q_v_20 => ?_)
        refine lv_iload_n hx hb dX0_movePlaces_64 rfl (lv_at hl 3 rfl) ?_
        refine sf_iadd hx hb dX0_movePlaces_65 ⟨by omega, by omega⟩ (fun v_21 q_v_21 => ?_)
        refine lv_aload_n hx hb dX0_movePlaces_66 rfl (lv_at hl 1 rfl) ?_
        refine va_get (D := (dC, dI)) (ci := 0) (v := .ref fa_greatestAt) (C := RX0) (T := TX0) (N := 11) hx hb hts inv_X0_movePlaces_X0 hown hK hP 0 rfl rfl 10 (by decide) (hts (.fieldLink RX0 45 "ArraySegments$Facts" "greatestAt" "[I") (List.mem_of_getElem? (i := 13) rfl)) (fun _ h9 => h9) rfl dX0_movePlaces_67 ?_
        refine lv_iload_n hx hb dX0_movePlaces_70 rfl (lv_at hl 4 rfl) ?_
        refine lv_bipush (v := 12) hx hb dX0_movePlaces_71 (by decide) ?_
        refine sf_imul (w := ta.toInt) (z := 12) hx hb dX0_movePlaces_73 rfl (by decide) ⟨by omega, by omega⟩ (fun v_22 q_v_22 => ?_)
        refine lv_iload hx hb dX0_movePlaces_74 (lv_at hl 5 rfl) ?_
        refine sf_iadd hx hb dX0_movePlaces_76 ⟨by omega, by omega⟩ (fun v_23 q_v_23 => ?_)
        refine lv_iload hx hb dX0_movePlaces_77 (lv_at hl 0 rfl) ?_
        refine sf_copyiU kT hx hb (by rw [hml]; exact hl.1.symm) hown (hts (.methodLink RX0 52 arraycopyName) (List.mem_of_getElem? (i := 9) rfl)) (hts (.native arraycopyName) (List.mem_of_getElem? (i := 10) rfl)) (hts (.static arraycopyName) (List.mem_of_getElem? (i := 11) rfl)) (hts (.initialized "java/lang/System") (List.mem_of_getElem? (i := 12) rfl)) hK hP hD hS 2 2 0 0 rfl rfl rfl rfl (fun _ => trivial) (fun _ => trivial) (by omega) (by omega) (by omega) (by omega) (by omega) (Nat.le_of_ble_eq_true rfl) (Nat.le_of_ble_eq_true rfl) dX0_movePlaces_79 (fun f_24 h_f_24 u_f_24 H_25 locs_25 hP1 hD1 hS1 => ?_)
        have ni_26 := nn_cl (z := v_5) (by omega)
        have ni_27 := nn_cl (z := v_23) (by omega)
        have ni_28 := nn_cl (z := v_21) (by omega)
        replace hP : va_P (dC, dI) vwCl [(fh, .inr (0, [.int f_isReached, f_least, f_greatest, f_sites, f_maybeNull, f_known, f_lanes, f_shortest, f_longest, .ref fa_leastAt, .ref fa_greatestAt])), (fa_leastAt, .inl (cI, 480, .inl f_15)), (fa_greatestAt, .inl (cI, 480, .inl f_24))] H_25 := hP1
        replace hD : va_D A [(fh, .inr (0, [.int f_isReached, f_least, f_greatest, f_sites, f_maybeNull, f_known, f_lanes, f_shortest, f_longest, .ref fa_leastAt, .ref fa_greatestAt])), (fa_leastAt, .inl (cI, 480, .inl f_15)), (fa_greatestAt, .inl (cI, 480, .inl f_24))] := hD1
        replace hS := hS1
        clear hP1 hD1 hS1
        have hP9 := hP.sub (ws' := [(fh, .inr (0, [.int f_isReached, f_least, f_greatest, f_sites, f_maybeNull, f_known, f_lanes, f_shortest, f_longest, .ref fa_leastAt, .ref fa_greatestAt])), (fa_leastAt, .inl (cI, 480, .inl f_15)), (fa_greatestAt, .inl (cI, 480, .inl f_24))]) [0, 1, 2] rfl
        have hD9 := hD.sub (ws' := [(fh, .inr (0, [.int f_isReached, f_least, f_greatest, f_sites, f_maybeNull, f_known, f_lanes, f_shortest, f_longest, .ref fa_leastAt, .ref fa_greatestAt])), (fa_leastAt, .inl (cI, 480, .inl f_15)), (fa_greatestAt, .inl (cI, 480, .inl f_24))]) [0, 1, 2] (by decide) rfl
        exact W.vret hx hb hr (fun t ht hW => ⟨⟨(f_15, f_24), rfl, ⟨(show ¬ (0 ≤ fa.toInt ∧ 0 ≤ ga.toInt ∧ 0 ≤ ma.toInt ∧ fa.toInt + ma.toInt ≤ 12 ∧ ga.toInt + ma.toInt ≤ 12) ∨ (∀ j : Nat, (12 * ta.toInt + ga.toInt ≤ j ∧ (j : Int) < 12 * ta.toInt + ga.toInt + ma.toInt → (f_15 j).toInt = (fc_leastAt (12 * (ia).toNatClampNeg + (fa).toNatClampNeg + (j - (12 * (ta).toNatClampNeg + (ga).toNatClampNeg)))).toInt) ∧ (¬ (12 * ta.toInt + ga.toInt ≤ j ∧ (j : Int) < 12 * ta.toInt + ga.toInt + ma.toInt) → (f_15 j).toInt = (fc_leastAt j).toInt)) from (by by_cases hq : (0 ≤ fa.toInt ∧ 0 ≤ ga.toInt ∧ 0 ≤ ma.toInt ∧ fa.toInt + ma.toInt ≤ 12 ∧ ga.toInt + ma.toInt ≤ 12); (· exact Or.inr (fun j => by have b0 := u_f_15 j; rw [show (v_12).toNatClampNeg = 12 * (ia).toNatClampNeg + (fa).toNatClampNeg from by omega, show (v_14).toNatClampNeg = 12 * (ta).toNatClampNeg + (ga).toNatClampNeg from by omega] at b0; omega)); (· exact Or.inl hq))), (show ¬ (0 ≤ fa.toInt ∧ 0 ≤ ga.toInt ∧ 0 ≤ ma.toInt ∧ fa.toInt + ma.toInt ≤ 12 ∧ ga.toInt + ma.toInt ≤ 12) ∨ (∀ j : Nat, (12 * ta.toInt + ga.toInt ≤ j ∧ (j : Int) < 12 * ta.toInt + ga.toInt + ma.toInt → (f_24 j).toInt = (fc_greatestAt (12 * (ia).toNatClampNeg + (fa).toNatClampNeg + (j - (12 * (ta).toNatClampNeg + (ga).toNatClampNeg)))).toInt) ∧ (¬ (12 * ta.toInt + ga.toInt ≤ j ∧ (j : Int) < 12 * ta.toInt + ga.toInt + ma.toInt) → (f_24 j).toInt = (fc_greatestAt j).toInt)) from (by by_cases hq : (0 ≤ fa.toInt ∧ 0 ≤ ga.toInt ∧ 0 ≤ ma.toInt ∧ fa.toInt + ma.toInt ≤ 12 ∧ ga.toInt + ma.toInt ≤ 12); (· exact Or.inr (fun j => by have b0 := u_f_24 j; rw [show (v_21).toNatClampNeg = 12 * (ia).toNatClampNeg + (fa).toNatClampNeg from by omega, show (v_23).toNatClampNeg = 12 * (ta).toNatClampNeg + (ga).toNatClampNeg from by omega] at b0; omega)); (· exact Or.inl hq)))⟩, by rw [ht]; exact hP9, va_K.moved hW.alike hK, hD9⟩, hS.F ht⟩) hS.2.2 dX0_movePlaces_82

def v_X0_makeArray : List Cond := .code yX0_makeArray cX0_makeArray 5 none :: ([.fieldLink RX0 30 "ArraySegments$Facts" "known" "[Z", .fieldLink RX0 33 "ArraySegments$Facts" "lanes" "[I", .fieldLink RX0 36 "ArraySegments$Facts" "shortest" "[I", .fieldLink RX0 39 "ArraySegments$Facts" "longest" "[I", .constantLong RX0 75 (12), .methodLink RX0 77 yX0_putSpan, .instanceMethod yX0_putSpan, .selects RX0 yX0_putSpan yX0_putSpan, .initialized RX0] ++ (wsX00 ++ (v_X0_putSpan)))
theorem inv_X0_makeArray_X0 : ∀ w ∈ wsX00, w ∈ v_X0_makeArray := fun _ h => List.mem_cons_of_mem _ (List.mem_append_right _ (List.mem_append_left _ h))
theorem im_X0_makeArray_X0_putSpan : ∀ w ∈ v_X0_putSpan, w ∈ v_X0_makeArray := fun _ h => List.mem_cons_of_mem _ (List.mem_append_right _ (List.mem_append_right _ (h)))
set_option maxRecDepth 20000 in
theorem gd_X0_makeArray : gdL v_X0_makeArray := gdC (gdW (by decide +kernel)) (gdA (gdW (by decide +kernel)) (gdA gd_wsX00 gd_X0_putSpan))
set_option maxRecDepth 20000 in
theorem h_X0_makeArray_X0_putSpan_77 : GoodIn v_X0_makeArray (wsV RX0 77 RX0 yX0_putSpan v_X0_putSpan) := gdI [6, 7, 8, 9] rfl (by decide +kernel) (im_X0_makeArray_X0_putSpan) gd_X0_putSpan
abbrev sw_X0_makeArray (cI cJ cZ : ClassId) (fh : Nat) (f_isReached : Int32) (f_least : Value) (f_greatest : Value) (f_sites : Value) (f_maybeNull : Value) (fa_known : Nat) (fa_lanes : Nat) (fa_shortest : Nat) (fa_longest : Nat) (fa_leastAt : Nat) (fa_greatestAt : Nat) (fc_known : Nat → Int32) (fc_lanes : Nat → Int32) (fc_shortest : Nat → Int32) (fc_longest : Nat → Int32) (fc_leastAt : Nat → Int32) (fc_greatestAt : Nat → Int32) (ia : Int32) (la : Int32) (fa : Int32) (ma : Int32) : va_W := [(fh, .inr (0, [.int f_isReached, f_least, f_greatest, f_sites, f_maybeNull, .ref fa_known, .ref fa_lanes, .ref fa_shortest, .ref fa_longest, .ref fa_leastAt, .ref fa_greatestAt])), (fa_known, .inl (cZ, 40, .inl fc_known)), (fa_lanes, .inl (cI, 40, .inl fc_lanes)), (fa_shortest, .inl (cI, 40, .inl fc_shortest)), (fa_longest, .inl (cI, 40, .inl fc_longest)), (fa_leastAt, .inl (cI, 480, .inl fc_leastAt)), (fa_greatestAt, .inl (cI, 480, .inl fc_greatestAt))]
set_option maxHeartbeats 8000000 in
set_option maxRecDepth 100000 in
theorem s_X0_makeArray (l : Launch) (dC : Nat → ClassId) (dI : Nat → Nat → Nat) (cI cJ cZ : ClassId) (fh : Nat) (f_isReached : Int32) (f_least : Value) (f_greatest : Value) (f_sites : Value) (f_maybeNull : Value) (fa_known : Nat) (fa_lanes : Nat) (fa_shortest : Nat) (fa_longest : Nat) (fa_leastAt : Nat) (fa_greatestAt : Nat) (fc_known : Nat → Int32) (fc_lanes : Nat → Int32) (fc_shortest : Nat → Int32) (fc_longest : Nat → Int32) (fc_leastAt : Nat → Int32) (fc_greatestAt : Nat → Int32) (ia : Int32) (la : Int32) (fa : Int32) (ma : Int32) (sz : Nat) (q_f_isReached : kZ f_isReached) (h_fc_known : ∀ j : Nat, kZ (fc_known j)) (h_fc_lanes : ∀ j : Nat, kL7 (fc_lanes j)) (h_fc_longest : ∀ j : Nat, kLE12 (fc_longest j)) (hy_ia : 0 ≤ ia.toInt ∧ ia.toInt ≤ 39) (hy_la : V3 la) (hy_ma : ma.toInt ≤ 12) : Met l yX0_makeArray v_X0_makeArray ({ frames := 2, cells := 0, slots := 0, locals := 48 }) (va_Pc [.ref fh, .int ia, .int la, .int fa, .int ma] (cPre dC dI cI cJ cZ sz (sw_X0_makeArray cI cJ cZ fh f_isReached f_least f_greatest f_sites f_maybeNull fa_known fa_lanes fa_shortest fa_longest fa_leastAt fa_greatestAt fc_known fc_lanes fc_shortest fc_longest fc_leastAt fc_greatestAt ia la fa ma))) (va_Qv (fun (u : (Nat → Int32) × (Nat → Int32) × (Nat → Int32) × (Nat → Int32) × (Nat → Int32) × (Nat → Int32)) => (∀ j : Nat, kZ ((u.1) j)) ∧ (∀ j : Nat, kL7 ((u.2.1) j)) ∧ (∀ j : Nat, kLE12 ((u.2.2.2.1) j)) ∧ (upI fc_known (ia).toNatClampNeg 1 (u.1)) ∧ (lbit ((u.2.1) (ia).toNatClampNeg) (la).toNatClampNeg) ∧ (∀ j : Nat, ¬ j = (ia).toNatClampNeg → ((u.2.1) j).toInt = (fc_lanes j).toInt) ∧ (upI fc_shortest (ia).toNatClampNeg fa.toInt (u.2.2.1)) ∧ (upI fc_longest (ia).toNatClampNeg ma.toInt (u.2.2.2.1)) ∧ (∀ j : Nat, (12 * ia.toInt ≤ j ∧ (j : Int) < 12 * ia.toInt + 12 → ((u.2.2.2.2.1) j).toInt = 0) ∧ (¬ (12 * ia.toInt ≤ j ∧ (j : Int) < 12 * ia.toInt + 12) → ((u.2.2.2.2.1) j).toInt = (fc_leastAt j).toInt)) ∧ (∀ j : Nat, (12 * ia.toInt ≤ j ∧ (j : Int) < 12 * ia.toInt + 12 → ((u.2.2.2.2.2) j).toInt = 0) ∧ (¬ (12 * ia.toInt ≤ j ∧ (j : Int) < 12 * ia.toInt + 12) → ((u.2.2.2.2.2) j).toInt = (fc_greatestAt j).toInt))) (fun (u : (Nat → Int32) × (Nat → Int32) × (Nat → Int32) × (Nat → Int32) × (Nat → Int32) × (Nat → Int32)) => cPost dC dI cI cJ cZ (va_A (sw_X0_makeArray cI cJ cZ fh f_isReached f_least f_greatest f_sites f_maybeNull fa_known fa_lanes fa_shortest fa_longest fa_leastAt fa_greatestAt fc_known fc_lanes fc_shortest fc_longest fc_leastAt fc_greatestAt ia la fa ma) sz) [(fh, .inr (0, [.int f_isReached, f_least, f_greatest, f_sites, f_maybeNull, .ref fa_known, .ref fa_lanes, .ref fa_shortest, .ref fa_longest, .ref fa_leastAt, .ref fa_greatestAt])), (fa_known, .inl (cZ, 40, .inl (u.1))), (fa_lanes, .inl (cI, 40, .inl (u.2.1))), (fa_shortest, .inl (cI, 40, .inl (u.2.2.1))), (fa_longest, .inl (cI, 40, .inl (u.2.2.2.1))), (fa_leastAt, .inl (cI, 480, .inl (u.2.2.2.2.1))), (fa_greatestAt, .inl (cI, 480, .inl (u.2.2.2.2.2)))]) (va_A (sw_X0_makeArray cI cJ cZ fh f_isReached f_least f_greatest f_sites f_maybeNull fa_known fa_lanes fa_shortest fa_longest fa_leastAt fa_greatestAt fc_known fc_lanes fc_shortest fc_longest fc_leastAt fc_greatestAt ia la fa ma) sz)) 0 0 (va_A (sw_X0_makeArray cI cJ cZ fh f_isReached f_least f_greatest f_sites f_maybeNull fa_known fa_lanes fa_shortest fa_longest fa_leastAt fa_greatestAt fc_known fc_lanes fc_shortest fc_longest fc_leastAt fc_greatestAt ia la fa ma) sz) := by
  refine Met.ofW (cc := cX0_makeArray) (maxL := 5) (ret := none) (by decide) rfl ?_
  intro p e s m args below meth c s₁ B hml hv
  obtain ⟨rfl, hsz, hP, hK, hD0, hN⟩ := hv
  have hx := B.exec
  have hb := B.bytes
  have hr := B.returns
  have hts := atoms_spec (ws := v_X0_makeArray) B.pre
  have hown : s.vm.findClass RX0 = some m.cls := findClass_of_methodNamed B.named
  have hlocks := B.notSynchronized
  subst hsz
  have hD := hD0.self (sz := s.heap.size)
  generalize hAe : va_A (sw_X0_makeArray cI cJ cZ fh f_isReached f_least f_greatest f_sites f_maybeNull fa_known fa_lanes fa_shortest fa_longest fa_leastAt fa_greatestAt fc_known fc_lanes fc_shortest fc_longest fc_leastAt fc_greatestAt ia la fa ma) s.heap.size = A at hD ⊢
  have hA : ∀ q : Nat, s.heap.size ≤ q → A q := fun q h => by rw [← hAe]; exact Or.inr h
  clear hAe hD0
  have hS : va_S A s.heap s.heap [] := va_S.rf
  replace hP : va_P (dC, dI) vwCl [(fh, .inr (0, [.int f_isReached, f_least, f_greatest, f_sites, f_maybeNull, .ref fa_known, .ref fa_lanes, .ref fa_shortest, .ref fa_longest, .ref fa_leastAt, .ref fa_greatestAt])), (fa_known, .inl (cZ, 40, .inl fc_known)), (fa_lanes, .inl (cI, 40, .inl fc_lanes)), (fa_shortest, .inl (cI, 40, .inl fc_shortest)), (fa_longest, .inl (cI, 40, .inl fc_longest)), (fa_leastAt, .inl (cI, 480, .inl fc_leastAt)), (fa_greatestAt, .inl (cI, 480, .inl fc_greatestAt))] s.heap := hP
  replace hD : va_D A [(fh, .inr (0, [.int f_isReached, f_least, f_greatest, f_sites, f_maybeNull, .ref fa_known, .ref fa_lanes, .ref fa_shortest, .ref fa_longest, .ref fa_leastAt, .ref fa_greatestAt])), (fa_known, .inl (cZ, 40, .inl fc_known)), (fa_lanes, .inl (cI, 40, .inl fc_lanes)), (fa_shortest, .inl (cI, 40, .inl fc_shortest)), (fa_longest, .inl (cI, 40, .inl fc_longest)), (fa_leastAt, .inl (cI, 480, .inl fc_leastAt)), (fa_greatestAt, .inl (cI, 480, .inl fc_greatestAt))] := hD
  have hl := lv_entry ([.ref fh, .int ia, .int la, .int fa, .int ma]) (n := 5) (Nat.le_of_ble_eq_true rfl)
  rw [lg_entry_eq]
  generalize (lg_sl ([.ref fh, .int ia, .int la, .int fa, .int ma]) ++ List.replicate (5 - (lg_sl ([.ref fh, .int ia, .int la, .int fa, .int ma])).length) Slot.unset).toArray = ls at hl ⊢
  replace hl : lv_has ls 5 [(0, .ref fh), (1, .int ia), (2, .int la), (3, .int fa), (4, .int ma)] := hl
  have z_0 : (0 : Int32).toInt = 0 := by decide
  have z_1 : (1 : Int32).toInt = 1 := by decide
  have zl_12 : (12 : Int64).toInt = 12 := by decide
  refine lv_aload_n hx hb dX0_makeArray_0 rfl (lv_at hl 0 rfl) ?_
  refine va_get (D := (dC, dI)) (ci := 0) (v := .ref fa_known) (C := RX0) (T := TX0) (N := 11) hx hb hts inv_X0_makeArray_X0 hown hK hP 0 rfl rfl 5 (by decide) (hts (.fieldLink RX0 30 "ArraySegments$Facts" "known" "[Z") (List.mem_of_getElem? (i := 1) rfl)) (fun _ h9 => h9) rfl dX0_makeArray_1 ?_
  refine lv_iload_n hx hb dX0_makeArray_4 rfl (lv_at hl 1 rfl) ?_
  refine lv_iconst (v := 1) hx hb dX0_makeArray_5 (by decide) ?_
  have ni_3 := nn_cl (z := ia) (by omega)
  refine sf_zastU hx hb hK hP hD hS 1 2 rfl rfl h_fc_known (by decide) (vp_in_iff.mpr ⟨by omega, by omega⟩) dX0_makeArray_6 (fun f_1 h_f_1 u_f_1 H_2 locs_2 hP1 hD1 hS1 => ?_)
  replace hP : va_P (dC, dI) vwCl [(fh, .inr (0, [.int f_isReached, f_least, f_greatest, f_sites, f_maybeNull, .ref fa_known, .ref fa_lanes, .ref fa_shortest, .ref fa_longest, .ref fa_leastAt, .ref fa_greatestAt])), (fa_known, .inl (cZ, 40, .inl f_1)), (fa_lanes, .inl (cI, 40, .inl fc_lanes)), (fa_shortest, .inl (cI, 40, .inl fc_shortest)), (fa_longest, .inl (cI, 40, .inl fc_longest)), (fa_leastAt, .inl (cI, 480, .inl fc_leastAt)), (fa_greatestAt, .inl (cI, 480, .inl fc_greatestAt))] H_2 := hP1
  replace hD : va_D A [(fh, .inr (0, [.int f_isReached, f_least, f_greatest, f_sites, f_maybeNull, .ref fa_known, .ref fa_lanes, .ref fa_shortest, .ref fa_longest, .ref fa_leastAt, .ref fa_greatestAt])), (fa_known, .inl (cZ, 40, .inl f_1)), (fa_lanes, .inl (cI, 40, .inl fc_lanes)), (fa_shortest, .inl (cI, 40, .inl fc_shortest)), (fa_longest, .inl (cI, 40, .inl fc_longest)), (fa_leastAt, .inl (cI, 480, .inl fc_leastAt)), (fa_greatestAt, .inl (cI, 480, .inl fc_greatestAt))] := hD1
  replace hS := hS1
  clear hP1 hD1 hS1
  refine lv_aload_n hx hb dX0_makeArray_7 rfl (lv_at hl 0 rfl) ?_
  refine va_get (D := (dC, dI)) (ci := 0) (v := .ref fa_lanes) (C := RX0) (T := TX0) (N := 11) hx hb hts inv_X0_makeArray_X0 hown hK hP 0 rfl rfl 6 (by decide) (hts (.fieldLink RX0 33 "ArraySegments$Facts" "lanes" "[I") (List.mem_of_getElem? (i := 2) rfl)) (fun _ h9 => h9) rfl dX0_makeArray_8 ?_
  refine lv_iload_n hx hb dX0_makeArray_11 rfl (lv_at hl 1 rfl) ?_
  refine lv_iconst (v := 1) hx hb dX0_makeArray_12 (by decide) ?_
  refine lv_iload_n hx hb dX0_makeArray_13 rfl (lv_at hl 2 rfl) ?_
  refine lv_ishl hx hb dX0_makeArray_14 ?_
  refine lv_topi (fun v_4 e_v_4 => ?_)
  have qo_v_4 : kL7 v_4 := shl7 ⟨by omega, by omega⟩ e_v_4
  have ni_7 := nn_cl (z := ia) (by omega)
  refine sf_iastU kL7 hx hb hK hP hD hS 2 0 rfl rfl h_fc_lanes (show kL7 v_4 from by omega) (vp_in_iff.mpr ⟨by omega, by omega⟩) dX0_makeArray_15 (fun f_5 h_f_5 u_f_5 H_6 locs_6 hP1 hD1 hS1 => ?_)
  replace hP : va_P (dC, dI) vwCl [(fh, .inr (0, [.int f_isReached, f_least, f_greatest, f_sites, f_maybeNull, .ref fa_known, .ref fa_lanes, .ref fa_shortest, .ref fa_longest, .ref fa_leastAt, .ref fa_greatestAt])), (fa_known, .inl (cZ, 40, .inl f_1)), (fa_lanes, .inl (cI, 40, .inl f_5)), (fa_shortest, .inl (cI, 40, .inl fc_shortest)), (fa_longest, .inl (cI, 40, .inl fc_longest)), (fa_leastAt, .inl (cI, 480, .inl fc_leastAt)), (fa_greatestAt, .inl (cI, 480, .inl fc_greatestAt))] H_6 := hP1
  replace hD : va_D A [(fh, .inr (0, [.int f_isReached, f_least, f_greatest, f_sites, f_maybeNull, .ref fa_known, .ref fa_lanes, .ref fa_shortest, .ref fa_longest, .ref fa_leastAt, .ref fa_greatestAt])), (fa_known, .inl (cZ, 40, .inl f_1)), (fa_lanes, .inl (cI, 40, .inl f_5)), (fa_shortest, .inl (cI, 40, .inl fc_shortest)), (fa_longest, .inl (cI, 40, .inl fc_longest)), (fa_leastAt, .inl (cI, 480, .inl fc_leastAt)), (fa_greatestAt, .inl (cI, 480, .inl fc_greatestAt))] := hD1
  replace hS := hS1
  clear hP1 hD1 hS1
  refine lv_aload_n hx hb dX0_makeArray_16 rfl (lv_at hl 0 rfl) ?_
  refine va_get (D := (dC, dI)) (ci := 0) (v := .ref fa_shortest) (C := RX0) (T := TX0) (N := 11) hx hb hts inv_X0_makeArray_X0 hown hK hP 0 rfl rfl 7 (by decide) (hts (.fieldLink RX0 36 "ArraySegments$Facts" "shortest" "[I") (List.mem_of_getElem? (i := 3) rfl)) (fun _ h9 => h9) rfl dX0_makeArray_17 ?_
  refine lv_iload_n hx hb dX0_makeArray_20 rfl (lv_at hl 1 rfl) ?_
  refine lv_iload_n hx hb dX0_makeArray_21 rfl (lv_at hl 3 rfl) ?_
  have ni_10 := nn_cl (z := ia) (by omega)
  refine sf_iastU kT hx hb hK hP hD hS 3 0 rfl rfl (fun _ => trivial) trivial (vp_in_iff.mpr ⟨by omega, by omega⟩) dX0_makeArray_22 (fun f_8 h_f_8 u_f_8 H_9 locs_9 hP1 hD1 hS1 => ?_)
  replace hP : va_P (dC, dI) vwCl [(fh, .inr (0, [.int f_isReached, f_least, f_greatest, f_sites, f_maybeNull, .ref fa_known, .ref fa_lanes, .ref fa_shortest, .ref fa_longest, .ref fa_leastAt, .ref fa_greatestAt])), (fa_known, .inl (cZ, 40, .inl f_1)), (fa_lanes, .inl (cI, 40, .inl f_5)), (fa_shortest, .inl (cI, 40, .inl f_8)), (fa_longest, .inl (cI, 40, .inl fc_longest)), (fa_leastAt, .inl (cI, 480, .inl fc_leastAt)), (fa_greatestAt, .inl (cI, 480, .inl fc_greatestAt))] H_9 := hP1
  replace hD : va_D A [(fh, .inr (0, [.int f_isReached, f_least, f_greatest, f_sites, f_maybeNull, .ref fa_known, .ref fa_lanes, .ref fa_shortest, .ref fa_longest, .ref fa_leastAt, .ref fa_greatestAt])), (fa_known, .inl (cZ, 40, .inl f_1)), (fa_lanes, .inl (cI, 40, .inl f_5)), (fa_shortest, .inl (cI, 40, .inl f_8)), (fa_longest, .inl (cI, 40, .inl fc_longest)), (fa_leastAt, .inl (cI, 480, .inl fc_leastAt)), (fa_greatestAt, .inl (cI, 480, .inl fc_greatestAt))] := hD1
  replace hS := hS1
  clear hP1 hD1 hS1
  refine lv_aload_n hx hb dX0_makeArray_23 rfl (lv_at hl 0 rfl) ?_
  refine va_get (D := (dC, dI)) (ci := 0) (v := .ref fa_longest) (C := RX0) (T := TX0) (N := 11) hx hb hts inv_X0_makeArray_X0 hown hK hP 0 rfl rfl 8 (by decide) (hts (.fieldLink RX0 39 "ArraySegments$Facts" "longest" "[I") (List.mem_of_getElem? (i := 4) rfl)) (fun _ h9 => h9) rfl dX0_makeArray_24 ?_
  refine lv_iload_n hx hb dX0_makeArray_27 rfl (lv_at hl 1 rfl) ?_
  refine lv_iload hx hb dX0_makeArray_28 (lv_at hl 4 rfl) ?_
  have ni_13 := nn_cl (z := ia) (by omega)
  refine sf_iastU kLE12 hx hb hK hP hD hS 4 0 rfl rfl h_fc_longest (show kLE12 ma from by omega) (vp_in_iff.mpr ⟨by omega, by omega⟩) dX0_makeArray_30 (fun f_11 h_f_11 u_f_11 H_12 locs_12 hP1 hD1 hS1 => ?_)
  replace hP : va_P (dC, dI) vwCl [(fh, .inr (0, [.int f_isReached, f_least, f_greatest, f_sites, f_maybeNull, .ref fa_known, .ref fa_lanes, .ref fa_shortest, .ref fa_longest, .ref fa_leastAt, .ref fa_greatestAt])), (fa_known, .inl (cZ, 40, .inl f_1)), (fa_lanes, .inl (cI, 40, .inl f_5)), (fa_shortest, .inl (cI, 40, .inl f_8)), (fa_longest, .inl (cI, 40, .inl f_11)), (fa_leastAt, .inl (cI, 480, .inl fc_leastAt)), (fa_greatestAt, .inl (cI, 480, .inl fc_greatestAt))] H_12 := hP1
  replace hD : va_D A [(fh, .inr (0, [.int f_isReached, f_least, f_greatest, f_sites, f_maybeNull, .ref fa_known, .ref fa_lanes, .ref fa_shortest, .ref fa_longest, .ref fa_leastAt, .ref fa_greatestAt])), (fa_known, .inl (cZ, 40, .inl f_1)), (fa_lanes, .inl (cI, 40, .inl f_5)), (fa_shortest, .inl (cI, 40, .inl f_8)), (fa_longest, .inl (cI, 40, .inl f_11)), (fa_leastAt, .inl (cI, 480, .inl fc_leastAt)), (fa_greatestAt, .inl (cI, 480, .inl fc_greatestAt))] := hD1
  replace hS := hS1
  clear hP1 hD1 hS1
  refine lv_aload_n hx hb dX0_makeArray_31 rfl (lv_at hl 0 rfl) ?_
  refine lv_iload_n hx hb dX0_makeArray_32 rfl (lv_at hl 1 rfl) ?_
  refine lv_iconst (v := 0) hx hb dX0_makeArray_33 (by decide) ?_
  refine lv_ldc2 hx hb hown (hts (.constantLong RX0 75 (12)) (List.mem_of_getElem? (i := 5) rfl)) dX0_makeArray_34 ?_
  refine lv_iconst (v := 0) hx hb dX0_makeArray_37 (by decide) ?_
  refine lv_iconst (v := 0) hx hb dX0_makeArray_38 (by decide) ?_
  refine lv_iconst (v := 1) hx hb dX0_makeArray_39 (by decide) ?_
  have hPc := hP.sub (ws' := [(fh, .inr (0, [.int f_isReached, f_least, f_greatest, f_sites, f_maybeNull, .ref fa_known, .ref fa_lanes, .ref fa_shortest, .ref fa_longest, .ref fa_leastAt, .ref fa_greatestAt])), (fa_leastAt, .inl (cI, 480, .inl fc_leastAt)), (fa_greatestAt, .inl (cI, 480, .inl fc_greatestAt))]) [0, 5, 6] rfl
  have hDc := hD.sub (ws' := [(fh, .inr (0, [.int f_isReached, f_least, f_greatest, f_sites, f_maybeNull, .ref fa_known, .ref fa_lanes, .ref fa_shortest, .ref fa_longest, .ref fa_leastAt, .ref fa_greatestAt])), (fa_leastAt, .inl (cI, 480, .inl fc_leastAt)), (fa_greatestAt, .inl (cI, 480, .inl fc_greatestAt))]) [0, 5, 6] (by decide) rfl
  have hFc := va_free (wc := [(fh, .inr (0, [.int f_isReached, f_least, f_greatest, f_sites, f_maybeNull, .ref fa_known, .ref fa_lanes, .ref fa_shortest, .ref fa_longest, .ref fa_leastAt, .ref fa_greatestAt])), (fa_leastAt, .inl (cI, 480, .inl fc_leastAt)), (fa_greatestAt, .inl (cI, 480, .inl fc_greatestAt))]) hD hS hA [0, 5, 6] rfl
  refine va_callv (va_runV (As := [.int ia, .int 0, .long 12, .int 0, .int 0, .int 1]) (rest := []) ⟨hx, hb, hml, hown, hts⟩ (s_X0_putSpan l dC dI cI cJ cZ fh f_isReached f_least f_greatest f_sites f_maybeNull (.ref fa_known) (.ref fa_lanes) (.ref fa_shortest) (.ref fa_longest) fa_leastAt fa_greatestAt fc_leastAt fc_greatestAt ia 0 12 0 0 1 H_12.size q_f_isReached (by first | assumption | omega)) (cwV 6 hts h_X0_makeArray_X0_putSpan_77 rfl rfl rfl (by decide +kernel) ⟨Nat.le_of_ble_eq_true rfl, Nat.le_of_ble_eq_true rfl⟩) ⟨cPre_blind, va_recv hK hPc (ci := 0) (q0 := 0) rfl rfl, cPre_of hK hN hPc hDc⟩ rfl rfl hl.1 rfl (lv_room (Nat.le_of_ble_eq_true rfl)) dX0_makeArray_40 ⟨Nat.le_of_ble_eq_true rfl, Nat.le_of_ble_eq_true rfl⟩) hS (fun q _ h => hFc q h) hFc (fun u_14 t_14 H_14 locs_14 ht hvm hw_14 hB hz1 hk1 hS1 => ?_)
  obtain ⟨f_15, f_16⟩ := u_14
  obtain ⟨hP1, hK1, hD1⟩ := hB
  rw [ht] at hP1
  obtain ⟨hP2, hD2⟩ := va_join (wr := [(fa_known, .inl (cZ, 40, .inl f_1)), (fa_lanes, .inl (cI, 40, .inl f_5)), (fa_shortest, .inl (cI, 40, .inl f_8)), (fa_longest, .inl (cI, 40, .inl f_11))]) (w1 := [(fh, .inr (0, [.int f_isReached, f_least, f_greatest, f_sites, f_maybeNull, .ref fa_known, .ref fa_lanes, .ref fa_shortest, .ref fa_longest, .ref fa_leastAt, .ref fa_greatestAt])), (fa_leastAt, .inl (cI, 480, .inl f_15)), (fa_greatestAt, .inl (cI, 480, .inl f_16))]) hP hD [0, 5, 6] [1, 2, 3, 4] rfl rfl (by decide) (by decide) hk1 hFc hP1 hD1
  clear hPc hDc hFc hP1 hD1 hK1 hk1 hz1 hvm ht
  replace hP : va_P (dC, dI) vwCl [(fa_known, .inl (cZ, 40, .inl f_1)), (fa_lanes, .inl (cI, 40, .inl f_5)), (fa_shortest, .inl (cI, 40, .inl f_8)), (fa_longest, .inl (cI, 40, .inl f_11)), (fh, .inr (0, [.int f_isReached, f_least, f_greatest, f_sites, f_maybeNull, .ref fa_known, .ref fa_lanes, .ref fa_shortest, .ref fa_longest, .ref fa_leastAt, .ref fa_greatestAt])), (fa_leastAt, .inl (cI, 480, .inl f_15)), (fa_greatestAt, .inl (cI, 480, .inl f_16))] H_14 := hP2
  replace hD : va_D A [(fa_known, .inl (cZ, 40, .inl f_1)), (fa_lanes, .inl (cI, 40, .inl f_5)), (fa_shortest, .inl (cI, 40, .inl f_8)), (fa_longest, .inl (cI, 40, .inl f_11)), (fh, .inr (0, [.int f_isReached, f_least, f_greatest, f_sites, f_maybeNull, .ref fa_known, .ref fa_lanes, .ref fa_shortest, .ref fa_longest, .ref fa_leastAt, .ref fa_greatestAt])), (fa_leastAt, .inl (cI, 480, .inl f_15)), (fa_greatestAt, .inl (cI, 480, .inl f_16))] := hD2
  replace hS := hS1
  clear hP2 hD2 hS1
  replace hw_14 : (∀ j : Nat, (12 * ia.toInt ≤ j ∧ 12 * ia.toInt + (0 : Int32).toInt ≤ j ∧ (j : Int) < 12 * ia.toInt + 12 ∧ (j : Int) < 12 * ia.toInt + (12 : Int64).toInt → ((1 : Int32).toInt = 0 → (f_15 j).toInt ≤ (fc_leastAt j).toInt ∧ (f_15 j).toInt ≤ (0 : Int32).toInt ∧ ((f_15 j).toInt = (fc_leastAt j).toInt ∨ (f_15 j).toInt = (0 : Int32).toInt)) ∧ (¬ (1 : Int32).toInt = 0 → (f_15 j).toInt = (0 : Int32).toInt)) ∧ (¬ (12 * ia.toInt ≤ j ∧ 12 * ia.toInt + (0 : Int32).toInt ≤ j ∧ (j : Int) < 12 * ia.toInt + 12 ∧ (j : Int) < 12 * ia.toInt + (12 : Int64).toInt) → (f_15 j).toInt = (fc_leastAt j).toInt)) ∧ (∀ j : Nat, (12 * ia.toInt ≤ j ∧ 12 * ia.toInt + (0 : Int32).toInt ≤ j ∧ (j : Int) < 12 * ia.toInt + 12 ∧ (j : Int) < 12 * ia.toInt + (12 : Int64).toInt → ((1 : Int32).toInt = 0 → (fc_greatestAt j).toInt ≤ (f_16 j).toInt ∧ (0 : Int32).toInt ≤ (f_16 j).toInt ∧ ((f_16 j).toInt = (fc_greatestAt j).toInt ∨ (f_16 j).toInt = (0 : Int32).toInt)) ∧ (¬ (1 : Int32).toInt = 0 → (f_16 j).toInt = (0 : Int32).toInt)) ∧ (¬ (12 * ia.toInt ≤ j ∧ 12 * ia.toInt + (0 : Int32).toInt ≤ j ∧ (j : Int) < 12 * ia.toInt + 12 ∧ (j : Int) < 12 * ia.toInt + (12 : Int64).toInt) → (f_16 j).toInt = (fc_greatestAt j).toInt)) := hw_14
  obtain ⟨x_14_0, x_14_1⟩ := hw_14
  have hP9 := hP.sub (ws' := [(fh, .inr (0, [.int f_isReached, f_least, f_greatest, f_sites, f_maybeNull, .ref fa_known, .ref fa_lanes, .ref fa_shortest, .ref fa_longest, .ref fa_leastAt, .ref fa_greatestAt])), (fa_known, .inl (cZ, 40, .inl f_1)), (fa_lanes, .inl (cI, 40, .inl f_5)), (fa_shortest, .inl (cI, 40, .inl f_8)), (fa_longest, .inl (cI, 40, .inl f_11)), (fa_leastAt, .inl (cI, 480, .inl f_15)), (fa_greatestAt, .inl (cI, 480, .inl f_16))]) [4, 0, 1, 2, 3, 5, 6] rfl
  have hD9 := hD.sub (ws' := [(fh, .inr (0, [.int f_isReached, f_least, f_greatest, f_sites, f_maybeNull, .ref fa_known, .ref fa_lanes, .ref fa_shortest, .ref fa_longest, .ref fa_leastAt, .ref fa_greatestAt])), (fa_known, .inl (cZ, 40, .inl f_1)), (fa_lanes, .inl (cI, 40, .inl f_5)), (fa_shortest, .inl (cI, 40, .inl f_8)), (fa_longest, .inl (cI, 40, .inl f_11)), (fa_leastAt, .inl (cI, 480, .inl f_15)), (fa_greatestAt, .inl (cI, 480, .inl f_16))]) [4, 0, 1, 2, 3, 5, 6] (by decide) rfl
  exact W.vret hx hb hr (fun t ht hW => ⟨⟨(f_1, f_5, f_8, f_11, f_15, f_16), rfl, ⟨(show ∀ j : Nat, kZ (f_1 j) from h_f_1), (show ∀ j : Nat, kL7 (f_5 j) from h_f_5), (show ∀ j : Nat, kLE12 (f_11 j) from h_f_11), (show upI fc_known (ia).toNatClampNeg 1 f_1 from (fun j => by have b0 := u_f_1 j; omega)), (show lbit (f_5 (ia).toNatClampNeg) (la).toNatClampNeg from (lb_eq ((u_f_5 _).1 rfl).symm ((lb_shl ⟨by omega, by omega⟩ e_v_4 (by have b0 := nn_cl2 la; omega)).mpr rfl))), (show ∀ j : Nat, ¬ j = (ia).toNatClampNeg → (f_5 j).toInt = (fc_lanes j).toInt from (fun j hj => (u_f_5 j).2 hj)), (show upI fc_shortest (ia).toNatClampNeg fa.toInt f_8 from u_f_8), (show upI fc_longest (ia).toNatClampNeg ma.toInt f_11 from u_f_11), (show ∀ j : Nat, (12 * ia.toInt ≤ j ∧ (j : Int) < 12 * ia.toInt + 12 → (f_15 j).toInt = 0) ∧ (¬ (12 * ia.toInt ≤ j ∧ (j : Int) < 12 * ia.toInt + 12) → (f_15 j).toInt = (fc_leastAt j).toInt) from (fun j => by have b0 := x_14_0 j; omega)), (show ∀ j : Nat, (12 * ia.toInt ≤ j ∧ (j : Int) < 12 * ia.toInt + 12 → (f_16 j).toInt = 0) ∧ (¬ (12 * ia.toInt ≤ j ∧ (j : Int) < 12 * ia.toInt + 12) → (f_16 j).toInt = (fc_greatestAt j).toInt) from (fun j => by have b0 := x_14_1 j; omega))⟩, by rw [ht]; exact hP9, va_K.moved hW.alike hK, hD9⟩, hS.F ht⟩) hS.2.2 dX0_makeArray_43

def v_X0_begin : List Cond := .code yX0_begin cX0_begin 2 none :: ([.fieldLink RX0 9 "ArraySegments$Facts" "isReached" "Z", .methodLink RX0 48 yX0_setSpan, .instanceMethod yX0_setSpan, .selects RX0 yX0_setSpan yX0_setSpan, .initialized RX0, .fieldLink RX0 22 "ArraySegments$Facts" "sites" "[J", .fieldLink RX0 26 "ArraySegments$Facts" "maybeNull" "[Z", .fieldLink RX0 30 "ArraySegments$Facts" "known" "[Z"] ++ (wsX00 ++ (v_X0_setSpan)))
theorem inv_X0_begin_X0 : ∀ w ∈ wsX00, w ∈ v_X0_begin := fun _ h => List.mem_cons_of_mem _ (List.mem_append_right _ (List.mem_append_left _ h))
theorem im_X0_begin_X0_setSpan : ∀ w ∈ v_X0_setSpan, w ∈ v_X0_begin := fun _ h => List.mem_cons_of_mem _ (List.mem_append_right _ (List.mem_append_right _ (h)))
set_option maxRecDepth 20000 in
theorem gd_X0_begin : gdL v_X0_begin := gdC (gdW (by decide +kernel)) (gdA (gdW (by decide +kernel)) (gdA gd_wsX00 gd_X0_setSpan))
set_option maxRecDepth 20000 in
theorem h_X0_begin_X0_setSpan_48 : GoodIn v_X0_begin (wsV RX0 48 RX0 yX0_setSpan v_X0_setSpan) := gdI [2, 3, 4, 5] rfl (by decide +kernel) (im_X0_begin_X0_setSpan) gd_X0_setSpan
abbrev sw_X0_begin (cI cJ cZ : ClassId) (fh : Nat) (f_isReached : Int32) (fa_least : Nat) (fa_greatest : Nat) (fa_sites : Nat) (fa_maybeNull : Nat) (fa_known : Nat) (f_lanes : Value) (f_shortest : Value) (f_longest : Value) (f_leastAt : Value) (f_greatestAt : Value) (fc_least : Nat → Int32) (fc_greatest : Nat → Int32) (fc_sites : Nat → Int64) (fc_maybeNull : Nat → Int32) (fc_known : Nat → Int32) : va_W := [(fh, .inr (0, [.int f_isReached, .ref fa_least, .ref fa_greatest, .ref fa_sites, .ref fa_maybeNull, .ref fa_known, f_lanes, f_shortest, f_longest, f_leastAt, f_greatestAt])), (fa_least, .inl (cI, 6, .inl fc_least)), (fa_greatest, .inl (cI, 6, .inl fc_greatest)), (fa_sites, .inl (cJ, 6, .inr (.inl fc_sites))), (fa_maybeNull, .inl (cZ, 6, .inl fc_maybeNull)), (fa_known, .inl (cZ, 40, .inl fc_known))]
set_option maxHeartbeats 8000000 in
set_option maxRecDepth 100000 in
theorem s_X0_begin (l : Launch) (dC : Nat → ClassId) (dI : Nat → Nat → Nat) (cI cJ cZ : ClassId) (fh : Nat) (f_isReached : Int32) (fa_least : Nat) (fa_greatest : Nat) (fa_sites : Nat) (fa_maybeNull : Nat) (fa_known : Nat) (f_lanes : Value) (f_shortest : Value) (f_longest : Value) (f_leastAt : Value) (f_greatestAt : Value) (fc_least : Nat → Int32) (fc_greatest : Nat → Int32) (fc_sites : Nat → Int64) (fc_maybeNull : Nat → Int32) (fc_known : Nat → Int32) (sz : Nat) (q_f_isReached : kZ f_isReached) (h_fc_maybeNull : ∀ j : Nat, kZ (fc_maybeNull j)) (h_fc_known : ∀ j : Nat, kZ (fc_known j)) : Met l yX0_begin v_X0_begin ({ frames := 1, cells := 0, slots := 0, locals := 23 }) (va_Pc [.ref fh] (cPre dC dI cI cJ cZ sz (sw_X0_begin cI cJ cZ fh f_isReached fa_least fa_greatest fa_sites fa_maybeNull fa_known f_lanes f_shortest f_longest f_leastAt f_greatestAt fc_least fc_greatest fc_sites fc_maybeNull fc_known))) (va_Qv (fun (u : Int32 × (Nat → Int32) × (Nat → Int32) × (Nat → Int64) × (Nat → Int32) × (Nat → Int32)) => (kZ (u.1)) ∧ (∀ j : Nat, kZ ((u.2.2.2.2.1) j)) ∧ (∀ j : Nat, kZ ((u.2.2.2.2.2) j)) ∧ (∀ j : Nat, j < 6 → ((u.2.1) j).toInt = 0) ∧ (∀ j : Nat, j < 6 → ((u.2.2.1) j).toInt = 0) ∧ (∀ j : Nat, j < 6 → ((u.2.2.2.2.1) j).toInt = 1) ∧ ((u.1) = 1)) (fun (u : Int32 × (Nat → Int32) × (Nat → Int32) × (Nat → Int64) × (Nat → Int32) × (Nat → Int32)) => cPost dC dI cI cJ cZ (va_A (sw_X0_begin cI cJ cZ fh f_isReached fa_least fa_greatest fa_sites fa_maybeNull fa_known f_lanes f_shortest f_longest f_leastAt f_greatestAt fc_least fc_greatest fc_sites fc_maybeNull fc_known) sz) [(fh, .inr (0, [.int (u.1), .ref fa_least, .ref fa_greatest, .ref fa_sites, .ref fa_maybeNull, .ref fa_known, f_lanes, f_shortest, f_longest, f_leastAt, f_greatestAt])), (fa_least, .inl (cI, 6, .inl (u.2.1))), (fa_greatest, .inl (cI, 6, .inl (u.2.2.1))), (fa_sites, .inl (cJ, 6, .inr (.inl (u.2.2.2.1)))), (fa_maybeNull, .inl (cZ, 6, .inl (u.2.2.2.2.1))), (fa_known, .inl (cZ, 40, .inl (u.2.2.2.2.2)))]) (va_A (sw_X0_begin cI cJ cZ fh f_isReached fa_least fa_greatest fa_sites fa_maybeNull fa_known f_lanes f_shortest f_longest f_leastAt f_greatestAt fc_least fc_greatest fc_sites fc_maybeNull fc_known) sz)) 0 0 (va_A (sw_X0_begin cI cJ cZ fh f_isReached fa_least fa_greatest fa_sites fa_maybeNull fa_known f_lanes f_shortest f_longest f_leastAt f_greatestAt fc_least fc_greatest fc_sites fc_maybeNull fc_known) sz) := by
  refine Met.ofW (cc := cX0_begin) (maxL := 2) (ret := none) (by decide) rfl ?_
  intro p e s m args below meth c s₁ B hml hv
  obtain ⟨rfl, hsz, hP, hK, hD0, hN⟩ := hv
  have hx := B.exec
  have hb := B.bytes
  have hr := B.returns
  have hts := atoms_spec (ws := v_X0_begin) B.pre
  have hown : s.vm.findClass RX0 = some m.cls := findClass_of_methodNamed B.named
  have hlocks := B.notSynchronized
  subst hsz
  have hD := hD0.self (sz := s.heap.size)
  generalize hAe : va_A (sw_X0_begin cI cJ cZ fh f_isReached fa_least fa_greatest fa_sites fa_maybeNull fa_known f_lanes f_shortest f_longest f_leastAt f_greatestAt fc_least fc_greatest fc_sites fc_maybeNull fc_known) s.heap.size = A at hD ⊢
  have hA : ∀ q : Nat, s.heap.size ≤ q → A q := fun q h => by rw [← hAe]; exact Or.inr h
  clear hAe hD0
  have hS : va_S A s.heap s.heap [] := va_S.rf
  replace hP : va_P (dC, dI) vwCl [(fh, .inr (0, [.int f_isReached, .ref fa_least, .ref fa_greatest, .ref fa_sites, .ref fa_maybeNull, .ref fa_known, f_lanes, f_shortest, f_longest, f_leastAt, f_greatestAt])), (fa_least, .inl (cI, 6, .inl fc_least)), (fa_greatest, .inl (cI, 6, .inl fc_greatest)), (fa_sites, .inl (cJ, 6, .inr (.inl fc_sites))), (fa_maybeNull, .inl (cZ, 6, .inl fc_maybeNull)), (fa_known, .inl (cZ, 40, .inl fc_known))] s.heap := hP
  replace hD : va_D A [(fh, .inr (0, [.int f_isReached, .ref fa_least, .ref fa_greatest, .ref fa_sites, .ref fa_maybeNull, .ref fa_known, f_lanes, f_shortest, f_longest, f_leastAt, f_greatestAt])), (fa_least, .inl (cI, 6, .inl fc_least)), (fa_greatest, .inl (cI, 6, .inl fc_greatest)), (fa_sites, .inl (cJ, 6, .inr (.inl fc_sites))), (fa_maybeNull, .inl (cZ, 6, .inl fc_maybeNull)), (fa_known, .inl (cZ, 40, .inl fc_known))] := hD
  have hl := lv_entry ([.ref fh]) (n := 2) (Nat.le_of_ble_eq_true rfl)
  rw [lg_entry_eq]
  generalize (lg_sl ([.ref fh]) ++ List.replicate (2 - (lg_sl ([.ref fh])).length) Slot.unset).toArray = ls at hl ⊢
  replace hl : lv_has ls 2 [(0, .ref fh)] := hl
  have z_0 : (0 : Int32).toInt = 0 := by decide
  have z_1 : (1 : Int32).toInt = 1 := by decide
  have z_6 : (6 : Int32).toInt = 6 := by decide
  have z_40 : (40 : Int32).toInt = 40 := by decide
  have zl_0 : (0 : Int64).toInt = 0 := by decide
  refine lv_aload_n hx hb dX0_begin_0 rfl (lv_at hl 0 rfl) ?_
  refine lv_iconst (v := 1) hx hb dX0_begin_1 (by decide) ?_
  refine va_put (D := (dC, dI)) (ci := 0) (v := .int 1) (ty := .boolean) (C := RX0) (T := TX0) (N := 11) hx hb hts inv_X0_begin_X0 tyX0 tyX0_ok nmX0 hown hK hP hD hS 0 rfl rfl 0 (by decide) (hts (.fieldLink RX0 9 "ArraySegments$Facts" "isReached" "Z") (List.mem_of_getElem? (i := 1) rfl)) (fun _ h9 => h9) rfl (by decide +kernel) rfl rfl (Nat.le_of_ble_eq_true rfl) dX0_begin_2 (fun H_1 locs_1 hP1 hD1 hS1 => ?_)
  replace hP : va_P (dC, dI) vwCl [(fh, .inr (0, [.int 1, .ref fa_least, .ref fa_greatest, .ref fa_sites, .ref fa_maybeNull, .ref fa_known, f_lanes, f_shortest, f_longest, f_leastAt, f_greatestAt])), (fa_least, .inl (cI, 6, .inl fc_least)), (fa_greatest, .inl (cI, 6, .inl fc_greatest)), (fa_sites, .inl (cJ, 6, .inr (.inl fc_sites))), (fa_maybeNull, .inl (cZ, 6, .inl fc_maybeNull)), (fa_known, .inl (cZ, 40, .inl fc_known))] H_1 := hP1
  replace hD : va_D A [(fh, .inr (0, [.int 1, .ref fa_least, .ref fa_greatest, .ref fa_sites, .ref fa_maybeNull, .ref fa_known, f_lanes, f_shortest, f_longest, f_leastAt, f_greatestAt])), (fa_least, .inl (cI, 6, .inl fc_least)), (fa_greatest, .inl (cI, 6, .inl fc_greatest)), (fa_sites, .inl (cJ, 6, .inr (.inl fc_sites))), (fa_maybeNull, .inl (cZ, 6, .inl fc_maybeNull)), (fa_known, .inl (cZ, 40, .inl fc_known))] := hD1
  replace hS := hS1
  clear hP1 hD1 hS1
  refine lv_iconst (v := 0) hx hb dX0_begin_5 (by decide) ?_
  refine lv_istore_n (lv' := [(1, .int 0), (0, .ref fh)]) hx hb dX0_begin_6 rfl hl (by decide) rfl (fun ls1 hl1 => ?_)
  replace hl := hl1; clear hl1
  refine my_wloop (S := Int32 × (Nat → Int32) × (Nat → Int32)) (fun u => (0 ≤ (u.1).toInt ∧ (u.1).toInt ≤ 6) ∧ (∀ j : Nat, (j : Int) < (u.1).toInt → ((u.2.1) j).toInt = 0) ∧ (∀ j : Nat, (j : Int) < (u.1).toInt → ((u.2.2) j).toInt = 0)) (fun u => (6 - (u.1).toInt).toNat) (fun u => [(fh, .inr (0, [.int 1, .ref fa_least, .ref fa_greatest, .ref fa_sites, .ref fa_maybeNull, .ref fa_known, f_lanes, f_shortest, f_longest, f_leastAt, f_greatestAt])), (fa_least, .inl (cI, 6, .inl (u.2.1))), (fa_greatest, .inl (cI, 6, .inl (u.2.2))), (fa_sites, .inl (cJ, 6, .inr (.inl fc_sites))), (fa_maybeNull, .inl (cZ, 6, .inl fc_maybeNull)), (fa_known, .inl (cZ, 40, .inl fc_known))]) (fun u => [(1, .int (u.1)), (0, .ref fh)]) (H0 := s.heap) (A := A) (D := (dC, dI)) (cl := vwCl) ((0 : Int32), fc_least, fc_greatest) (show (0 ≤ (0 : Int32).toInt ∧ (0 : Int32).toInt ≤ 6) ∧ (∀ j : Nat, (j : Int) < (0 : Int32).toInt → (fc_least j).toInt = 0) ∧ (∀ j : Nat, (j : Int) < (0 : Int32).toInt → (fc_greatest j).toInt = 0) from ⟨⟨by omega, by omega⟩, (fun j hj => by omega), (fun j hj => by omega)⟩) (by exact hP) (by exact hD) hS (by exact hl) (fun u_2 hu_2 ih_2 H_2 locs_2 ls1 hP1 hD1 hS1 hl1 => ?_)
  obtain ⟨v_3, f_4, f_5⟩ := u_2
  replace hu_2 : (0 ≤ v_3.toInt ∧ v_3.toInt ≤ 6) ∧ (∀ j : Nat, (j : Int) < v_3.toInt → (f_4 j).toInt = 0) ∧ (∀ j : Nat, (j : Int) < v_3.toInt → (f_5 j).toInt = 0) := hu_2
  obtain ⟨q_v_3, x_2_0, x_2_1⟩ := hu_2
  replace hP : va_P (dC, dI) vwCl [(fh, .inr (0, [.int 1, .ref fa_least, .ref fa_greatest, .ref fa_sites, .ref fa_maybeNull, .ref fa_known, f_lanes, f_shortest, f_longest, f_leastAt, f_greatestAt])), (fa_least, .inl (cI, 6, .inl f_4)), (fa_greatest, .inl (cI, 6, .inl f_5)), (fa_sites, .inl (cJ, 6, .inr (.inl fc_sites))), (fa_maybeNull, .inl (cZ, 6, .inl fc_maybeNull)), (fa_known, .inl (cZ, 40, .inl fc_known))] H_2 := hP1
  replace hD : va_D A [(fh, .inr (0, [.int 1, .ref fa_least, .ref fa_greatest, .ref fa_sites, .ref fa_maybeNull, .ref fa_known, f_lanes, f_shortest, f_longest, f_leastAt, f_greatestAt])), (fa_least, .inl (cI, 6, .inl f_4)), (fa_greatest, .inl (cI, 6, .inl f_5)), (fa_sites, .inl (cJ, 6, .inr (.inl fc_sites))), (fa_maybeNull, .inl (cZ, 6, .inl fc_maybeNull)), (fa_known, .inl (cZ, 40, .inl fc_known))] := hD1
  replace hS := hS1
  clear hP1 hD1 hS1
  replace hl : lv_has ls1 2 [(1, .int v_3), (0, .ref fh)] := hl1
  clear hl1
  refine lv_iload_n hx hb dX0_begin_7 rfl (lv_at hl 0 rfl) ?_
  refine lv_bipush (v := 6) hx hb dX0_begin_8 (by decide) ?_
  refine lv_icmp_ge (tgt := 26) hx hb dX0_begin_10 (by decide) (fun c_6 => ?_) (fun c_6 => ?_)
  · -- yes
    have k_6 : (6 : Int32).toInt ≤ v_3.toInt := ci_ge c_6
    refine lv_iconst (v := 0) hx hb dX0_begin_26 (by decide) ?_
    refine lv_istore_n (lv' := [(1, .int 0), (0, .ref fh)]) hx hb dX0_begin_27 rfl hl (by decide) rfl (fun ls1 hl1 => ?_)
    replace hl := hl1; clear hl1
    refine my_wloop (S := Int32 × (Nat → Int64) × (Nat → Int32)) (fun u => (0 ≤ (u.1).toInt ∧ (u.1).toInt ≤ 6) ∧ (∀ j : Nat, kZ ((u.2.2) j)) ∧ (∀ j : Nat, (j : Int) < (u.1).toInt → ((u.2.2) j).toInt = 1)) (fun u => (6 - (u.1).toInt).toNat) (fun u => [(fh, .inr (0, [.int 1, .ref fa_least, .ref fa_greatest, .ref fa_sites, .ref fa_maybeNull, .ref fa_known, f_lanes, f_shortest, f_longest, f_leastAt, f_greatestAt])), (fa_least, .inl (cI, 6, .inl f_4)), (fa_greatest, .inl (cI, 6, .inl f_5)), (fa_sites, .inl (cJ, 6, .inr (.inl (u.2.1)))), (fa_maybeNull, .inl (cZ, 6, .inl (u.2.2))), (fa_known, .inl (cZ, 40, .inl fc_known))]) (fun u => [(1, .int (u.1)), (0, .ref fh)]) (H0 := s.heap) (A := A) (D := (dC, dI)) (cl := vwCl) ((0 : Int32), fc_sites, fc_maybeNull) (show (0 ≤ (0 : Int32).toInt ∧ (0 : Int32).toInt ≤ 6) ∧ (∀ j : Nat, kZ (fc_maybeNull j)) ∧ (∀ j : Nat, (j : Int) < (0 : Int32).toInt → (fc_maybeNull j).toInt = 1) from ⟨⟨by omega, by omega⟩, h_fc_maybeNull, (fun j hj => by omega)⟩) (by exact hP) (by exact hD) hS (by exact hl) (fun u_7 hu_7 ih_7 H_7 locs_7 ls1 hP1 hD1 hS1 hl1 => ?_)
    obtain ⟨v_8, f_9, f_10⟩ := u_7
    replace hu_7 : (0 ≤ v_8.toInt ∧ v_8.toInt ≤ 6) ∧ (∀ j : Nat, kZ (f_10 j)) ∧ (∀ j : Nat, (j : Int) < v_8.toInt → (f_10 j).toInt = 1) := hu_7
    obtain ⟨q_v_8, h_f_10, x_7_0⟩ := hu_7
    replace hP : va_P (dC, dI) vwCl [(fh, .inr (0, [.int 1, .ref fa_least, .ref fa_greatest, .ref fa_sites, .ref fa_maybeNull, .ref fa_known, f_lanes, f_shortest, f_longest, f_leastAt, f_greatestAt])), (fa_least, .inl (cI, 6, .inl f_4)), (fa_greatest, .inl (cI, 6, .inl f_5)), (fa_sites, .inl (cJ, 6, .inr (.inl f_9))), (fa_maybeNull, .inl (cZ, 6, .inl f_10)), (fa_known, .inl (cZ, 40, .inl fc_known))] H_7 := hP1
    replace hD : va_D A [(fh, .inr (0, [.int 1, .ref fa_least, .ref fa_greatest, .ref fa_sites, .ref fa_maybeNull, .ref fa_known, f_lanes, f_shortest, f_longest, f_leastAt, f_greatestAt])), (fa_least, .inl (cI, 6, .inl f_4)), (fa_greatest, .inl (cI, 6, .inl f_5)), (fa_sites, .inl (cJ, 6, .inr (.inl f_9))), (fa_maybeNull, .inl (cZ, 6, .inl f_10)), (fa_known, .inl (cZ, 40, .inl fc_known))] := hD1
    replace hS := hS1
    clear hP1 hD1 hS1
    replace hl : lv_has ls1 2 [(1, .int v_8), (0, .ref fh)] := hl1
    clear hl1
    refine lv_iload_n hx hb dX0_begin_28 rfl (lv_at hl 0 rfl) ?_
    refine lv_bipush (v := 6) hx hb dX0_begin_29 (by decide) ?_
    refine lv_icmp_ge (tgt := 54) hx hb dX0_begin_31 (by decide) (fun c_11 => ?_) (fun c_11 => ?_)
    · -- yes
      have k_11 : (6 : Int32).toInt ≤ v_8.toInt := ci_ge c_11
      refine lv_iconst (v := 0) hx hb dX0_begin_54 (by decide) ?_
      refine lv_istore_n (lv' := [(1, .int 0), (0, .ref fh)]) hx hb dX0_begin_55 rfl hl (by decide) rfl (fun ls1 hl1 => ?_)
      replace hl := hl1; clear hl1
      refine my_wloop (S := Int32 × (Nat → Int32)) (fun u => (0 ≤ (u.1).toInt ∧ (u.1).toInt ≤ 40) ∧ (∀ j : Nat, kZ ((u.2) j))) (fun u => (40 - (u.1).toInt).toNat) (fun u => [(fh, .inr (0, [.int 1, .ref fa_least, .ref fa_greatest, .ref fa_sites, .ref fa_maybeNull, .ref fa_known, f_lanes, f_shortest, f_longest, f_leastAt, f_greatestAt])), (fa_least, .inl (cI, 6, .inl f_4)), (fa_greatest, .inl (cI, 6, .inl f_5)), (fa_sites, .inl (cJ, 6, .inr (.inl f_9))), (fa_maybeNull, .inl (cZ, 6, .inl f_10)), (fa_known, .inl (cZ, 40, .inl (u.2)))]) (fun u => [(1, .int (u.1)), (0, .ref fh)]) (H0 := s.heap) (A := A) (D := (dC, dI)) (cl := vwCl) ((0 : Int32), fc_known) (show (0 ≤ (0 : Int32).toInt ∧ (0 : Int32).toInt ≤ 40) ∧ (∀ j : Nat, kZ (fc_known j)) from ⟨⟨by omega, by omega⟩, h_fc_known⟩) (by exact hP) (by exact hD) hS (by exact hl) (fun u_12 hu_12 ih_12 H_12 locs_12 ls1 hP1 hD1 hS1 hl1 => ?_)
      obtain ⟨v_13, f_14⟩ := u_12
      replace hu_12 : (0 ≤ v_13.toInt ∧ v_13.toInt ≤ 40) ∧ (∀ j : Nat, kZ (f_14 j)) := hu_12
      obtain ⟨q_v_13, h_f_14⟩ := hu_12
      replace hP : va_P (dC, dI) vwCl [(fh, .inr (0, [.int 1, .ref fa_least, .ref fa_greatest, .ref fa_sites, .ref fa_maybeNull, .ref fa_known, f_lanes, f_shortest, f_longest, f_leastAt, f_greatestAt])), (fa_least, .inl (cI, 6, .inl f_4)), (fa_greatest, .inl (cI, 6, .inl f_5)), (fa_sites, .inl (cJ, 6, .inr (.inl f_9))), (fa_maybeNull, .inl (cZ, 6, .inl f_10)), (fa_known, .inl (cZ, 40, .inl f_14))] H_12 := hP1
      replace hD : va_D A [(fh, .inr (0, [.int 1, .ref fa_least, .ref fa_greatest, .ref fa_sites, .ref fa_maybeNull, .ref fa_known, f_lanes, f_shortest, f_longest, f_leastAt, f_greatestAt])), (fa_least, .inl (cI, 6, .inl f_4)), (fa_greatest, .inl (cI, 6, .inl f_5)), (fa_sites, .inl (cJ, 6, .inr (.inl f_9))), (fa_maybeNull, .inl (cZ, 6, .inl f_10)), (fa_known, .inl (cZ, 40, .inl f_14))] := hD1
      replace hS := hS1
      clear hP1 hD1 hS1
      replace hl : lv_has ls1 2 [(1, .int v_13), (0, .ref fh)] := hl1
      clear hl1
      refine lv_iload_n hx hb dX0_begin_56 rfl (lv_at hl 0 rfl) ?_
      refine lv_bipush (v := 40) hx hb dX0_begin_57 (by decide) ?_
      refine lv_icmp_ge (tgt := 75) hx hb dX0_begin_59 (by decide) (fun c_15 => ?_) (fun c_15 => ?_)
      · -- yes
        have k_15 : (40 : Int32).toInt ≤ v_13.toInt := ci_ge c_15
        have hP9 := hP.sub (ws' := [(fh, .inr (0, [.int 1, .ref fa_least, .ref fa_greatest, .ref fa_sites, .ref fa_maybeNull, .ref fa_known, f_lanes, f_shortest, f_longest, f_leastAt, f_greatestAt])), (fa_least, .inl (cI, 6, .inl f_4)), (fa_greatest, .inl (cI, 6, .inl f_5)), (fa_sites, .inl (cJ, 6, .inr (.inl f_9))), (fa_maybeNull, .inl (cZ, 6, .inl f_10)), (fa_known, .inl (cZ, 40, .inl f_14))]) [0, 1, 2, 3, 4, 5] rfl
        have hD9 := hD.sub (ws' := [(fh, .inr (0, [.int 1, .ref fa_least, .ref fa_greatest, .ref fa_sites, .ref fa_maybeNull, .ref fa_known, f_lanes, f_shortest, f_longest, f_leastAt, f_greatestAt])), (fa_least, .inl (cI, 6, .inl f_4)), (fa_greatest, .inl (cI, 6, .inl f_5)), (fa_sites, .inl (cJ, 6, .inr (.inl f_9))), (fa_maybeNull, .inl (cZ, 6, .inl f_10)), (fa_known, .inl (cZ, 40, .inl f_14))]) [0, 1, 2, 3, 4, 5] (by decide) rfl
        exact W.vret hx hb hr (fun t ht hW => ⟨⟨((1 : Int32), f_4, f_5, f_9, f_10, f_14), rfl, ⟨(show kZ (1 : Int32) from (by decide)), (show ∀ j : Nat, kZ (f_10 j) from h_f_10), (show ∀ j : Nat, kZ (f_14 j) from h_f_14), (show ∀ j : Nat, j < 6 → (f_4 j).toInt = 0 from (fun j hj => x_2_0 j (by omega))), (show ∀ j : Nat, j < 6 → (f_5 j).toInt = 0 from (fun j hj => x_2_1 j (by omega))), (show ∀ j : Nat, j < 6 → (f_10 j).toInt = 1 from (fun j hj => x_7_0 j (by omega))), (show (1 : Int32) = 1 from rfl)⟩, by rw [ht]; exact hP9, va_K.moved hW.alike hK, hD9⟩, hS.F ht⟩) hS.2.2 dX0_begin_75
      · -- no
        have k_15 : v_13.toInt < (40 : Int32).toInt := ci_nge c_15
        refine lv_aload_n hx hb dX0_begin_62 rfl (lv_at hl 1 rfl) ?_
        refine va_get (D := (dC, dI)) (ci := 0) (v := .ref fa_known) (C := RX0) (T := TX0) (N := 11) hx hb hts inv_X0_begin_X0 hown hK hP 0 rfl rfl 5 (by decide) (hts (.fieldLink RX0 30 "ArraySegments$Facts" "known" "[Z") (List.mem_of_getElem? (i := 8) rfl)) (fun _ h9 => h9) rfl dX0_begin_63 ?_
        refine lv_iload_n hx hb dX0_begin_66 rfl (lv_at hl 0 rfl) ?_
        refine lv_iconst (v := 0) hx hb dX0_begin_67 (by decide) ?_
        have ni_18 := nn_cl (z := v_13) (by omega)
        refine sf_zastU hx hb hK hP hD hS 5 2 rfl rfl h_f_14 (by decide) (vp_in_iff.mpr ⟨by omega, by omega⟩) dX0_begin_68 (fun f_16 h_f_16 u_f_16 H_17 locs_17 hP1 hD1 hS1 => ?_)
        replace hP : va_P (dC, dI) vwCl [(fh, .inr (0, [.int 1, .ref fa_least, .ref fa_greatest, .ref fa_sites, .ref fa_maybeNull, .ref fa_known, f_lanes, f_shortest, f_longest, f_leastAt, f_greatestAt])), (fa_least, .inl (cI, 6, .inl f_4)), (fa_greatest, .inl (cI, 6, .inl f_5)), (fa_sites, .inl (cJ, 6, .inr (.inl f_9))), (fa_maybeNull, .inl (cZ, 6, .inl f_10)), (fa_known, .inl (cZ, 40, .inl f_16))] H_17 := hP1
        replace hD : va_D A [(fh, .inr (0, [.int 1, .ref fa_least, .ref fa_greatest, .ref fa_sites, .ref fa_maybeNull, .ref fa_known, f_lanes, f_shortest, f_longest, f_leastAt, f_greatestAt])), (fa_least, .inl (cI, 6, .inl f_4)), (fa_greatest, .inl (cI, 6, .inl f_5)), (fa_sites, .inl (cJ, 6, .inr (.inl f_9))), (fa_maybeNull, .inl (cZ, 6, .inl f_10)), (fa_known, .inl (cZ, 40, .inl f_16))] := hD1
        replace hS := hS1
        clear hP1 hD1 hS1
        refine sf_iinc hx hb dX0_begin_69 hl (k := 0) (x := v_13) (w := 1) rfl (by decide) (by decide) ⟨by omega, by omega⟩ (fun v_19 q_v_19 ls1 hl1 => ?_)
        replace hl : lv_has ls1 2 [(1, .int v_19), (0, .ref fh)] := hl1
        clear hl1
        refine lv_goto (tgt := 56) hx hb dX0_begin_72 (by decide) ?_
        exact ih_12 (v_19, f_16) (show (0 ≤ v_19.toInt ∧ v_19.toInt ≤ 40) ∧ (∀ j : Nat, kZ (f_16 j)) from ⟨⟨by omega, by omega⟩, h_f_16⟩) (by show (40 - v_19.toInt).toNat < (40 - v_13.toInt).toNat; omega) _ _ _ (hP.sub [0, 1, 2, 3, 4, 5] rfl) (hD.sub [0, 1, 2, 3, 4, 5] (by decide) rfl) hS (lv_sub hl [0, 1] rfl)
    · -- no
      have k_11 : v_8.toInt < (6 : Int32).toInt := ci_nge c_11
      refine lv_aload_n hx hb dX0_begin_34 rfl (lv_at hl 1 rfl) ?_
      refine va_get (D := (dC, dI)) (ci := 0) (v := .ref fa_sites) (C := RX0) (T := TX0) (N := 11) hx hb hts inv_X0_begin_X0 hown hK hP 0 rfl rfl 3 (by decide) (hts (.fieldLink RX0 22 "ArraySegments$Facts" "sites" "[J") (List.mem_of_getElem? (i := 6) rfl)) (fun _ h9 => h9) rfl dX0_begin_35 ?_
      refine lv_iload_n hx hb dX0_begin_38 rfl (lv_at hl 0 rfl) ?_
      refine lv_lconst (v := 0) hx hb dX0_begin_39 (by decide) ?_
      have ni_22 := nn_cl (z := v_8) (by omega)
      refine sf_lastU2 lT hx hb hK hP hD hS 3 1 rfl rfl (fun _ => trivial) trivial (vp_in_iff.mpr ⟨by omega, by omega⟩) dX0_begin_40 (fun f_20 h_f_20 u_f_20 H_21 locs_21 hP1 hD1 hS1 => ?_)
      replace hP : va_P (dC, dI) vwCl [(fh, .inr (0, [.int 1, .ref fa_least, .ref fa_greatest, .ref fa_sites, .ref fa_maybeNull, .ref fa_known, f_lanes, f_shortest, f_longest, f_leastAt, f_greatestAt])), (fa_least, .inl (cI, 6, .inl f_4)), (fa_greatest, .inl (cI, 6, .inl f_5)), (fa_sites, .inl (cJ, 6, .inr (.inl f_20))), (fa_maybeNull, .inl (cZ, 6, .inl f_10)), (fa_known, .inl (cZ, 40, .inl fc_known))] H_21 := hP1
      replace hD : va_D A [(fh, .inr (0, [.int 1, .ref fa_least, .ref fa_greatest, .ref fa_sites, .ref fa_maybeNull, .ref fa_known, f_lanes, f_shortest, f_longest, f_leastAt, f_greatestAt])), (fa_least, .inl (cI, 6, .inl f_4)), (fa_greatest, .inl (cI, 6, .inl f_5)), (fa_sites, .inl (cJ, 6, .inr (.inl f_20))), (fa_maybeNull, .inl (cZ, 6, .inl f_10)), (fa_known, .inl (cZ, 40, .inl fc_known))] := hD1
      replace hS := hS1
      clear hP1 hD1 hS1
      refine lv_aload_n hx hb dX0_begin_41 rfl (lv_at hl 1 rfl) ?_
      refine va_get (D := (dC, dI)) (ci := 0) (v := .ref fa_maybeNull) (C := RX0) (T := TX0) (N := 11) hx hb hts inv_X0_begin_X0 hown hK hP 0 rfl rfl 4 (by decide) (hts (.fieldLink RX0 26 "ArraySegments$Facts" "maybeNull" "[Z") (List.mem_of_getElem? (i := 7) rfl)) (fun _ h9 => h9) rfl dX0_begin_42 ?_
      refine lv_iload_n hx hb dX0_begin_45 rfl (lv_at hl 0 rfl) ?_
      refine lv_iconst (v := 1) hx hb dX0_begin_46 (by decide) ?_
      have ni_25 := nn_cl (z := v_8) (by omega)
      refine sf_zastU hx hb hK hP hD hS 4 2 rfl rfl h_f_10 (by decide) (vp_in_iff.mpr ⟨by omega, by omega⟩) dX0_begin_47 (fun f_23 h_f_23 u_f_23 H_24 locs_24 hP1 hD1 hS1 => ?_)
      replace hP : va_P (dC, dI) vwCl [(fh, .inr (0, [.int 1, .ref fa_least, .ref fa_greatest, .ref fa_sites, .ref fa_maybeNull, .ref fa_known, f_lanes, f_shortest, f_longest, f_leastAt, f_greatestAt])), (fa_least, .inl (cI, 6, .inl f_4)), (fa_greatest, .inl (cI, 6, .inl f_5)), (fa_sites, .inl (cJ, 6, .inr (.inl f_20))), (fa_maybeNull, .inl (cZ, 6, .inl f_23)), (fa_known, .inl (cZ, 40, .inl fc_known))] H_24 := hP1
      replace hD : va_D A [(fh, .inr (0, [.int 1, .ref fa_least, .ref fa_greatest, .ref fa_sites, .ref fa_maybeNull, .ref fa_known, f_lanes, f_shortest, f_longest, f_leastAt, f_greatestAt])), (fa_least, .inl (cI, 6, .inl f_4)), (fa_greatest, .inl (cI, 6, .inl f_5)), (fa_sites, .inl (cJ, 6, .inr (.inl f_20))), (fa_maybeNull, .inl (cZ, 6, .inl f_23)), (fa_known, .inl (cZ, 40, .inl fc_known))] := hD1
      replace hS := hS1
      clear hP1 hD1 hS1
      refine sf_iinc hx hb dX0_begin_48 hl (k := 0) (x := v_8) (w := 1) rfl (by decide) (by decide) ⟨by omega, by omega⟩ (fun v_26 q_v_26 ls1 hl1 => ?_)
      replace hl : lv_has ls1 2 [(1, .int v_26), (0, .ref fh)] := hl1
      clear hl1
      refine lv_goto (tgt := 28) hx hb dX0_begin_51 (by decide) ?_
      exact ih_7 (v_26, f_20, f_23) (show (0 ≤ v_26.toInt ∧ v_26.toInt ≤ 6) ∧ (∀ j : Nat, kZ (f_23 j)) ∧ (∀ j : Nat, (j : Int) < v_26.toInt → (f_23 j).toInt = 1) from ⟨⟨by omega, by omega⟩, h_f_23, (fun j hj => by have b0 := u_f_23 j; have b1 := x_7_0 j; by_cases hq : j = (v_8).toNatClampNeg; (· subst hq; omega); (· omega))⟩) (by show (6 - v_26.toInt).toNat < (6 - v_8.toInt).toNat; omega) _ _ _ (hP.sub [0, 1, 2, 3, 4, 5] rfl) (hD.sub [0, 1, 2, 3, 4, 5] (by decide) rfl) hS (lv_sub hl [0, 1] rfl)
  · -- no
    have k_6 : v_3.toInt < (6 : Int32).toInt := ci_nge c_6
    have ni_27 := nn_cl (z := v_3) (by omega)
    refine lv_aload_n hx hb dX0_begin_13 rfl (lv_at hl 1 rfl) ?_
    refine lv_iload_n hx hb dX0_begin_14 rfl (lv_at hl 0 rfl) ?_
    refine lv_iconst (v := 0) hx hb dX0_begin_15 (by decide) ?_
    refine lv_iconst (v := 0) hx hb dX0_begin_16 (by decide) ?_
    have hPc := hP.sub (ws' := [(fh, .inr (0, [.int 1, .ref fa_least, .ref fa_greatest, .ref fa_sites, .ref fa_maybeNull, .ref fa_known, f_lanes, f_shortest, f_longest, f_leastAt, f_greatestAt])), (fa_least, .inl (cI, 6, .inl f_4)), (fa_greatest, .inl (cI, 6, .inl f_5))]) [0, 1, 2] rfl
    have hDc := hD.sub (ws' := [(fh, .inr (0, [.int 1, .ref fa_least, .ref fa_greatest, .ref fa_sites, .ref fa_maybeNull, .ref fa_known, f_lanes, f_shortest, f_longest, f_leastAt, f_greatestAt])), (fa_least, .inl (cI, 6, .inl f_4)), (fa_greatest, .inl (cI, 6, .inl f_5))]) [0, 1, 2] (by decide) rfl
    have hFc := va_free (wc := [(fh, .inr (0, [.int 1, .ref fa_least, .ref fa_greatest, .ref fa_sites, .ref fa_maybeNull, .ref fa_known, f_lanes, f_shortest, f_longest, f_leastAt, f_greatestAt])), (fa_least, .inl (cI, 6, .inl f_4)), (fa_greatest, .inl (cI, 6, .inl f_5))]) hD hS hA [0, 1, 2] rfl
    refine va_callv (va_runV (As := [.int v_3, .int 0, .int 0]) (rest := []) ⟨hx, hb, hml, hown, hts⟩ (s_X0_setSpan l dC dI cI cJ cZ fh 1 fa_least fa_greatest (.ref fa_sites) (.ref fa_maybeNull) (.ref fa_known) f_lanes f_shortest f_longest f_leastAt f_greatestAt f_4 f_5 v_3 0 0 H_2.size (by decide) (by first | assumption | omega)) (cwV 3 hts h_X0_begin_X0_setSpan_48 rfl rfl rfl (by decide +kernel) ⟨Nat.le_of_ble_eq_true rfl, Nat.le_of_ble_eq_true rfl⟩) ⟨cPre_blind, va_recv hK hPc (ci := 0) (q0 := 0) rfl rfl, cPre_of hK hN hPc hDc⟩ rfl rfl hl.1 rfl (lv_room (Nat.le_of_ble_eq_true rfl)) dX0_begin_17 ⟨Nat.le_of_ble_eq_true rfl, Nat.le_of_ble_eq_true rfl⟩) hS (fun q _ h => hFc q h) hFc (fun u_28 t_28 H_28 locs_28 ht hvm hw_28 hB hz1 hk1 hS1 => ?_)
    obtain ⟨f_29, f_30⟩ := u_28
    obtain ⟨hP1, hK1, hD1⟩ := hB
    rw [ht] at hP1
    obtain ⟨hP2, hD2⟩ := va_join (wr := [(fa_sites, .inl (cJ, 6, .inr (.inl fc_sites))), (fa_maybeNull, .inl (cZ, 6, .inl fc_maybeNull)), (fa_known, .inl (cZ, 40, .inl fc_known))]) (w1 := [(fh, .inr (0, [.int 1, .ref fa_least, .ref fa_greatest, .ref fa_sites, .ref fa_maybeNull, .ref fa_known, f_lanes, f_shortest, f_longest, f_leastAt, f_greatestAt])), (fa_least, .inl (cI, 6, .inl f_29)), (fa_greatest, .inl (cI, 6, .inl f_30))]) hP hD [0, 1, 2] [3, 4, 5] rfl rfl (by decide) (by decide) hk1 hFc hP1 hD1
    clear hPc hDc hFc hP1 hD1 hK1 hk1 hz1 hvm ht
    replace hP : va_P (dC, dI) vwCl [(fa_sites, .inl (cJ, 6, .inr (.inl fc_sites))), (fa_maybeNull, .inl (cZ, 6, .inl fc_maybeNull)), (fa_known, .inl (cZ, 40, .inl fc_known)), (fh, .inr (0, [.int 1, .ref fa_least, .ref fa_greatest, .ref fa_sites, .ref fa_maybeNull, .ref fa_known, f_lanes, f_shortest, f_longest, f_leastAt, f_greatestAt])), (fa_least, .inl (cI, 6, .inl f_29)), (fa_greatest, .inl (cI, 6, .inl f_30))] H_28 := hP2
    replace hD : va_D A [(fa_sites, .inl (cJ, 6, .inr (.inl fc_sites))), (fa_maybeNull, .inl (cZ, 6, .inl fc_maybeNull)), (fa_known, .inl (cZ, 40, .inl fc_known)), (fh, .inr (0, [.int 1, .ref fa_least, .ref fa_greatest, .ref fa_sites, .ref fa_maybeNull, .ref fa_known, f_lanes, f_shortest, f_longest, f_leastAt, f_greatestAt])), (fa_least, .inl (cI, 6, .inl f_29)), (fa_greatest, .inl (cI, 6, .inl f_30))] := hD2
    replace hS := hS1
    clear hP2 hD2 hS1
    replace hw_28 : (upI f_4 (v_3).toNatClampNeg (0 : Int32).toInt f_29) ∧ (upI f_5 (v_3).toNatClampNeg (0 : Int32).toInt f_30) := hw_28
    obtain ⟨x_28_0, x_28_1⟩ := hw_28
    refine sf_iinc hx hb dX0_begin_20 hl (k := 0) (x := v_3) (w := 1) rfl (by decide) (by decide) ⟨by omega, by omega⟩ (fun v_31 q_v_31 ls1 hl1 => ?_)
    replace hl : lv_has ls1 2 [(1, .int v_31), (0, .ref fh)] := hl1
    clear hl1
    refine lv_goto (tgt := 7) hx hb dX0_begin_23 (by decide) ?_
    exact ih_2 (v_31, f_29, f_30) (show (0 ≤ v_31.toInt ∧ v_31.toInt ≤ 6) ∧ (∀ j : Nat, (j : Int) < v_31.toInt → (f_29 j).toInt = 0) ∧ (∀ j : Nat, (j : Int) < v_31.toInt → (f_30 j).toInt = 0) from ⟨⟨by omega, by omega⟩, (fun j hj => by have b0 := x_28_0 j; have b1 := x_2_0 j; by_cases hq : j = (v_3).toNatClampNeg; (· subst hq; omega); (· omega)), (fun j hj => by have b0 := x_28_1 j; have b1 := x_2_1 j; by_cases hq : j = (v_3).toNatClampNeg; (· subst hq; omega); (· omega))⟩) (by show (6 - v_31.toInt).toNat < (6 - v_3.toInt).toNat; omega) _ _ _ (hP.sub [3, 4, 5, 0, 1, 2] rfl) (hD.sub [3, 4, 5, 0, 1, 2] (by decide) rfl) hS (lv_sub hl [0, 1] rfl)

def v_X0_areAlike : List Cond := .code yX0_areAlike cX0_areAlike 6 (some .boolean) :: ([.fieldLink RX0 42 "ArraySegments$Facts" "leastAt" "[I", .fieldLink RX0 45 "ArraySegments$Facts" "greatestAt" "[I"] ++ (wsX00))
theorem inv_X0_areAlike_X0 : ∀ w ∈ wsX00, w ∈ v_X0_areAlike := fun _ h => List.mem_cons_of_mem _ (List.mem_append_right _ (h))
set_option maxRecDepth 20000 in
theorem gd_X0_areAlike : gdL v_X0_areAlike := gdC (gdW (by decide +kernel)) (gdA (gdW (by decide +kernel)) gd_wsX00)
abbrev sw_X0_areAlike (cI cJ cZ : ClassId) (fh : Nat) (f_isReached : Int32) (f_least : Value) (f_greatest : Value) (f_sites : Value) (f_maybeNull : Value) (f_known : Value) (f_lanes : Value) (f_shortest : Value) (f_longest : Value) (fa_leastAt : Nat) (fa_greatestAt : Nat) (fc_leastAt : Nat → Int32) (fc_greatestAt : Nat → Int32) (ia : Int32) (pa : Int32) (qa : Int32) : va_W := [(fh, .inr (0, [.int f_isReached, f_least, f_greatest, f_sites, f_maybeNull, f_known, f_lanes, f_shortest, f_longest, .ref fa_leastAt, .ref fa_greatestAt])), (fa_leastAt, .inl (cI, 480, .inl fc_leastAt)), (fa_greatestAt, .inl (cI, 480, .inl fc_greatestAt))]
set_option maxHeartbeats 8000000 in
set_option maxRecDepth 100000 in
theorem s_X0_areAlike (l : Launch) (dC : Nat → ClassId) (dI : Nat → Nat → Nat) (cI cJ cZ : ClassId) (fh : Nat) (f_isReached : Int32) (f_least : Value) (f_greatest : Value) (f_sites : Value) (f_maybeNull : Value) (f_known : Value) (f_lanes : Value) (f_shortest : Value) (f_longest : Value) (fa_leastAt : Nat) (fa_greatestAt : Nat) (fc_leastAt : Nat → Int32) (fc_greatestAt : Nat → Int32) (ia : Int32) (pa : Int32) (qa : Int32) (sz : Nat) (q_f_isReached : kZ f_isReached) (hy_ia : 0 ≤ ia.toInt ∧ ia.toInt ≤ 39) (hy_pa : 0 ≤ pa.toInt ∧ pa.toInt ≤ 11) (hy_qa : 0 ≤ qa.toInt ∧ qa.toInt ≤ 11) : Met l yX0_areAlike v_X0_areAlike ({ frames := 0, cells := 0, slots := 0, locals := 0 }) (va_Pc [.ref fh, .int ia, .int pa, .int qa] (cPre dC dI cI cJ cZ sz (sw_X0_areAlike cI cJ cZ fh f_isReached f_least f_greatest f_sites f_maybeNull f_known f_lanes f_shortest f_longest fa_leastAt fa_greatestAt fc_leastAt fc_greatestAt ia pa qa))) (va_Qi (fun (r : Int32) (u : Unit) => (kZ r)) (fun (u : Unit) => cPost dC dI cI cJ cZ (va_A (sw_X0_areAlike cI cJ cZ fh f_isReached f_least f_greatest f_sites f_maybeNull f_known f_lanes f_shortest f_longest fa_leastAt fa_greatestAt fc_leastAt fc_greatestAt ia pa qa) sz) [(fh, .inr (0, [.int f_isReached, f_least, f_greatest, f_sites, f_maybeNull, f_known, f_lanes, f_shortest, f_longest, .ref fa_leastAt, .ref fa_greatestAt])), (fa_leastAt, .inl (cI, 480, .inl fc_leastAt)), (fa_greatestAt, .inl (cI, 480, .inl fc_greatestAt))]) (va_A (sw_X0_areAlike cI cJ cZ fh f_isReached f_least f_greatest f_sites f_maybeNull f_known f_lanes f_shortest f_longest fa_leastAt fa_greatestAt fc_leastAt fc_greatestAt ia pa qa) sz)) 0 0 (va_A (sw_X0_areAlike cI cJ cZ fh f_isReached f_least f_greatest f_sites f_maybeNull f_known f_lanes f_shortest f_longest fa_leastAt fa_greatestAt fc_leastAt fc_greatestAt ia pa qa) sz) := by
  refine Met.ofW (cc := cX0_areAlike) (maxL := 6) (ret := (some .boolean)) (by decide) rfl ?_
  intro p e s m args below meth c s₁ B hml hv
  obtain ⟨rfl, hsz, hP, hK, hD0, hN⟩ := hv
  have hx := B.exec
  have hb := B.bytes
  have hr := B.returns
  have hts := atoms_spec (ws := v_X0_areAlike) B.pre
  have hown : s.vm.findClass RX0 = some m.cls := findClass_of_methodNamed B.named
  have hlocks := B.notSynchronized
  subst hsz
  have hD := hD0.self (sz := s.heap.size)
  generalize hAe : va_A (sw_X0_areAlike cI cJ cZ fh f_isReached f_least f_greatest f_sites f_maybeNull f_known f_lanes f_shortest f_longest fa_leastAt fa_greatestAt fc_leastAt fc_greatestAt ia pa qa) s.heap.size = A at hD ⊢
  have hA : ∀ q : Nat, s.heap.size ≤ q → A q := fun q h => by rw [← hAe]; exact Or.inr h
  clear hAe hD0
  have hS : va_S A s.heap s.heap [] := va_S.rf
  replace hP : va_P (dC, dI) vwCl [(fh, .inr (0, [.int f_isReached, f_least, f_greatest, f_sites, f_maybeNull, f_known, f_lanes, f_shortest, f_longest, .ref fa_leastAt, .ref fa_greatestAt])), (fa_leastAt, .inl (cI, 480, .inl fc_leastAt)), (fa_greatestAt, .inl (cI, 480, .inl fc_greatestAt))] s.heap := hP
  replace hD : va_D A [(fh, .inr (0, [.int f_isReached, f_least, f_greatest, f_sites, f_maybeNull, f_known, f_lanes, f_shortest, f_longest, .ref fa_leastAt, .ref fa_greatestAt])), (fa_leastAt, .inl (cI, 480, .inl fc_leastAt)), (fa_greatestAt, .inl (cI, 480, .inl fc_greatestAt))] := hD
  have hl := lv_entry ([.ref fh, .int ia, .int pa, .int qa]) (n := 6) (Nat.le_of_ble_eq_true rfl)
  rw [lg_entry_eq]
  generalize (lg_sl ([.ref fh, .int ia, .int pa, .int qa]) ++ List.replicate (6 - (lg_sl ([.ref fh, .int ia, .int pa, .int qa])).length) Slot.unset).toArray = ls at hl ⊢
  replace hl : lv_has ls 6 [(0, .ref fh), (1, .int ia), (2, .int pa), (3, .int qa)] := hl
  have z_0 : (0 : Int32).toInt = 0 := by decide
  have z_1 : (1 : Int32).toInt = 1 := by decide
  refine lv_iload_n hx hb dX0_areAlike_0 rfl (lv_at hl 1 rfl) ?_
  refine lv_bipush (v := 12) hx hb dX0_areAlike_1 (by decide) ?_
  refine sf_imul (w := ia.toInt) (z := 12) hx hb dX0_areAlike_3 rfl (by decide) ⟨by omega, by omega⟩ (fun v_1 q_v_1 => ?_)
  refine lv_iload_n hx hb dX0_areAlike_4 rfl (lv_at hl 2 rfl) ?_
  refine sf_iadd hx hb dX0_areAlike_5 ⟨by omega, by omega⟩ (fun v_2 q_v_2 => ?_)
  refine lv_istore (lv' := [(4, .int v_2), (0, .ref fh), (1, .int ia), (2, .int pa), (3, .int qa)]) hx hb dX0_areAlike_6 hl (by decide) rfl (fun ls1 hl1 => ?_)
  replace hl := hl1; clear hl1
  refine lv_iload_n hx hb dX0_areAlike_8 rfl (lv_at hl 2 rfl) ?_
  refine lv_bipush (v := 12) hx hb dX0_areAlike_9 (by decide) ?_
  refine sf_imul (w := ia.toInt) (z := 12) hx hb dX0_areAlike_11 rfl (by decide) ⟨by omega, by omega⟩ (fun v_3 q_v_3 => ?_)
  refine lv_iload_n hx hb dX0_areAlike_12 rfl (lv_at hl 4 rfl) ?_
  refine sf_iadd hx hb dX0_areAlike_13 ⟨by omega, by omega⟩ (fun v_4 q_v_4 => ?_)
  refine lv_istore (lv' := [(5, .int v_4), (4, .int v_2), (0, .ref fh), (1, .int ia), (2, .int pa), (3, .int qa)]) hx hb dX0_areAlike_14 hl (by decide) rfl (fun ls1 hl1 => ?_)
  replace hl := hl1; clear hl1
  refine lv_aload_n hx hb dX0_areAlike_16 rfl (lv_at hl 2 rfl) ?_
  refine va_get (D := (dC, dI)) (ci := 0) (v := .ref fa_leastAt) (C := RX0) (T := TX0) (N := 11) hx hb hts inv_X0_areAlike_X0 hown hK hP 0 rfl rfl 9 (by decide) (hts (.fieldLink RX0 42 "ArraySegments$Facts" "leastAt" "[I") (List.mem_of_getElem? (i := 1) rfl)) (fun _ h9 => h9) rfl dX0_areAlike_17 ?_
  refine lv_iload hx hb dX0_areAlike_20 (lv_at hl 1 rfl) ?_
  refine sf_iald kT hx hb hK hP 1 0 rfl rfl (fun _ => trivial) (vp_in_iff.mpr ⟨by omega, by omega⟩) dX0_areAlike_22 (fun v_5 q_v_5 e_v_5 => ?_)
  refine lv_aload_n hx hb dX0_areAlike_23 rfl (lv_at hl 2 rfl) ?_
  refine va_get (D := (dC, dI)) (ci := 0) (v := .ref fa_leastAt) (C := RX0) (T := TX0) (N := 11) hx hb hts inv_X0_areAlike_X0 hown hK hP 0 rfl rfl 9 (by decide) (hts (.fieldLink RX0 42 "ArraySegments$Facts" "leastAt" "[I") (List.mem_of_getElem? (i := 1) rfl)) (fun _ h9 => h9) rfl dX0_areAlike_24 ?_
  refine lv_iload hx hb dX0_areAlike_27 (lv_at hl 0 rfl) ?_
  refine sf_iald kT hx hb hK hP 1 0 rfl rfl (fun _ => trivial) (vp_in_iff.mpr ⟨by omega, by omega⟩) dX0_areAlike_29 (fun v_6 q_v_6 e_v_6 => ?_)
  refine my_join (S := Int32) (fun u => (kZ (u))) (fun u => [(fh, .inr (0, [.int f_isReached, f_least, f_greatest, f_sites, f_maybeNull, f_known, f_lanes, f_shortest, f_longest, .ref fa_leastAt, .ref fa_greatestAt])), (fa_leastAt, .inl (cI, 480, .inl fc_leastAt)), (fa_greatestAt, .inl (cI, 480, .inl fc_greatestAt))]) (fun u => [(5, .int v_4), (4, .int v_2), (0, .ref fh), (1, .int ia), (2, .int pa), (3, .int qa)]) (fun u => [.int (u)]) (nL := 6) (H0 := s.heap) (A := A) (D := (dC, dI)) (cl := vwCl) 55 (fun u_8 hu_8 H_8 locs_8 ls1 hP1 hD1 hS1 hl1 => ?_) (fun jn_8 => ?_)
  · -- behind 55
    obtain ⟨v_9, rfl⟩ : ∃ z, z = u_8 := ⟨_, rfl⟩
    replace hu_8 : (kZ v_9) := hu_8
    have q_v_9 := hu_8
    replace hP : va_P (dC, dI) vwCl [(fh, .inr (0, [.int f_isReached, f_least, f_greatest, f_sites, f_maybeNull, f_known, f_lanes, f_shortest, f_longest, .ref fa_leastAt, .ref fa_greatestAt])), (fa_leastAt, .inl (cI, 480, .inl fc_leastAt)), (fa_greatestAt, .inl (cI, 480, .inl fc_greatestAt))] H_8 := hP1
    replace hD : va_D A [(fh, .inr (0, [.int f_isReached, f_least, f_greatest, f_sites, f_maybeNull, f_known, f_lanes, f_shortest, f_longest, .ref fa_leastAt, .ref fa_greatestAt])), (fa_leastAt, .inl (cI, 480, .inl fc_leastAt)), (fa_greatestAt, .inl (cI, 480, .inl fc_greatestAt))] := hD1
    replace hS := hS1
    clear hP1 hD1 hS1
    replace hl : lv_has ls1 6 [(5, .int v_4), (4, .int v_2), (0, .ref fh), (1, .int ia), (2, .int pa), (3, .int qa)] := hl1
    clear hl1
    have hP9 := hP.sub (ws' := [(fh, .inr (0, [.int f_isReached, f_least, f_greatest, f_sites, f_maybeNull, f_known, f_lanes, f_shortest, f_longest, .ref fa_leastAt, .ref fa_greatestAt])), (fa_leastAt, .inl (cI, 480, .inl fc_leastAt)), (fa_greatestAt, .inl (cI, 480, .inl fc_greatestAt))]) [0, 1, 2] rfl
    have hD9 := hD.sub (ws' := [(fh, .inr (0, [.int f_isReached, f_least, f_greatest, f_sites, f_maybeNull, f_known, f_lanes, f_shortest, f_longest, .ref fa_leastAt, .ref fa_greatestAt])), (fa_leastAt, .inl (cI, 480, .inl fc_leastAt)), (fa_greatestAt, .inl (cI, 480, .inl fc_greatestAt))]) [0, 1, 2] (by decide) rfl
    exact W.zret (v := v_9) (ty := .boolean) hx hb hr (nar01 q_v_9) (fun t ht hW => ⟨⟨v_9, (), rfl, (show kZ v_9 from q_v_9), by rw [ht]; exact hP9, va_K.moved hW.alike hK, hD9⟩, hS.F ht⟩) hS.2.2 dX0_areAlike_55
  · -- ahead of 55
    refine lv_icmp_ne (tgt := 54) hx hb dX0_areAlike_30 (by decide) (fun c_10 => ?_) (fun c_10 => ?_)
    · -- yes
      have k_10 : ¬ v_5.toInt = v_6.toInt := ci_ne c_10
      refine lv_iconst (v := 0) hx hb dX0_areAlike_54 (by decide) ?_
      exact jn_8 (0 : Int32) (show (kZ (0 : Int32)) from (by decide)) _ _ _ (hP.sub [0, 1, 2] rfl) (hD.sub [0, 1, 2] (by decide) rfl) hS (lv_sub hl [0, 1, 2, 3, 4, 5] rfl)
    · -- no
      have k_10 : v_5.toInt = v_6.toInt := ci_eq c_10
      refine lv_aload_n hx hb dX0_areAlike_33 rfl (lv_at hl 2 rfl) ?_
      refine va_get (D := (dC, dI)) (ci := 0) (v := .ref fa_greatestAt) (C := RX0) (T := TX0) (N := 11) hx hb hts inv_X0_areAlike_X0 hown hK hP 0 rfl rfl 10 (by decide) (hts (.fieldLink RX0 45 "ArraySegments$Facts" "greatestAt" "[I") (List.mem_of_getElem? (i := 2) rfl)) (fun _ h9 => h9) rfl dX0_areAlike_34 ?_
      refine lv_iload hx hb dX0_areAlike_37 (lv_at hl 1 rfl) ?_
      refine sf_iald kT hx hb hK hP 2 0 rfl rfl (fun _ => trivial) (vp_in_iff.mpr ⟨by omega, by omega⟩) dX0_areAlike_39 (fun v_11 q_v_11 e_v_11 => ?_)
      refine lv_aload_n hx hb dX0_areAlike_40 rfl (lv_at hl 2 rfl) ?_
      refine va_get (D := (dC, dI)) (ci := 0) (v := .ref fa_greatestAt) (C := RX0) (T := TX0) (N := 11) hx hb hts inv_X0_areAlike_X0 hown hK hP 0 rfl rfl 10 (by decide) (hts (.fieldLink RX0 45 "ArraySegments$Facts" "greatestAt" "[I") (List.mem_of_getElem? (i := 2) rfl)) (fun _ h9 => h9) rfl dX0_areAlike_41 ?_
      refine lv_iload hx hb dX0_areAlike_44 (lv_at hl 0 rfl) ?_
      refine sf_iald kT hx hb hK hP 2 0 rfl rfl (fun _ => trivial) (vp_in_iff.mpr ⟨by omega, by omega⟩) dX0_areAlike_46 (fun v_12 q_v_12 e_v_12 => ?_)
      refine lv_icmp_ne (tgt := 54) hx hb dX0_areAlike_47 (by decide) (fun c_13 => ?_) (fun c_13 => ?_)
      · -- yes
        have k_13 : ¬ v_11.toInt = v_12.toInt := ci_ne c_13
        refine lv_iconst (v := 0) hx hb dX0_areAlike_54 (by decide) ?_
        exact jn_8 (0 : Int32) (show (kZ (0 : Int32)) from (by decide)) _ _ _ (hP.sub [0, 1, 2] rfl) (hD.sub [0, 1, 2] (by decide) rfl) hS (lv_sub hl [0, 1, 2, 3, 4, 5] rfl)
      · -- no
        have k_13 : v_11.toInt = v_12.toInt := ci_eq c_13
        refine lv_iconst (v := 1) hx hb dX0_areAlike_50 (by decide) ?_
        refine lv_goto (tgt := 55) hx hb dX0_areAlike_51 (by decide) ?_
        exact jn_8 (1 : Int32) (show (kZ (1 : Int32)) from (by decide)) _ _ _ (hP.sub [0, 1, 2] rfl) (hD.sub [0, 1, 2] (by decide) rfl) hS (lv_sub hl [0, 1, 2, 3, 4, 5] rfl)

def v_X0_beginsSegment : List Cond := .code yX0_beginsSegment cX0_beginsSegment 3 (some .boolean) :: ([.methodLink RX0 106 yX0_areAlike, .instanceMethod yX0_areAlike, .selects RX0 yX0_areAlike yX0_areAlike, .initialized RX0] ++ (v_X0_areAlike))
theorem im_X0_beginsSegment_X0_areAlike : ∀ w ∈ v_X0_areAlike, w ∈ v_X0_beginsSegment := fun _ h => List.mem_cons_of_mem _ (List.mem_append_right _ (h))
set_option maxRecDepth 20000 in
theorem gd_X0_beginsSegment : gdL v_X0_beginsSegment := gdC (gdW (by decide +kernel)) (gdA (gdW (by decide +kernel)) gd_X0_areAlike)
set_option maxRecDepth 20000 in
theorem h_X0_beginsSegment_X0_areAlike_106 : GoodIn v_X0_beginsSegment (wsV RX0 106 RX0 yX0_areAlike v_X0_areAlike) := gdI [1, 2, 3, 4] rfl (by decide +kernel) (im_X0_beginsSegment_X0_areAlike) gd_X0_areAlike
abbrev sw_X0_beginsSegment (cI cJ cZ : ClassId) (fh : Nat) (f_isReached : Int32) (f_least : Value) (f_greatest : Value) (f_sites : Value) (f_maybeNull : Value) (f_known : Value) (f_lanes : Value) (f_shortest : Value) (f_longest : Value) (fa_leastAt : Nat) (fa_greatestAt : Nat) (fc_leastAt : Nat → Int32) (fc_greatestAt : Nat → Int32) (ia : Int32) (pa : Int32) : va_W := [(fh, .inr (0, [.int f_isReached, f_least, f_greatest, f_sites, f_maybeNull, f_known, f_lanes, f_shortest, f_longest, .ref fa_leastAt, .ref fa_greatestAt])), (fa_leastAt, .inl (cI, 480, .inl fc_leastAt)), (fa_greatestAt, .inl (cI, 480, .inl fc_greatestAt))]
set_option maxHeartbeats 8000000 in
set_option maxRecDepth 100000 in
theorem s_X0_beginsSegment (l : Launch) (dC : Nat → ClassId) (dI : Nat → Nat → Nat) (cI cJ cZ : ClassId) (fh : Nat) (f_isReached : Int32) (f_least : Value) (f_greatest : Value) (f_sites : Value) (f_maybeNull : Value) (f_known : Value) (f_lanes : Value) (f_shortest : Value) (f_longest : Value) (fa_leastAt : Nat) (fa_greatestAt : Nat) (fc_leastAt : Nat → Int32) (fc_greatestAt : Nat → Int32) (ia : Int32) (pa : Int32) (sz : Nat) (q_f_isReached : kZ f_isReached) (hy_ia : 0 ≤ ia.toInt ∧ ia.toInt ≤ 39) (hy_pa : 0 ≤ pa.toInt ∧ pa.toInt ≤ 11) : Met l yX0_beginsSegment v_X0_beginsSegment ({ frames := 1, cells := 0, slots := 0, locals := 25 }) (va_Pc [.ref fh, .int ia, .int pa] (cPre dC dI cI cJ cZ sz (sw_X0_beginsSegment cI cJ cZ fh f_isReached f_least f_greatest f_sites f_maybeNull f_known f_lanes f_shortest f_longest fa_leastAt fa_greatestAt fc_leastAt fc_greatestAt ia pa))) (va_Qi (fun (r : Int32) (u : Unit) => (kZ r)) (fun (u : Unit) => cPost dC dI cI cJ cZ (va_A (sw_X0_beginsSegment cI cJ cZ fh f_isReached f_least f_greatest f_sites f_maybeNull f_known f_lanes f_shortest f_longest fa_leastAt fa_greatestAt fc_leastAt fc_greatestAt ia pa) sz) [(fh, .inr (0, [.int f_isReached, f_least, f_greatest, f_sites, f_maybeNull, f_known, f_lanes, f_shortest, f_longest, .ref fa_leastAt, .ref fa_greatestAt])), (fa_leastAt, .inl (cI, 480, .inl fc_leastAt)), (fa_greatestAt, .inl (cI, 480, .inl fc_greatestAt))]) (va_A (sw_X0_beginsSegment cI cJ cZ fh f_isReached f_least f_greatest f_sites f_maybeNull f_known f_lanes f_shortest f_longest fa_leastAt fa_greatestAt fc_leastAt fc_greatestAt ia pa) sz)) 0 0 (va_A (sw_X0_beginsSegment cI cJ cZ fh f_isReached f_least f_greatest f_sites f_maybeNull f_known f_lanes f_shortest f_longest fa_leastAt fa_greatestAt fc_leastAt fc_greatestAt ia pa) sz) := by
  refine Met.ofW (cc := cX0_beginsSegment) (maxL := 3) (ret := (some .boolean)) (by decide) rfl ?_
  intro p e s m args below meth c s₁ B hml hv
  obtain ⟨rfl, hsz, hP, hK, hD0, hN⟩ := hv
  have hx := B.exec
  have hb := B.bytes
  have hr := B.returns
  have hts := atoms_spec (ws := v_X0_beginsSegment) B.pre
  have hown : s.vm.findClass RX0 = some m.cls := findClass_of_methodNamed B.named
  have hlocks := B.notSynchronized
  subst hsz
  have hD := hD0.self (sz := s.heap.size)
  generalize hAe : va_A (sw_X0_beginsSegment cI cJ cZ fh f_isReached f_least f_greatest f_sites f_maybeNull f_known f_lanes f_shortest f_longest fa_leastAt fa_greatestAt fc_leastAt fc_greatestAt ia pa) s.heap.size = A at hD ⊢
  have hA : ∀ q : Nat, s.heap.size ≤ q → A q := fun q h => by rw [← hAe]; exact Or.inr h
  clear hAe hD0
  have hS : va_S A s.heap s.heap [] := va_S.rf
  replace hP : va_P (dC, dI) vwCl [(fh, .inr (0, [.int f_isReached, f_least, f_greatest, f_sites, f_maybeNull, f_known, f_lanes, f_shortest, f_longest, .ref fa_leastAt, .ref fa_greatestAt])), (fa_leastAt, .inl (cI, 480, .inl fc_leastAt)), (fa_greatestAt, .inl (cI, 480, .inl fc_greatestAt))] s.heap := hP
  replace hD : va_D A [(fh, .inr (0, [.int f_isReached, f_least, f_greatest, f_sites, f_maybeNull, f_known, f_lanes, f_shortest, f_longest, .ref fa_leastAt, .ref fa_greatestAt])), (fa_leastAt, .inl (cI, 480, .inl fc_leastAt)), (fa_greatestAt, .inl (cI, 480, .inl fc_greatestAt))] := hD
  have hl := lv_entry ([.ref fh, .int ia, .int pa]) (n := 3) (Nat.le_of_ble_eq_true rfl)
  rw [lg_entry_eq]
  generalize (lg_sl ([.ref fh, .int ia, .int pa]) ++ List.replicate (3 - (lg_sl ([.ref fh, .int ia, .int pa])).length) Slot.unset).toArray = ls at hl ⊢
  replace hl : lv_has ls 3 [(0, .ref fh), (1, .int ia), (2, .int pa)] := hl
  have z_0 : (0 : Int32).toInt = 0 := by decide
  have z_1 : (1 : Int32).toInt = 1 := by decide
  refine lv_iload_n hx hb dX0_beginsSegment_0 rfl (lv_at hl 2 rfl) ?_
  refine my_join (S := Int32) (fun u => (kZ (u))) (fun u => [(fh, .inr (0, [.int f_isReached, f_least, f_greatest, f_sites, f_maybeNull, f_known, f_lanes, f_shortest, f_longest, .ref fa_leastAt, .ref fa_greatestAt])), (fa_leastAt, .inl (cI, 480, .inl fc_leastAt)), (fa_greatestAt, .inl (cI, 480, .inl fc_greatestAt))]) (fun u => [(0, .ref fh), (1, .int ia), (2, .int pa)]) (fun u => [.int (u)]) (nL := 3) (H0 := s.heap) (A := A) (D := (dC, dI)) (cl := vwCl) 21 (fun u_2 hu_2 H_2 locs_2 ls1 hP1 hD1 hS1 hl1 => ?_) (fun jn_2 => ?_)
  · -- behind 21
    obtain ⟨v_3, rfl⟩ : ∃ z, z = u_2 := ⟨_, rfl⟩
    replace hu_2 : (kZ v_3) := hu_2
    have q_v_3 := hu_2
    replace hP : va_P (dC, dI) vwCl [(fh, .inr (0, [.int f_isReached, f_least, f_greatest, f_sites, f_maybeNull, f_known, f_lanes, f_shortest, f_longest, .ref fa_leastAt, .ref fa_greatestAt])), (fa_leastAt, .inl (cI, 480, .inl fc_leastAt)), (fa_greatestAt, .inl (cI, 480, .inl fc_greatestAt))] H_2 := hP1
    replace hD : va_D A [(fh, .inr (0, [.int f_isReached, f_least, f_greatest, f_sites, f_maybeNull, f_known, f_lanes, f_shortest, f_longest, .ref fa_leastAt, .ref fa_greatestAt])), (fa_leastAt, .inl (cI, 480, .inl fc_leastAt)), (fa_greatestAt, .inl (cI, 480, .inl fc_greatestAt))] := hD1
    replace hS := hS1
    clear hP1 hD1 hS1
    replace hl : lv_has ls1 3 [(0, .ref fh), (1, .int ia), (2, .int pa)] := hl1
    clear hl1
    have hP9 := hP.sub (ws' := [(fh, .inr (0, [.int f_isReached, f_least, f_greatest, f_sites, f_maybeNull, f_known, f_lanes, f_shortest, f_longest, .ref fa_leastAt, .ref fa_greatestAt])), (fa_leastAt, .inl (cI, 480, .inl fc_leastAt)), (fa_greatestAt, .inl (cI, 480, .inl fc_greatestAt))]) [0, 1, 2] rfl
    have hD9 := hD.sub (ws' := [(fh, .inr (0, [.int f_isReached, f_least, f_greatest, f_sites, f_maybeNull, f_known, f_lanes, f_shortest, f_longest, .ref fa_leastAt, .ref fa_greatestAt])), (fa_leastAt, .inl (cI, 480, .inl fc_leastAt)), (fa_greatestAt, .inl (cI, 480, .inl fc_greatestAt))]) [0, 1, 2] (by decide) rfl
    exact W.zret (v := v_3) (ty := .boolean) hx hb hr (nar01 q_v_3) (fun t ht hW => ⟨⟨v_3, (), rfl, (show kZ v_3 from q_v_3), by rw [ht]; exact hP9, va_K.moved hW.alike hK, hD9⟩, hS.F ht⟩) hS.2.2 dX0_beginsSegment_21
  · -- ahead of 21
    refine lv_if_eq (tgt := 16) hx hb dX0_beginsSegment_1 (by decide) (fun c_4 => ?_) (fun c_4 => ?_)
    · -- yes
      have k_4 : pa.toInt = (0 : Int32).toInt := ci_eq c_4
      refine lv_iconst (v := 1) hx hb dX0_beginsSegment_16 (by decide) ?_
      refine lv_goto (tgt := 21) hx hb dX0_beginsSegment_17 (by decide) ?_
      exact jn_2 (1 : Int32) (show (kZ (1 : Int32)) from (by decide)) _ _ _ (hP.sub [0, 1, 2] rfl) (hD.sub [0, 1, 2] (by decide) rfl) hS (lv_sub hl [0, 1, 2] rfl)
    · -- no
      have k_4 : ¬ pa.toInt = (0 : Int32).toInt := ci_ne c_4
      refine lv_aload_n hx hb dX0_beginsSegment_4 rfl (lv_at hl 0 rfl) ?_
      refine lv_iload_n hx hb dX0_beginsSegment_5 rfl (lv_at hl 1 rfl) ?_
      refine lv_iload_n hx hb dX0_beginsSegment_6 rfl (lv_at hl 2 rfl) ?_
      refine lv_iconst (v := 1) hx hb dX0_beginsSegment_7 (by decide) ?_
      refine sf_isub hx hb dX0_beginsSegment_8 ⟨by omega, by omega⟩ (fun v_5 q_v_5 => ?_)
      refine lv_iload_n hx hb dX0_beginsSegment_9 rfl (lv_at hl 2 rfl) ?_
      have hPc := hP.sub (ws' := [(fh, .inr (0, [.int f_isReached, f_least, f_greatest, f_sites, f_maybeNull, f_known, f_lanes, f_shortest, f_longest, .ref fa_leastAt, .ref fa_greatestAt])), (fa_leastAt, .inl (cI, 480, .inl fc_leastAt)), (fa_greatestAt, .inl (cI, 480, .inl fc_greatestAt))]) [0, 1, 2] rfl
      have hDc := hD.sub (ws' := [(fh, .inr (0, [.int f_isReached, f_least, f_greatest, f_sites, f_maybeNull, f_known, f_lanes, f_shortest, f_longest, .ref fa_leastAt, .ref fa_greatestAt])), (fa_leastAt, .inl (cI, 480, .inl fc_leastAt)), (fa_greatestAt, .inl (cI, 480, .inl fc_greatestAt))]) [0, 1, 2] (by decide) rfl
      have hFc := va_free (wc := [(fh, .inr (0, [.int f_isReached, f_least, f_greatest, f_sites, f_maybeNull, f_known, f_lanes, f_shortest, f_longest, .ref fa_leastAt, .ref fa_greatestAt])), (fa_leastAt, .inl (cI, 480, .inl fc_leastAt)), (fa_greatestAt, .inl (cI, 480, .inl fc_greatestAt))]) hD hS hA [0, 1, 2] rfl
      refine va_calli (va_runV (As := [.int ia, .int v_5, .int pa]) (rest := []) ⟨hx, hb, hml, hown, hts⟩ (s_X0_areAlike l dC dI cI cJ cZ fh f_isReached f_least f_greatest f_sites f_maybeNull f_known f_lanes f_shortest f_longest fa_leastAt fa_greatestAt fc_leastAt fc_greatestAt ia v_5 pa s.heap.size q_f_isReached (by first | assumption | omega) (by first | assumption | omega) (by first | assumption | omega)) (cwV 3 hts h_X0_beginsSegment_X0_areAlike_106 rfl rfl rfl (by decide +kernel) ⟨Nat.le_of_ble_eq_true rfl, Nat.le_of_ble_eq_true rfl⟩) ⟨cPre_blind, va_recv hK hPc (ci := 0) (q0 := 0) rfl rfl, cPre_of hK hN hPc hDc⟩ rfl rfl hl.1 rfl (lv_room (Nat.le_of_ble_eq_true rfl)) dX0_beginsSegment_10 ⟨Nat.le_of_ble_eq_true rfl, Nat.le_of_ble_eq_true rfl⟩) hS (fun q _ h => hFc q h) hFc (fun r_6 u_6 t_6 H_6 locs_6 ht hvm hw_6 hB hz1 hk1 hS1 => ?_)
      obtain ⟨hP1, hK1, hD1⟩ := hB
      rw [ht] at hP1
      obtain ⟨hP2, hD2⟩ := va_join (wr := []) (w1 := [(fh, .inr (0, [.int f_isReached, f_least, f_greatest, f_sites, f_maybeNull, f_known, f_lanes, f_shortest, f_longest, .ref fa_leastAt, .ref fa_greatestAt])), (fa_leastAt, .inl (cI, 480, .inl fc_leastAt)), (fa_greatestAt, .inl (cI, 480, .inl fc_greatestAt))]) hP hD [0, 1, 2] [] rfl rfl (by decide) (by decide) hk1 hFc hP1 hD1
      clear hPc hDc hFc hP1 hD1 hK1 hk1 hz1 hvm ht
      replace hP : va_P (dC, dI) vwCl [(fh, .inr (0, [.int f_isReached, f_least, f_greatest, f_sites, f_maybeNull, f_known, f_lanes, f_shortest, f_longest, .ref fa_leastAt, .ref fa_greatestAt])), (fa_leastAt, .inl (cI, 480, .inl fc_leastAt)), (fa_greatestAt, .inl (cI, 480, .inl fc_greatestAt))] H_6 := hP2
      replace hD : va_D A [(fh, .inr (0, [.int f_isReached, f_least, f_greatest, f_sites, f_maybeNull, f_known, f_lanes, f_shortest, f_longest, .ref fa_leastAt, .ref fa_greatestAt])), (fa_leastAt, .inl (cI, 480, .inl fc_leastAt)), (fa_greatestAt, .inl (cI, 480, .inl fc_greatestAt))] := hD2
      replace hS := hS1
      clear hP2 hD2 hS1
      replace hw_6 : (kZ r_6) := hw_6
      have q_r_6 := hw_6
      refine lv_if_ne (tgt := 20) hx hb dX0_beginsSegment_13 (by decide) (fun c_7 => ?_) (fun c_7 => ?_)
      · -- yes
        have k_7 : ¬ r_6.toInt = (0 : Int32).toInt := ci_ne c_7
        refine lv_iconst (v := 0) hx hb dX0_beginsSegment_20 (by decide) ?_
        exact jn_2 (0 : Int32) (show (kZ (0 : Int32)) from (by decide)) _ _ _ (hP.sub [0, 1, 2] rfl) (hD.sub [0, 1, 2] (by decide) rfl) hS (lv_sub hl [0, 1, 2] rfl)
      · -- no
        have k_7 : r_6.toInt = (0 : Int32).toInt := ci_eq c_7
        refine lv_iconst (v := 1) hx hb dX0_beginsSegment_16 (by decide) ?_
        refine lv_goto (tgt := 21) hx hb dX0_beginsSegment_17 (by decide) ?_
        exact jn_2 (1 : Int32) (show (kZ (1 : Int32)) from (by decide)) _ _ _ (hP.sub [0, 1, 2] rfl) (hD.sub [0, 1, 2] (by decide) rfl) hS (lv_sub hl [0, 1, 2] rfl)

def v_X0_countSegments : List Cond := .code yX0_countSegments cX0_countSegments 4 (some .int) :: ([.fieldLink RX0 39 "ArraySegments$Facts" "longest" "[I", .methodLink RX0 110 yX0_beginsSegment, .instanceMethod yX0_beginsSegment, .selects RX0 yX0_beginsSegment yX0_beginsSegment, .initialized RX0] ++ (wsX00 ++ (v_X0_beginsSegment)))
theorem inv_X0_countSegments_X0 : ∀ w ∈ wsX00, w ∈ v_X0_countSegments := fun _ h => List.mem_cons_of_mem _ (List.mem_append_right _ (List.mem_append_left _ h))
theorem im_X0_countSegments_X0_beginsSegment : ∀ w ∈ v_X0_beginsSegment, w ∈ v_X0_countSegments := fun _ h => List.mem_cons_of_mem _ (List.mem_append_right _ (List.mem_append_right _ (h)))
set_option maxRecDepth 20000 in
theorem gd_X0_countSegments : gdL v_X0_countSegments := gdC (gdW (by decide +kernel)) (gdA (gdW (by decide +kernel)) (gdA gd_wsX00 gd_X0_beginsSegment))
set_option maxRecDepth 20000 in
theorem h_X0_countSegments_X0_beginsSegment_110 : GoodIn v_X0_countSegments (wsV RX0 110 RX0 yX0_beginsSegment v_X0_beginsSegment) := gdI [2, 3, 4, 5] rfl (by decide +kernel) (im_X0_countSegments_X0_beginsSegment) gd_X0_beginsSegment
abbrev sw_X0_countSegments (cI cJ cZ : ClassId) (fh : Nat) (f_isReached : Int32) (f_least : Value) (f_greatest : Value) (f_sites : Value) (f_maybeNull : Value) (f_known : Value) (f_lanes : Value) (f_shortest : Value) (fa_longest : Nat) (fa_leastAt : Nat) (fa_greatestAt : Nat) (fc_longest : Nat → Int32) (fc_leastAt : Nat → Int32) (fc_greatestAt : Nat → Int32) (ia : Int32) : va_W := [(fh, .inr (0, [.int f_isReached, f_least, f_greatest, f_sites, f_maybeNull, f_known, f_lanes, f_shortest, .ref fa_longest, .ref fa_leastAt, .ref fa_greatestAt])), (fa_longest, .inl (cI, 40, .inl fc_longest)), (fa_leastAt, .inl (cI, 480, .inl fc_leastAt)), (fa_greatestAt, .inl (cI, 480, .inl fc_greatestAt))]
set_option maxHeartbeats 8000000 in
set_option maxRecDepth 100000 in
theorem s_X0_countSegments (l : Launch) (dC : Nat → ClassId) (dI : Nat → Nat → Nat) (cI cJ cZ : ClassId) (fh : Nat) (f_isReached : Int32) (f_least : Value) (f_greatest : Value) (f_sites : Value) (f_maybeNull : Value) (f_known : Value) (f_lanes : Value) (f_shortest : Value) (fa_longest : Nat) (fa_leastAt : Nat) (fa_greatestAt : Nat) (fc_longest : Nat → Int32) (fc_leastAt : Nat → Int32) (fc_greatestAt : Nat → Int32) (ia : Int32) (sz : Nat) (q_f_isReached : kZ f_isReached) (h_fc_longest : ∀ j : Nat, kLE12 (fc_longest j)) (hy_ia : 0 ≤ ia.toInt ∧ ia.toInt ≤ 39) : Met l yX0_countSegments v_X0_countSegments ({ frames := 2, cells := 0, slots := 0, locals := 47 }) (va_Pc [.ref fh, .int ia] (cPre dC dI cI cJ cZ sz (sw_X0_countSegments cI cJ cZ fh f_isReached f_least f_greatest f_sites f_maybeNull f_known f_lanes f_shortest fa_longest fa_leastAt fa_greatestAt fc_longest fc_leastAt fc_greatestAt ia))) (va_Qi (fun (r : Int32) (u : Unit) => True) (fun (u : Unit) => cPost dC dI cI cJ cZ (va_A (sw_X0_countSegments cI cJ cZ fh f_isReached f_least f_greatest f_sites f_maybeNull f_known f_lanes f_shortest fa_longest fa_leastAt fa_greatestAt fc_longest fc_leastAt fc_greatestAt ia) sz) [(fh, .inr (0, [.int f_isReached, f_least, f_greatest, f_sites, f_maybeNull, f_known, f_lanes, f_shortest, .ref fa_longest, .ref fa_leastAt, .ref fa_greatestAt])), (fa_longest, .inl (cI, 40, .inl fc_longest)), (fa_leastAt, .inl (cI, 480, .inl fc_leastAt)), (fa_greatestAt, .inl (cI, 480, .inl fc_greatestAt))]) (va_A (sw_X0_countSegments cI cJ cZ fh f_isReached f_least f_greatest f_sites f_maybeNull f_known f_lanes f_shortest fa_longest fa_leastAt fa_greatestAt fc_longest fc_leastAt fc_greatestAt ia) sz)) 0 0 (va_A (sw_X0_countSegments cI cJ cZ fh f_isReached f_least f_greatest f_sites f_maybeNull f_known f_lanes f_shortest fa_longest fa_leastAt fa_greatestAt fc_longest fc_leastAt fc_greatestAt ia) sz) := by
  refine Met.ofW (cc := cX0_countSegments) (maxL := 4) (ret := (some .int)) (by decide) rfl ?_
  intro p e s m args below meth c s₁ B hml hv
  obtain ⟨rfl, hsz, hP, hK, hD0, hN⟩ := hv
  have hx := B.exec
  have hb := B.bytes
  have hr := B.returns
  have hts := atoms_spec (ws := v_X0_countSegments) B.pre
  have hown : s.vm.findClass RX0 = some m.cls := findClass_of_methodNamed B.named
  have hlocks := B.notSynchronized
  subst hsz
  have hD := hD0.self (sz := s.heap.size)
  generalize hAe : va_A (sw_X0_countSegments cI cJ cZ fh f_isReached f_least f_greatest f_sites f_maybeNull f_known f_lanes f_shortest fa_longest fa_leastAt fa_greatestAt fc_longest fc_leastAt fc_greatestAt ia) s.heap.size = A at hD ⊢
  have hA : ∀ q : Nat, s.heap.size ≤ q → A q := fun q h => by rw [← hAe]; exact Or.inr h
  clear hAe hD0
  have hS : va_S A s.heap s.heap [] := va_S.rf
  replace hP : va_P (dC, dI) vwCl [(fh, .inr (0, [.int f_isReached, f_least, f_greatest, f_sites, f_maybeNull, f_known, f_lanes, f_shortest, .ref fa_longest, .ref fa_leastAt, .ref fa_greatestAt])), (fa_longest, .inl (cI, 40, .inl fc_longest)), (fa_leastAt, .inl (cI, 480, .inl fc_leastAt)), (fa_greatestAt, .inl (cI, 480, .inl fc_greatestAt))] s.heap := hP
  replace hD : va_D A [(fh, .inr (0, [.int f_isReached, f_least, f_greatest, f_sites, f_maybeNull, f_known, f_lanes, f_shortest, .ref fa_longest, .ref fa_leastAt, .ref fa_greatestAt])), (fa_longest, .inl (cI, 40, .inl fc_longest)), (fa_leastAt, .inl (cI, 480, .inl fc_leastAt)), (fa_greatestAt, .inl (cI, 480, .inl fc_greatestAt))] := hD
  have hl := lv_entry ([.ref fh, .int ia]) (n := 4) (Nat.le_of_ble_eq_true rfl)
  rw [lg_entry_eq]
  generalize (lg_sl ([.ref fh, .int ia]) ++ List.replicate (4 - (lg_sl ([.ref fh, .int ia])).length) Slot.unset).toArray = ls at hl ⊢
  replace hl : lv_has ls 4 [(0, .ref fh), (1, .int ia)] := hl
  have z_0 : (0 : Int32).toInt = 0 := by decide
  have z_1 : (1 : Int32).toInt = 1 := by decide
  refine lv_iconst (v := 0) hx hb dX0_countSegments_0 (by decide) ?_
  refine lv_istore_n (lv' := [(2, .int 0), (0, .ref fh), (1, .int ia)]) hx hb dX0_countSegments_1 rfl hl (by decide) rfl (fun ls1 hl1 => ?_)
  replace hl := hl1; clear hl1
  refine lv_iconst (v := 0) hx hb dX0_countSegments_2 (by decide) ?_
  refine lv_istore_n (lv' := [(3, .int 0), (2, .int 0), (0, .ref fh), (1, .int ia)]) hx hb dX0_countSegments_3 rfl hl (by decide) rfl (fun ls1 hl1 => ?_)
  replace hl := hl1; clear hl1
  refine my_wloop (S := Int32 × Int32) (fun u => (0 ≤ (u.1).toInt ∧ (u.1).toInt ≤ 12)) (fun u => (12 - (u.1).toInt).toNat) (fun u => [(fh, .inr (0, [.int f_isReached, f_least, f_greatest, f_sites, f_maybeNull, f_known, f_lanes, f_shortest, .ref fa_longest, .ref fa_leastAt, .ref fa_greatestAt])), (fa_longest, .inl (cI, 40, .inl fc_longest)), (fa_leastAt, .inl (cI, 480, .inl fc_leastAt)), (fa_greatestAt, .inl (cI, 480, .inl fc_greatestAt))]) (fun u => [(3, .int (u.1)), (2, .int (u.2)), (0, .ref fh), (1, .int ia)]) (H0 := s.heap) (A := A) (D := (dC, dI)) (cl := vwCl) ((0 : Int32), (0 : Int32)) (show (0 ≤ (0 : Int32).toInt ∧ (0 : Int32).toInt ≤ 12) from ⟨by omega, by omega⟩) (by exact hP) (by exact hD) hS (by exact hl) (fun u_1 hu_1 ih_1 H_1 locs_1 ls1 hP1 hD1 hS1 hl1 => ?_)
  obtain ⟨v_2, v_3⟩ := u_1
  replace hu_1 : (0 ≤ v_2.toInt ∧ v_2.toInt ≤ 12) := hu_1
  have q_v_2 := hu_1
  replace hP : va_P (dC, dI) vwCl [(fh, .inr (0, [.int f_isReached, f_least, f_greatest, f_sites, f_maybeNull, f_known, f_lanes, f_shortest, .ref fa_longest, .ref fa_leastAt, .ref fa_greatestAt])), (fa_longest, .inl (cI, 40, .inl fc_longest)), (fa_leastAt, .inl (cI, 480, .inl fc_leastAt)), (fa_greatestAt, .inl (cI, 480, .inl fc_greatestAt))] H_1 := hP1
  replace hD : va_D A [(fh, .inr (0, [.int f_isReached, f_least, f_greatest, f_sites, f_maybeNull, f_known, f_lanes, f_shortest, .ref fa_longest, .ref fa_leastAt, .ref fa_greatestAt])), (fa_longest, .inl (cI, 40, .inl fc_longest)), (fa_leastAt, .inl (cI, 480, .inl fc_leastAt)), (fa_greatestAt, .inl (cI, 480, .inl fc_greatestAt))] := hD1
  replace hS := hS1
  clear hP1 hD1 hS1
  replace hl : lv_has ls1 4 [(3, .int v_2), (2, .int v_3), (0, .ref fh), (1, .int ia)] := hl1
  clear hl1
  refine lv_iload_n hx hb dX0_countSegments_4 rfl (lv_at hl 0 rfl) ?_
  refine lv_aload_n hx hb dX0_countSegments_5 rfl (lv_at hl 2 rfl) ?_
  refine va_get (D := (dC, dI)) (ci := 0) (v := .ref fa_longest) (C := RX0) (T := TX0) (N := 11) hx hb hts inv_X0_countSegments_X0 hown hK hP 0 rfl rfl 8 (by decide) (hts (.fieldLink RX0 39 "ArraySegments$Facts" "longest" "[I") (List.mem_of_getElem? (i := 1) rfl)) (fun _ h9 => h9) rfl dX0_countSegments_6 ?_
  refine lv_iload_n hx hb dX0_countSegments_9 rfl (lv_at hl 3 rfl) ?_
  refine sf_iald kLE12 hx hb hK hP 1 0 rfl rfl h_fc_longest (vp_in_iff.mpr ⟨by omega, by omega⟩) dX0_countSegments_10 (fun v_4 q_v_4 e_v_4 => ?_)
  refine lv_icmp_ge (tgt := 32) hx hb dX0_countSegments_11 (by decide) (fun c_5 => ?_) (fun c_5 => ?_)
  · -- yes
    have k_5 : v_4.toInt ≤ v_2.toInt := ci_ge c_5
    refine lv_iload_n hx hb dX0_countSegments_32 rfl (lv_at hl 1 rfl) ?_
    have hP9 := hP.sub (ws' := [(fh, .inr (0, [.int f_isReached, f_least, f_greatest, f_sites, f_maybeNull, f_known, f_lanes, f_shortest, .ref fa_longest, .ref fa_leastAt, .ref fa_greatestAt])), (fa_longest, .inl (cI, 40, .inl fc_longest)), (fa_leastAt, .inl (cI, 480, .inl fc_leastAt)), (fa_greatestAt, .inl (cI, 480, .inl fc_greatestAt))]) [0, 1, 2, 3] rfl
    have hD9 := hD.sub (ws' := [(fh, .inr (0, [.int f_isReached, f_least, f_greatest, f_sites, f_maybeNull, f_known, f_lanes, f_shortest, .ref fa_longest, .ref fa_leastAt, .ref fa_greatestAt])), (fa_longest, .inl (cI, 40, .inl fc_longest)), (fa_leastAt, .inl (cI, 480, .inl fc_leastAt)), (fa_greatestAt, .inl (cI, 480, .inl fc_greatestAt))]) [0, 1, 2, 3] (by decide) rfl
    exact W.iret (v := v_3) hx hb hr (fun t ht hW => ⟨⟨v_3, (), rfl, trivial, by rw [ht]; exact hP9, va_K.moved hW.alike hK, hD9⟩, hS.F ht⟩) hS.2.2 dX0_countSegments_33
  · -- no
    have k_5 : v_2.toInt < v_4.toInt := ci_nge c_5
    refine lv_aload_n hx hb dX0_countSegments_14 rfl (lv_at hl 2 rfl) ?_
    refine lv_iload_n hx hb dX0_countSegments_15 rfl (lv_at hl 3 rfl) ?_
    refine lv_iload_n hx hb dX0_countSegments_16 rfl (lv_at hl 0 rfl) ?_
    have hPc := hP.sub (ws' := [(fh, .inr (0, [.int f_isReached, f_least, f_greatest, f_sites, f_maybeNull, f_known, f_lanes, f_shortest, .ref fa_longest, .ref fa_leastAt, .ref fa_greatestAt])), (fa_leastAt, .inl (cI, 480, .inl fc_leastAt)), (fa_greatestAt, .inl (cI, 480, .inl fc_greatestAt))]) [0, 2, 3] rfl
    have hDc := hD.sub (ws' := [(fh, .inr (0, [.int f_isReached, f_least, f_greatest, f_sites, f_maybeNull, f_known, f_lanes, f_shortest, .ref fa_longest, .ref fa_leastAt, .ref fa_greatestAt])), (fa_leastAt, .inl (cI, 480, .inl fc_leastAt)), (fa_greatestAt, .inl (cI, 480, .inl fc_greatestAt))]) [0, 2, 3] (by decide) rfl
    have hFc := va_free (wc := [(fh, .inr (0, [.int f_isReached, f_least, f_greatest, f_sites, f_maybeNull, f_known, f_lanes, f_shortest, .ref fa_longest, .ref fa_leastAt, .ref fa_greatestAt])), (fa_leastAt, .inl (cI, 480, .inl fc_leastAt)), (fa_greatestAt, .inl (cI, 480, .inl fc_greatestAt))]) hD hS hA [0, 2, 3] rfl
    refine va_calli (va_runV (As := [.int ia, .int v_2]) (rest := []) ⟨hx, hb, hml, hown, hts⟩ (s_X0_beginsSegment l dC dI cI cJ cZ fh f_isReached f_least f_greatest f_sites f_maybeNull f_known f_lanes f_shortest (.ref fa_longest) fa_leastAt fa_greatestAt fc_leastAt fc_greatestAt ia v_2 H_1.size q_f_isReached (by first | assumption | omega) (by first | assumption | omega)) (cwV 2 hts h_X0_countSegments_X0_beginsSegment_110 rfl rfl rfl (by decide +kernel) ⟨Nat.le_of_ble_eq_true rfl, Nat.le_of_ble_eq_true rfl⟩) ⟨cPre_blind, va_recv hK hPc (ci := 0) (q0 := 0) rfl rfl, cPre_of hK hN hPc hDc⟩ rfl rfl hl.1 rfl (lv_room (Nat.le_of_ble_eq_true rfl)) dX0_countSegments_17 ⟨Nat.le_of_ble_eq_true rfl, Nat.le_of_ble_eq_true rfl⟩) hS (fun q _ h => hFc q h) hFc (fun r_6 u_6 t_6 H_6 locs_6 ht hvm hw_6 hB hz1 hk1 hS1 => ?_)
    obtain ⟨hP1, hK1, hD1⟩ := hB
    rw [ht] at hP1
    obtain ⟨hP2, hD2⟩ := va_join (wr := [(fa_longest, .inl (cI, 40, .inl fc_longest))]) (w1 := [(fh, .inr (0, [.int f_isReached, f_least, f_greatest, f_sites, f_maybeNull, f_known, f_lanes, f_shortest, .ref fa_longest, .ref fa_leastAt, .ref fa_greatestAt])), (fa_leastAt, .inl (cI, 480, .inl fc_leastAt)), (fa_greatestAt, .inl (cI, 480, .inl fc_greatestAt))]) hP hD [0, 2, 3] [1] rfl rfl (by decide) (by decide) hk1 hFc hP1 hD1
    clear hPc hDc hFc hP1 hD1 hK1 hk1 hz1 hvm ht
    replace hP : va_P (dC, dI) vwCl [(fa_longest, .inl (cI, 40, .inl fc_longest)), (fh, .inr (0, [.int f_isReached, f_least, f_greatest, f_sites, f_maybeNull, f_known, f_lanes, f_shortest, .ref fa_longest, .ref fa_leastAt, .ref fa_greatestAt])), (fa_leastAt, .inl (cI, 480, .inl fc_leastAt)), (fa_greatestAt, .inl (cI, 480, .inl fc_greatestAt))] H_6 := hP2
    replace hD : va_D A [(fa_longest, .inl (cI, 40, .inl fc_longest)), (fh, .inr (0, [.int f_isReached, f_least, f_greatest, f_sites, f_maybeNull, f_known, f_lanes, f_shortest, .ref fa_longest, .ref fa_leastAt, .ref fa_greatestAt])), (fa_leastAt, .inl (cI, 480, .inl fc_leastAt)), (fa_greatestAt, .inl (cI, 480, .inl fc_greatestAt))] := hD2
    replace hS := hS1
    clear hP2 hD2 hS1
    replace hw_6 : (kZ r_6) := hw_6
    have q_r_6 := hw_6
    refine my_join (S := Int32) (fun u => True) (fun u => [(fa_longest, .inl (cI, 40, .inl fc_longest)), (fh, .inr (0, [.int f_isReached, f_least, f_greatest, f_sites, f_maybeNull, f_known, f_lanes, f_shortest, .ref fa_longest, .ref fa_leastAt, .ref fa_greatestAt])), (fa_leastAt, .inl (cI, 480, .inl fc_leastAt)), (fa_greatestAt, .inl (cI, 480, .inl fc_greatestAt))]) (fun u => [(3, .int v_2), (2, .int (u)), (0, .ref fh), (1, .int ia)]) (fun u => []) (nL := 4) (H0 := s.heap) (A := A) (D := (dC, dI)) (cl := vwCl) 26 (fun u_8 hu_8 H_8 locs_8 ls1 hP1 hD1 hS1 hl1 => ?_) (fun jn_8 => ?_)
    · -- behind 26
      obtain ⟨v_9, rfl⟩ : ∃ z, z = u_8 := ⟨_, rfl⟩
      replace hP : va_P (dC, dI) vwCl [(fa_longest, .inl (cI, 40, .inl fc_longest)), (fh, .inr (0, [.int f_isReached, f_least, f_greatest, f_sites, f_maybeNull, f_known, f_lanes, f_shortest, .ref fa_longest, .ref fa_leastAt, .ref fa_greatestAt])), (fa_leastAt, .inl (cI, 480, .inl fc_leastAt)), (fa_greatestAt, .inl (cI, 480, .inl fc_greatestAt))] H_8 := hP1
      replace hD : va_D A [(fa_longest, .inl (cI, 40, .inl fc_longest)), (fh, .inr (0, [.int f_isReached, f_least, f_greatest, f_sites, f_maybeNull, f_known, f_lanes, f_shortest, .ref fa_longest, .ref fa_leastAt, .ref fa_greatestAt])), (fa_leastAt, .inl (cI, 480, .inl fc_leastAt)), (fa_greatestAt, .inl (cI, 480, .inl fc_greatestAt))] := hD1
      replace hS := hS1
      clear hP1 hD1 hS1
      replace hl : lv_has ls1 4 [(3, .int v_2), (2, .int v_9), (0, .ref fh), (1, .int ia)] := hl1
      clear hl1
      refine sf_iinc hx hb dX0_countSegments_26 hl (k := 0) (x := v_2) (w := 1) rfl (by decide) (by decide) ⟨by omega, by omega⟩ (fun v_10 q_v_10 ls1 hl1 => ?_)
      replace hl : lv_has ls1 4 [(3, .int v_10), (2, .int v_9), (0, .ref fh), (1, .int ia)] := hl1
      clear hl1
      refine lv_goto (tgt := 4) hx hb dX0_countSegments_29 (by decide) ?_
      exact ih_1 (v_10, v_9) (show (0 ≤ v_10.toInt ∧ v_10.toInt ≤ 12) from ⟨by omega, by omega⟩) (by show (12 - v_10.toInt).toNat < (12 - v_2.toInt).toNat; omega) _ _ _ (hP.sub [1, 0, 2, 3] rfl) (hD.sub [1, 0, 2, 3] (by decide) rfl) hS (lv_sub hl [0, 1, 2, 3] rfl)
    · -- ahead of 26
      refine lv_if_eq (tgt := 26) hx hb dX0_countSegments_20 (by decide) (fun c_11 => ?_) (fun c_11 => ?_)
      · -- yes
        have k_11 : r_6.toInt = (0 : Int32).toInt := ci_eq c_11
        exact jn_8 v_3 (show True from trivial) _ _ _ (hP.sub [0, 1, 2, 3] rfl) (hD.sub [0, 1, 2, 3] (by decide) rfl) hS (lv_sub hl [0, 1, 2, 3] rfl)
      · -- no
        have k_11 : ¬ r_6.toInt = (0 : Int32).toInt := ci_ne c_11
        refine sf_iincA hx hb dX0_countSegments_23 hl (k := 1) (x := v_3) rfl (by decide) (fun v_12 ls1 hl1 => ?_)
        replace hl : lv_has ls1 4 [(2, .int v_12), (3, .int v_2), (0, .ref fh), (1, .int ia)] := hl1
        clear hl1
        exact jn_8 v_12 (show True from trivial) _ _ _ (hP.sub [0, 1, 2, 3] rfl) (hD.sub [0, 1, 2, 3] (by decide) rfl) hS (lv_sub hl [1, 0, 2, 3] rfl)

def v_X0_firstOfSegment : List Cond := .code yX0_firstOfSegment cX0_firstOfSegment 5 (some .int) :: ([.fieldLink RX0 39 "ArraySegments$Facts" "longest" "[I", .methodLink RX0 110 yX0_beginsSegment, .instanceMethod yX0_beginsSegment, .selects RX0 yX0_beginsSegment yX0_beginsSegment, .initialized RX0] ++ (wsX00 ++ (v_X0_beginsSegment)))
theorem inv_X0_firstOfSegment_X0 : ∀ w ∈ wsX00, w ∈ v_X0_firstOfSegment := fun _ h => List.mem_cons_of_mem _ (List.mem_append_right _ (List.mem_append_left _ h))
theorem im_X0_firstOfSegment_X0_beginsSegment : ∀ w ∈ v_X0_beginsSegment, w ∈ v_X0_firstOfSegment := fun _ h => List.mem_cons_of_mem _ (List.mem_append_right _ (List.mem_append_right _ (h)))
set_option maxRecDepth 20000 in
theorem gd_X0_firstOfSegment : gdL v_X0_firstOfSegment := gdC (gdW (by decide +kernel)) (gdA (gdW (by decide +kernel)) (gdA gd_wsX00 gd_X0_beginsSegment))
set_option maxRecDepth 20000 in
theorem h_X0_firstOfSegment_X0_beginsSegment_110 : GoodIn v_X0_firstOfSegment (wsV RX0 110 RX0 yX0_beginsSegment v_X0_beginsSegment) := gdI [2, 3, 4, 5] rfl (by decide +kernel) (im_X0_firstOfSegment_X0_beginsSegment) gd_X0_beginsSegment
abbrev sw_X0_firstOfSegment (cI cJ cZ : ClassId) (fh : Nat) (f_isReached : Int32) (f_least : Value) (f_greatest : Value) (f_sites : Value) (f_maybeNull : Value) (f_known : Value) (f_lanes : Value) (f_shortest : Value) (fa_longest : Nat) (fa_leastAt : Nat) (fa_greatestAt : Nat) (fc_longest : Nat → Int32) (fc_leastAt : Nat → Int32) (fc_greatestAt : Nat → Int32) (ia : Int32) (kb : Int32) : va_W := [(fh, .inr (0, [.int f_isReached, f_least, f_greatest, f_sites, f_maybeNull, f_known, f_lanes, f_shortest, .ref fa_longest, .ref fa_leastAt, .ref fa_greatestAt])), (fa_longest, .inl (cI, 40, .inl fc_longest)), (fa_leastAt, .inl (cI, 480, .inl fc_leastAt)), (fa_greatestAt, .inl (cI, 480, .inl fc_greatestAt))]
set_option maxHeartbeats 8000000 in
set_option maxRecDepth 100000 in
theorem s_X0_firstOfSegment (l : Launch) (dC : Nat → ClassId) (dI : Nat → Nat → Nat) (cI cJ cZ : ClassId) (fh : Nat) (f_isReached : Int32) (f_least : Value) (f_greatest : Value) (f_sites : Value) (f_maybeNull : Value) (f_known : Value) (f_lanes : Value) (f_shortest : Value) (fa_longest : Nat) (fa_leastAt : Nat) (fa_greatestAt : Nat) (fc_longest : Nat → Int32) (fc_leastAt : Nat → Int32) (fc_greatestAt : Nat → Int32) (ia : Int32) (kb : Int32) (sz : Nat) (q_f_isReached : kZ f_isReached) (h_fc_longest : ∀ j : Nat, kLE12 (fc_longest j)) (hy_ia : 0 ≤ ia.toInt ∧ ia.toInt ≤ 39) : Met l yX0_firstOfSegment v_X0_firstOfSegment ({ frames := 2, cells := 0, slots := 0, locals := 47 }) (va_Pc [.ref fh, .int ia, .int kb] (cPre dC dI cI cJ cZ sz (sw_X0_firstOfSegment cI cJ cZ fh f_isReached f_least f_greatest f_sites f_maybeNull f_known f_lanes f_shortest fa_longest fa_leastAt fa_greatestAt fc_longest fc_leastAt fc_greatestAt ia kb))) (va_Qi (fun (r : Int32) (u : Unit) => (-1 ≤ r.toInt ∧ r.toInt ≤ 11)) (fun (u : Unit) => cPost dC dI cI cJ cZ (va_A (sw_X0_firstOfSegment cI cJ cZ fh f_isReached f_least f_greatest f_sites f_maybeNull f_known f_lanes f_shortest fa_longest fa_leastAt fa_greatestAt fc_longest fc_leastAt fc_greatestAt ia kb) sz) [(fh, .inr (0, [.int f_isReached, f_least, f_greatest, f_sites, f_maybeNull, f_known, f_lanes, f_shortest, .ref fa_longest, .ref fa_leastAt, .ref fa_greatestAt])), (fa_longest, .inl (cI, 40, .inl fc_longest)), (fa_leastAt, .inl (cI, 480, .inl fc_leastAt)), (fa_greatestAt, .inl (cI, 480, .inl fc_greatestAt))]) (va_A (sw_X0_firstOfSegment cI cJ cZ fh f_isReached f_least f_greatest f_sites f_maybeNull f_known f_lanes f_shortest fa_longest fa_leastAt fa_greatestAt fc_longest fc_leastAt fc_greatestAt ia kb) sz)) 0 0 (va_A (sw_X0_firstOfSegment cI cJ cZ fh f_isReached f_least f_greatest f_sites f_maybeNull f_known f_lanes f_shortest fa_longest fa_leastAt fa_greatestAt fc_longest fc_leastAt fc_greatestAt ia kb) sz) := by
  refine Met.ofW (cc := cX0_firstOfSegment) (maxL := 5) (ret := (some .int)) (by decide) rfl ?_
  intro p e s m args below meth c s₁ B hml hv
  obtain ⟨rfl, hsz, hP, hK, hD0, hN⟩ := hv
  have hx := B.exec
  have hb := B.bytes
  have hr := B.returns
  have hts := atoms_spec (ws := v_X0_firstOfSegment) B.pre
  have hown : s.vm.findClass RX0 = some m.cls := findClass_of_methodNamed B.named
  have hlocks := B.notSynchronized
  subst hsz
  have hD := hD0.self (sz := s.heap.size)
  generalize hAe : va_A (sw_X0_firstOfSegment cI cJ cZ fh f_isReached f_least f_greatest f_sites f_maybeNull f_known f_lanes f_shortest fa_longest fa_leastAt fa_greatestAt fc_longest fc_leastAt fc_greatestAt ia kb) s.heap.size = A at hD ⊢
  have hA : ∀ q : Nat, s.heap.size ≤ q → A q := fun q h => by rw [← hAe]; exact Or.inr h
  clear hAe hD0
  have hS : va_S A s.heap s.heap [] := va_S.rf
  replace hP : va_P (dC, dI) vwCl [(fh, .inr (0, [.int f_isReached, f_least, f_greatest, f_sites, f_maybeNull, f_known, f_lanes, f_shortest, .ref fa_longest, .ref fa_leastAt, .ref fa_greatestAt])), (fa_longest, .inl (cI, 40, .inl fc_longest)), (fa_leastAt, .inl (cI, 480, .inl fc_leastAt)), (fa_greatestAt, .inl (cI, 480, .inl fc_greatestAt))] s.heap := hP
  replace hD : va_D A [(fh, .inr (0, [.int f_isReached, f_least, f_greatest, f_sites, f_maybeNull, f_known, f_lanes, f_shortest, .ref fa_longest, .ref fa_leastAt, .ref fa_greatestAt])), (fa_longest, .inl (cI, 40, .inl fc_longest)), (fa_leastAt, .inl (cI, 480, .inl fc_leastAt)), (fa_greatestAt, .inl (cI, 480, .inl fc_greatestAt))] := hD
  have hl := lv_entry ([.ref fh, .int ia, .int kb]) (n := 5) (Nat.le_of_ble_eq_true rfl)
  rw [lg_entry_eq]
  generalize (lg_sl ([.ref fh, .int ia, .int kb]) ++ List.replicate (5 - (lg_sl ([.ref fh, .int ia, .int kb])).length) Slot.unset).toArray = ls at hl ⊢
  replace hl : lv_has ls 5 [(0, .ref fh), (1, .int ia), (2, .int kb)] := hl
  have z_m1 : (-1 : Int32).toInt = -1 := by decide
  have z_0 : (0 : Int32).toInt = 0 := by decide
  have z_1 : (1 : Int32).toInt = 1 := by decide
  refine lv_iconst (v := 0) hx hb dX0_firstOfSegment_0 (by decide) ?_
  refine lv_istore_n (lv' := [(3, .int 0), (0, .ref fh), (1, .int ia), (2, .int kb)]) hx hb dX0_firstOfSegment_1 rfl hl (by decide) rfl (fun ls1 hl1 => ?_)
  replace hl := hl1; clear hl1
  refine lv_iconst (v := 0) hx hb dX0_firstOfSegment_2 (by decide) ?_
  refine lv_istore (lv' := [(4, .int 0), (3, .int 0), (0, .ref fh), (1, .int ia), (2, .int kb)]) hx hb dX0_firstOfSegment_3 hl (by decide) rfl (fun ls1 hl1 => ?_)
  replace hl := hl1; clear hl1
  refine my_wloop (S := Int32 × Int32) (fun u => (0 ≤ (u.1).toInt ∧ (u.1).toInt ≤ 12)) (fun u => (12 - (u.1).toInt).toNat) (fun u => [(fh, .inr (0, [.int f_isReached, f_least, f_greatest, f_sites, f_maybeNull, f_known, f_lanes, f_shortest, .ref fa_longest, .ref fa_leastAt, .ref fa_greatestAt])), (fa_longest, .inl (cI, 40, .inl fc_longest)), (fa_leastAt, .inl (cI, 480, .inl fc_leastAt)), (fa_greatestAt, .inl (cI, 480, .inl fc_greatestAt))]) (fun u => [(4, .int (u.1)), (3, .int (u.2)), (0, .ref fh), (1, .int ia), (2, .int kb)]) (H0 := s.heap) (A := A) (D := (dC, dI)) (cl := vwCl) ((0 : Int32), (0 : Int32)) (show (0 ≤ (0 : Int32).toInt ∧ (0 : Int32).toInt ≤ 12) from ⟨by omega, by omega⟩) (by exact hP) (by exact hD) hS (by exact hl) (fun u_1 hu_1 ih_1 H_1 locs_1 ls1 hP1 hD1 hS1 hl1 => ?_)
  obtain ⟨v_2, v_3⟩ := u_1
  replace hu_1 : (0 ≤ v_2.toInt ∧ v_2.toInt ≤ 12) := hu_1
  have q_v_2 := hu_1
  replace hP : va_P (dC, dI) vwCl [(fh, .inr (0, [.int f_isReached, f_least, f_greatest, f_sites, f_maybeNull, f_known, f_lanes, f_shortest, .ref fa_longest, .ref fa_leastAt, .ref fa_greatestAt])), (fa_longest, .inl (cI, 40, .inl fc_longest)), (fa_leastAt, .inl (cI, 480, .inl fc_leastAt)), (fa_greatestAt, .inl (cI, 480, .inl fc_greatestAt))] H_1 := hP1
  replace hD : va_D A [(fh, .inr (0, [.int f_isReached, f_least, f_greatest, f_sites, f_maybeNull, f_known, f_lanes, f_shortest, .ref fa_longest, .ref fa_leastAt, .ref fa_greatestAt])), (fa_longest, .inl (cI, 40, .inl fc_longest)), (fa_leastAt, .inl (cI, 480, .inl fc_leastAt)), (fa_greatestAt, .inl (cI, 480, .inl fc_greatestAt))] := hD1
  replace hS := hS1
  clear hP1 hD1 hS1
  replace hl : lv_has ls1 5 [(4, .int v_2), (3, .int v_3), (0, .ref fh), (1, .int ia), (2, .int kb)] := hl1
  clear hl1
  refine lv_iload hx hb dX0_firstOfSegment_5 (lv_at hl 0 rfl) ?_
  refine lv_aload_n hx hb dX0_firstOfSegment_7 rfl (lv_at hl 2 rfl) ?_
  refine va_get (D := (dC, dI)) (ci := 0) (v := .ref fa_longest) (C := RX0) (T := TX0) (N := 11) hx hb hts inv_X0_firstOfSegment_X0 hown hK hP 0 rfl rfl 8 (by decide) (hts (.fieldLink RX0 39 "ArraySegments$Facts" "longest" "[I") (List.mem_of_getElem? (i := 1) rfl)) (fun _ h9 => h9) rfl dX0_firstOfSegment_8 ?_
  refine lv_iload_n hx hb dX0_firstOfSegment_11 rfl (lv_at hl 3 rfl) ?_
  refine sf_iald kLE12 hx hb hK hP 1 0 rfl rfl h_fc_longest (vp_in_iff.mpr ⟨by omega, by omega⟩) dX0_firstOfSegment_12 (fun v_4 q_v_4 e_v_4 => ?_)
  refine lv_icmp_ge (tgt := 43) hx hb dX0_firstOfSegment_13 (by decide) (fun c_5 => ?_) (fun c_5 => ?_)
  · -- yes
    have k_5 : v_4.toInt ≤ v_2.toInt := ci_ge c_5
    refine lv_iconst (v := (-1)) hx hb dX0_firstOfSegment_43 (by decide) ?_
    have hP9 := hP.sub (ws' := [(fh, .inr (0, [.int f_isReached, f_least, f_greatest, f_sites, f_maybeNull, f_known, f_lanes, f_shortest, .ref fa_longest, .ref fa_leastAt, .ref fa_greatestAt])), (fa_longest, .inl (cI, 40, .inl fc_longest)), (fa_leastAt, .inl (cI, 480, .inl fc_leastAt)), (fa_greatestAt, .inl (cI, 480, .inl fc_greatestAt))]) [0, 1, 2, 3] rfl
    have hD9 := hD.sub (ws' := [(fh, .inr (0, [.int f_isReached, f_least, f_greatest, f_sites, f_maybeNull, f_known, f_lanes, f_shortest, .ref fa_longest, .ref fa_leastAt, .ref fa_greatestAt])), (fa_longest, .inl (cI, 40, .inl fc_longest)), (fa_leastAt, .inl (cI, 480, .inl fc_leastAt)), (fa_greatestAt, .inl (cI, 480, .inl fc_greatestAt))]) [0, 1, 2, 3] (by decide) rfl
    exact W.iret (v := (-1)) hx hb hr (fun t ht hW => ⟨⟨(-1), (), rfl, (show -1 ≤ ((-1) : Int32).toInt ∧ ((-1) : Int32).toInt ≤ 11 from (by first | assumption | omega)), by rw [ht]; exact hP9, va_K.moved hW.alike hK, hD9⟩, hS.F ht⟩) hS.2.2 dX0_firstOfSegment_44
  · -- no
    have k_5 : v_2.toInt < v_4.toInt := ci_nge c_5
    refine lv_aload_n hx hb dX0_firstOfSegment_16 rfl (lv_at hl 2 rfl) ?_
    refine lv_iload_n hx hb dX0_firstOfSegment_17 rfl (lv_at hl 3 rfl) ?_
    refine lv_iload hx hb dX0_firstOfSegment_18 (lv_at hl 0 rfl) ?_
    have hPc := hP.sub (ws' := [(fh, .inr (0, [.int f_isReached, f_least, f_greatest, f_sites, f_maybeNull, f_known, f_lanes, f_shortest, .ref fa_longest, .ref fa_leastAt, .ref fa_greatestAt])), (fa_leastAt, .inl (cI, 480, .inl fc_leastAt)), (fa_greatestAt, .inl (cI, 480, .inl fc_greatestAt))]) [0, 2, 3] rfl
    have hDc := hD.sub (ws' := [(fh, .inr (0, [.int f_isReached, f_least, f_greatest, f_sites, f_maybeNull, f_known, f_lanes, f_shortest, .ref fa_longest, .ref fa_leastAt, .ref fa_greatestAt])), (fa_leastAt, .inl (cI, 480, .inl fc_leastAt)), (fa_greatestAt, .inl (cI, 480, .inl fc_greatestAt))]) [0, 2, 3] (by decide) rfl
    have hFc := va_free (wc := [(fh, .inr (0, [.int f_isReached, f_least, f_greatest, f_sites, f_maybeNull, f_known, f_lanes, f_shortest, .ref fa_longest, .ref fa_leastAt, .ref fa_greatestAt])), (fa_leastAt, .inl (cI, 480, .inl fc_leastAt)), (fa_greatestAt, .inl (cI, 480, .inl fc_greatestAt))]) hD hS hA [0, 2, 3] rfl
    refine va_calli (va_runV (As := [.int ia, .int v_2]) (rest := []) ⟨hx, hb, hml, hown, hts⟩ (s_X0_beginsSegment l dC dI cI cJ cZ fh f_isReached f_least f_greatest f_sites f_maybeNull f_known f_lanes f_shortest (.ref fa_longest) fa_leastAt fa_greatestAt fc_leastAt fc_greatestAt ia v_2 H_1.size q_f_isReached (by first | assumption | omega) (by first | assumption | omega)) (cwV 2 hts h_X0_firstOfSegment_X0_beginsSegment_110 rfl rfl rfl (by decide +kernel) ⟨Nat.le_of_ble_eq_true rfl, Nat.le_of_ble_eq_true rfl⟩) ⟨cPre_blind, va_recv hK hPc (ci := 0) (q0 := 0) rfl rfl, cPre_of hK hN hPc hDc⟩ rfl rfl hl.1 rfl (lv_room (Nat.le_of_ble_eq_true rfl)) dX0_firstOfSegment_20 ⟨Nat.le_of_ble_eq_true rfl, Nat.le_of_ble_eq_true rfl⟩) hS (fun q _ h => hFc q h) hFc (fun r_6 u_6 t_6 H_6 locs_6 ht hvm hw_6 hB hz1 hk1 hS1 => ?_)
    obtain ⟨hP1, hK1, hD1⟩ := hB
    rw [ht] at hP1
    obtain ⟨hP2, hD2⟩ := va_join (wr := [(fa_longest, .inl (cI, 40, .inl fc_longest))]) (w1 := [(fh, .inr (0, [.int f_isReached, f_least, f_greatest, f_sites, f_maybeNull, f_known, f_lanes, f_shortest, .ref fa_longest, .ref fa_leastAt, .ref fa_greatestAt])), (fa_leastAt, .inl (cI, 480, .inl fc_leastAt)), (fa_greatestAt, .inl (cI, 480, .inl fc_greatestAt))]) hP hD [0, 2, 3] [1] rfl rfl (by decide) (by decide) hk1 hFc hP1 hD1
    clear hPc hDc hFc hP1 hD1 hK1 hk1 hz1 hvm ht
    replace hP : va_P (dC, dI) vwCl [(fa_longest, .inl (cI, 40, .inl fc_longest)), (fh, .inr (0, [.int f_isReached, f_least, f_greatest, f_sites, f_maybeNull, f_known, f_lanes, f_shortest, .ref fa_longest, .ref fa_leastAt, .ref fa_greatestAt])), (fa_leastAt, .inl (cI, 480, .inl fc_leastAt)), (fa_greatestAt, .inl (cI, 480, .inl fc_greatestAt))] H_6 := hP2
    replace hD : va_D A [(fa_longest, .inl (cI, 40, .inl fc_longest)), (fh, .inr (0, [.int f_isReached, f_least, f_greatest, f_sites, f_maybeNull, f_known, f_lanes, f_shortest, .ref fa_longest, .ref fa_leastAt, .ref fa_greatestAt])), (fa_leastAt, .inl (cI, 480, .inl fc_leastAt)), (fa_greatestAt, .inl (cI, 480, .inl fc_greatestAt))] := hD2
    replace hS := hS1
    clear hP2 hD2 hS1
    replace hw_6 : (kZ r_6) := hw_6
    have q_r_6 := hw_6
    refine lv_if_eq (tgt := 37) hx hb dX0_firstOfSegment_23 (by decide) (fun c_7 => ?_) (fun c_7 => ?_)
    · -- yes
      have k_7 : r_6.toInt = (0 : Int32).toInt := ci_eq c_7
      refine sf_iinc hx hb dX0_firstOfSegment_37 hl (k := 0) (x := v_2) (w := 1) rfl (by decide) (by decide) ⟨by omega, by omega⟩ (fun v_8 q_v_8 ls1 hl1 => ?_)
      replace hl : lv_has ls1 5 [(4, .int v_8), (3, .int v_3), (0, .ref fh), (1, .int ia), (2, .int kb)] := hl1
      clear hl1
      refine lv_goto (tgt := 5) hx hb dX0_firstOfSegment_40 (by decide) ?_
      exact ih_1 (v_8, v_3) (show (0 ≤ v_8.toInt ∧ v_8.toInt ≤ 12) from ⟨by omega, by omega⟩) (by show (12 - v_8.toInt).toNat < (12 - v_2.toInt).toNat; omega) _ _ _ (hP.sub [1, 0, 2, 3] rfl) (hD.sub [1, 0, 2, 3] (by decide) rfl) hS (lv_sub hl [0, 1, 2, 3, 4] rfl)
    · -- no
      have k_7 : ¬ r_6.toInt = (0 : Int32).toInt := ci_ne c_7
      refine lv_iload_n hx hb dX0_firstOfSegment_26 rfl (lv_at hl 1 rfl) ?_
      refine lv_iload_n hx hb dX0_firstOfSegment_27 rfl (lv_at hl 4 rfl) ?_
      refine lv_icmp_ne (tgt := 34) hx hb dX0_firstOfSegment_28 (by decide) (fun c_9 => ?_) (fun c_9 => ?_)
      · -- yes
        have k_9 : ¬ v_3.toInt = kb.toInt := ci_ne c_9
        refine sf_iincA hx hb dX0_firstOfSegment_34 hl (k := 1) (x := v_3) rfl (by decide) (fun v_10 ls1 hl1 => ?_)
        replace hl : lv_has ls1 5 [(3, .int v_10), (4, .int v_2), (0, .ref fh), (1, .int ia), (2, .int kb)] := hl1
        clear hl1
        refine sf_iinc hx hb dX0_firstOfSegment_37 hl (k := 1) (x := v_2) (w := 1) rfl (by decide) (by decide) ⟨by omega, by omega⟩ (fun v_11 q_v_11 ls1 hl1 => ?_)
        replace hl : lv_has ls1 5 [(4, .int v_11), (3, .int v_10), (0, .ref fh), (1, .int ia), (2, .int kb)] := hl1
        clear hl1
        refine lv_goto (tgt := 5) hx hb dX0_firstOfSegment_40 (by decide) ?_
        exact ih_1 (v_11, v_10) (show (0 ≤ v_11.toInt ∧ v_11.toInt ≤ 12) from ⟨by omega, by omega⟩) (by show (12 - v_11.toInt).toNat < (12 - v_2.toInt).toNat; omega) _ _ _ (hP.sub [1, 0, 2, 3] rfl) (hD.sub [1, 0, 2, 3] (by decide) rfl) hS (lv_sub hl [0, 1, 2, 3, 4] rfl)
      · -- no
        have k_9 : v_3.toInt = kb.toInt := ci_eq c_9
        refine lv_iload hx hb dX0_firstOfSegment_31 (lv_at hl 0 rfl) ?_
        have hP9 := hP.sub (ws' := [(fh, .inr (0, [.int f_isReached, f_least, f_greatest, f_sites, f_maybeNull, f_known, f_lanes, f_shortest, .ref fa_longest, .ref fa_leastAt, .ref fa_greatestAt])), (fa_longest, .inl (cI, 40, .inl fc_longest)), (fa_leastAt, .inl (cI, 480, .inl fc_leastAt)), (fa_greatestAt, .inl (cI, 480, .inl fc_greatestAt))]) [1, 0, 2, 3] rfl
        have hD9 := hD.sub (ws' := [(fh, .inr (0, [.int f_isReached, f_least, f_greatest, f_sites, f_maybeNull, f_known, f_lanes, f_shortest, .ref fa_longest, .ref fa_leastAt, .ref fa_greatestAt])), (fa_longest, .inl (cI, 40, .inl fc_longest)), (fa_leastAt, .inl (cI, 480, .inl fc_leastAt)), (fa_greatestAt, .inl (cI, 480, .inl fc_greatestAt))]) [1, 0, 2, 3] (by decide) rfl
        exact W.iret (v := v_2) hx hb hr (fun t ht hW => ⟨⟨v_2, (), rfl, (show -1 ≤ v_2.toInt ∧ v_2.toInt ≤ 11 from (by first | assumption | omega)), by rw [ht]; exact hP9, va_K.moved hW.alike hK, hD9⟩, hS.F ht⟩) hS.2.2 dX0_firstOfSegment_33

def v_X0_behindSegment : List Cond := .code yX0_behindSegment cX0_behindSegment 4 (some .int) :: ([.fieldLink RX0 39 "ArraySegments$Facts" "longest" "[I", .methodLink RX0 110 yX0_beginsSegment, .instanceMethod yX0_beginsSegment, .selects RX0 yX0_beginsSegment yX0_beginsSegment, .initialized RX0] ++ (wsX00 ++ (v_X0_beginsSegment)))
theorem inv_X0_behindSegment_X0 : ∀ w ∈ wsX00, w ∈ v_X0_behindSegment := fun _ h => List.mem_cons_of_mem _ (List.mem_append_right _ (List.mem_append_left _ h))
theorem im_X0_behindSegment_X0_beginsSegment : ∀ w ∈ v_X0_beginsSegment, w ∈ v_X0_behindSegment := fun _ h => List.mem_cons_of_mem _ (List.mem_append_right _ (List.mem_append_right _ (h)))
set_option maxRecDepth 20000 in
theorem gd_X0_behindSegment : gdL v_X0_behindSegment := gdC (gdW (by decide +kernel)) (gdA (gdW (by decide +kernel)) (gdA gd_wsX00 gd_X0_beginsSegment))
set_option maxRecDepth 20000 in
theorem h_X0_behindSegment_X0_beginsSegment_110 : GoodIn v_X0_behindSegment (wsV RX0 110 RX0 yX0_beginsSegment v_X0_beginsSegment) := gdI [2, 3, 4, 5] rfl (by decide +kernel) (im_X0_behindSegment_X0_beginsSegment) gd_X0_beginsSegment
abbrev sw_X0_behindSegment (cI cJ cZ : ClassId) (fh : Nat) (f_isReached : Int32) (f_least : Value) (f_greatest : Value) (f_sites : Value) (f_maybeNull : Value) (f_known : Value) (f_lanes : Value) (f_shortest : Value) (fa_longest : Nat) (fa_leastAt : Nat) (fa_greatestAt : Nat) (fc_longest : Nat → Int32) (fc_leastAt : Nat → Int32) (fc_greatestAt : Nat → Int32) (ia : Int32) (pa : Int32) : va_W := [(fh, .inr (0, [.int f_isReached, f_least, f_greatest, f_sites, f_maybeNull, f_known, f_lanes, f_shortest, .ref fa_longest, .ref fa_leastAt, .ref fa_greatestAt])), (fa_longest, .inl (cI, 40, .inl fc_longest)), (fa_leastAt, .inl (cI, 480, .inl fc_leastAt)), (fa_greatestAt, .inl (cI, 480, .inl fc_greatestAt))]
set_option maxHeartbeats 8000000 in
set_option maxRecDepth 100000 in
theorem s_X0_behindSegment (l : Launch) (dC : Nat → ClassId) (dI : Nat → Nat → Nat) (cI cJ cZ : ClassId) (fh : Nat) (f_isReached : Int32) (f_least : Value) (f_greatest : Value) (f_sites : Value) (f_maybeNull : Value) (f_known : Value) (f_lanes : Value) (f_shortest : Value) (fa_longest : Nat) (fa_leastAt : Nat) (fa_greatestAt : Nat) (fc_longest : Nat → Int32) (fc_leastAt : Nat → Int32) (fc_greatestAt : Nat → Int32) (ia : Int32) (pa : Int32) (sz : Nat) (q_f_isReached : kZ f_isReached) (h_fc_longest : ∀ j : Nat, kLE12 (fc_longest j)) (hy_ia : 0 ≤ ia.toInt ∧ ia.toInt ≤ 39) (hy_pa : 0 ≤ pa.toInt ∧ pa.toInt ≤ 11) : Met l yX0_behindSegment v_X0_behindSegment ({ frames := 2, cells := 0, slots := 0, locals := 47 }) (va_Pc [.ref fh, .int ia, .int pa] (cPre dC dI cI cJ cZ sz (sw_X0_behindSegment cI cJ cZ fh f_isReached f_least f_greatest f_sites f_maybeNull f_known f_lanes f_shortest fa_longest fa_leastAt fa_greatestAt fc_longest fc_leastAt fc_greatestAt ia pa))) (va_Qi (fun (r : Int32) (u : Unit) => True) (fun (u : Unit) => cPost dC dI cI cJ cZ (va_A (sw_X0_behindSegment cI cJ cZ fh f_isReached f_least f_greatest f_sites f_maybeNull f_known f_lanes f_shortest fa_longest fa_leastAt fa_greatestAt fc_longest fc_leastAt fc_greatestAt ia pa) sz) [(fh, .inr (0, [.int f_isReached, f_least, f_greatest, f_sites, f_maybeNull, f_known, f_lanes, f_shortest, .ref fa_longest, .ref fa_leastAt, .ref fa_greatestAt])), (fa_longest, .inl (cI, 40, .inl fc_longest)), (fa_leastAt, .inl (cI, 480, .inl fc_leastAt)), (fa_greatestAt, .inl (cI, 480, .inl fc_greatestAt))]) (va_A (sw_X0_behindSegment cI cJ cZ fh f_isReached f_least f_greatest f_sites f_maybeNull f_known f_lanes f_shortest fa_longest fa_leastAt fa_greatestAt fc_longest fc_leastAt fc_greatestAt ia pa) sz)) 0 0 (va_A (sw_X0_behindSegment cI cJ cZ fh f_isReached f_least f_greatest f_sites f_maybeNull f_known f_lanes f_shortest fa_longest fa_leastAt fa_greatestAt fc_longest fc_leastAt fc_greatestAt ia pa) sz) := by
  refine Met.ofW (cc := cX0_behindSegment) (maxL := 4) (ret := (some .int)) (by decide) rfl ?_
  intro p e s m args below meth c s₁ B hml hv
  obtain ⟨rfl, hsz, hP, hK, hD0, hN⟩ := hv
  have hx := B.exec
  have hb := B.bytes
  have hr := B.returns
  have hts := atoms_spec (ws := v_X0_behindSegment) B.pre
  have hown : s.vm.findClass RX0 = some m.cls := findClass_of_methodNamed B.named
  have hlocks := B.notSynchronized
  subst hsz
  have hD := hD0.self (sz := s.heap.size)
  generalize hAe : va_A (sw_X0_behindSegment cI cJ cZ fh f_isReached f_least f_greatest f_sites f_maybeNull f_known f_lanes f_shortest fa_longest fa_leastAt fa_greatestAt fc_longest fc_leastAt fc_greatestAt ia pa) s.heap.size = A at hD ⊢
  have hA : ∀ q : Nat, s.heap.size ≤ q → A q := fun q h => by rw [← hAe]; exact Or.inr h
  clear hAe hD0
  have hS : va_S A s.heap s.heap [] := va_S.rf
  replace hP : va_P (dC, dI) vwCl [(fh, .inr (0, [.int f_isReached, f_least, f_greatest, f_sites, f_maybeNull, f_known, f_lanes, f_shortest, .ref fa_longest, .ref fa_leastAt, .ref fa_greatestAt])), (fa_longest, .inl (cI, 40, .inl fc_longest)), (fa_leastAt, .inl (cI, 480, .inl fc_leastAt)), (fa_greatestAt, .inl (cI, 480, .inl fc_greatestAt))] s.heap := hP
  replace hD : va_D A [(fh, .inr (0, [.int f_isReached, f_least, f_greatest, f_sites, f_maybeNull, f_known, f_lanes, f_shortest, .ref fa_longest, .ref fa_leastAt, .ref fa_greatestAt])), (fa_longest, .inl (cI, 40, .inl fc_longest)), (fa_leastAt, .inl (cI, 480, .inl fc_leastAt)), (fa_greatestAt, .inl (cI, 480, .inl fc_greatestAt))] := hD
  have hl := lv_entry ([.ref fh, .int ia, .int pa]) (n := 4) (Nat.le_of_ble_eq_true rfl)
  rw [lg_entry_eq]
  generalize (lg_sl ([.ref fh, .int ia, .int pa]) ++ List.replicate (4 - (lg_sl ([.ref fh, .int ia, .int pa])).length) Slot.unset).toArray = ls at hl ⊢
  replace hl : lv_has ls 4 [(0, .ref fh), (1, .int ia), (2, .int pa)] := hl
  have z_0 : (0 : Int32).toInt = 0 := by decide
  have z_1 : (1 : Int32).toInt = 1 := by decide
  refine lv_iload_n hx hb dX0_behindSegment_0 rfl (lv_at hl 2 rfl) ?_
  refine lv_iconst (v := 1) hx hb dX0_behindSegment_1 (by decide) ?_
  refine sf_iadd hx hb dX0_behindSegment_2 ⟨by omega, by omega⟩ (fun v_1 q_v_1 => ?_)
  refine lv_istore_n (lv' := [(3, .int v_1), (0, .ref fh), (1, .int ia), (2, .int pa)]) hx hb dX0_behindSegment_3 rfl hl (by decide) rfl (fun ls1 hl1 => ?_)
  replace hl := hl1; clear hl1
  refine my_wloop (S := Int32) (fun u => (1 ≤ (u).toInt ∧ (u).toInt ≤ 12)) (fun u => (12 - (u).toInt).toNat) (fun u => [(fh, .inr (0, [.int f_isReached, f_least, f_greatest, f_sites, f_maybeNull, f_known, f_lanes, f_shortest, .ref fa_longest, .ref fa_leastAt, .ref fa_greatestAt])), (fa_longest, .inl (cI, 40, .inl fc_longest)), (fa_leastAt, .inl (cI, 480, .inl fc_leastAt)), (fa_greatestAt, .inl (cI, 480, .inl fc_greatestAt))]) (fun u => [(3, .int (u)), (0, .ref fh), (1, .int ia), (2, .int pa)]) (H0 := s.heap) (A := A) (D := (dC, dI)) (cl := vwCl) v_1 (show (1 ≤ v_1.toInt ∧ v_1.toInt ≤ 12) from ⟨by omega, by omega⟩) (by exact hP) (by exact hD) hS (by exact hl) (fun u_2 hu_2 ih_2 H_2 locs_2 ls1 hP1 hD1 hS1 hl1 => ?_)
  obtain ⟨v_3, rfl⟩ : ∃ z, z = u_2 := ⟨_, rfl⟩
  replace hu_2 : (1 ≤ v_3.toInt ∧ v_3.toInt ≤ 12) := hu_2
  have q_v_3 := hu_2
  replace hP : va_P (dC, dI) vwCl [(fh, .inr (0, [.int f_isReached, f_least, f_greatest, f_sites, f_maybeNull, f_known, f_lanes, f_shortest, .ref fa_longest, .ref fa_leastAt, .ref fa_greatestAt])), (fa_longest, .inl (cI, 40, .inl fc_longest)), (fa_leastAt, .inl (cI, 480, .inl fc_leastAt)), (fa_greatestAt, .inl (cI, 480, .inl fc_greatestAt))] H_2 := hP1
  replace hD : va_D A [(fh, .inr (0, [.int f_isReached, f_least, f_greatest, f_sites, f_maybeNull, f_known, f_lanes, f_shortest, .ref fa_longest, .ref fa_leastAt, .ref fa_greatestAt])), (fa_longest, .inl (cI, 40, .inl fc_longest)), (fa_leastAt, .inl (cI, 480, .inl fc_leastAt)), (fa_greatestAt, .inl (cI, 480, .inl fc_greatestAt))] := hD1
  replace hS := hS1
  clear hP1 hD1 hS1
  replace hl : lv_has ls1 4 [(3, .int v_3), (0, .ref fh), (1, .int ia), (2, .int pa)] := hl1
  clear hl1
  refine lv_iload_n hx hb dX0_behindSegment_4 rfl (lv_at hl 0 rfl) ?_
  refine lv_aload_n hx hb dX0_behindSegment_5 rfl (lv_at hl 1 rfl) ?_
  refine va_get (D := (dC, dI)) (ci := 0) (v := .ref fa_longest) (C := RX0) (T := TX0) (N := 11) hx hb hts inv_X0_behindSegment_X0 hown hK hP 0 rfl rfl 8 (by decide) (hts (.fieldLink RX0 39 "ArraySegments$Facts" "longest" "[I") (List.mem_of_getElem? (i := 1) rfl)) (fun _ h9 => h9) rfl dX0_behindSegment_6 ?_
  refine lv_iload_n hx hb dX0_behindSegment_9 rfl (lv_at hl 2 rfl) ?_
  refine sf_iald kLE12 hx hb hK hP 1 0 rfl rfl h_fc_longest (vp_in_iff.mpr ⟨by omega, by omega⟩) dX0_behindSegment_10 (fun v_4 q_v_4 e_v_4 => ?_)
  refine my_join (S := Unit) (fun u => True) (fun u => [(fh, .inr (0, [.int f_isReached, f_least, f_greatest, f_sites, f_maybeNull, f_known, f_lanes, f_shortest, .ref fa_longest, .ref fa_leastAt, .ref fa_greatestAt])), (fa_longest, .inl (cI, 40, .inl fc_longest)), (fa_leastAt, .inl (cI, 480, .inl fc_leastAt)), (fa_greatestAt, .inl (cI, 480, .inl fc_greatestAt))]) (fun u => [(3, .int v_3), (0, .ref fh), (1, .int ia), (2, .int pa)]) (fun u => []) (nL := 4) (H0 := s.heap) (A := A) (D := (dC, dI)) (cl := vwCl) 29 (fun u_6 hu_6 H_6 locs_6 ls1 hP1 hD1 hS1 hl1 => ?_) (fun jn_6 => ?_)
  · -- behind 29
    replace hP : va_P (dC, dI) vwCl [(fh, .inr (0, [.int f_isReached, f_least, f_greatest, f_sites, f_maybeNull, f_known, f_lanes, f_shortest, .ref fa_longest, .ref fa_leastAt, .ref fa_greatestAt])), (fa_longest, .inl (cI, 40, .inl fc_longest)), (fa_leastAt, .inl (cI, 480, .inl fc_leastAt)), (fa_greatestAt, .inl (cI, 480, .inl fc_greatestAt))] H_6 := hP1
    replace hD : va_D A [(fh, .inr (0, [.int f_isReached, f_least, f_greatest, f_sites, f_maybeNull, f_known, f_lanes, f_shortest, .ref fa_longest, .ref fa_leastAt, .ref fa_greatestAt])), (fa_longest, .inl (cI, 40, .inl fc_longest)), (fa_leastAt, .inl (cI, 480, .inl fc_leastAt)), (fa_greatestAt, .inl (cI, 480, .inl fc_greatestAt))] := hD1
    replace hS := hS1
    clear hP1 hD1 hS1
    replace hl : lv_has ls1 4 [(3, .int v_3), (0, .ref fh), (1, .int ia), (2, .int pa)] := hl1
    clear hl1
    refine lv_iload_n hx hb dX0_behindSegment_29 rfl (lv_at hl 0 rfl) ?_
    have hP9 := hP.sub (ws' := [(fh, .inr (0, [.int f_isReached, f_least, f_greatest, f_sites, f_maybeNull, f_known, f_lanes, f_shortest, .ref fa_longest, .ref fa_leastAt, .ref fa_greatestAt])), (fa_longest, .inl (cI, 40, .inl fc_longest)), (fa_leastAt, .inl (cI, 480, .inl fc_leastAt)), (fa_greatestAt, .inl (cI, 480, .inl fc_greatestAt))]) [0, 1, 2, 3] rfl
    have hD9 := hD.sub (ws' := [(fh, .inr (0, [.int f_isReached, f_least, f_greatest, f_sites, f_maybeNull, f_known, f_lanes, f_shortest, .ref fa_longest, .ref fa_leastAt, .ref fa_greatestAt])), (fa_longest, .inl (cI, 40, .inl fc_longest)), (fa_leastAt, .inl (cI, 480, .inl fc_leastAt)), (fa_greatestAt, .inl (cI, 480, .inl fc_greatestAt))]) [0, 1, 2, 3] (by decide) rfl
    exact W.iret (v := v_3) hx hb hr (fun t ht hW => ⟨⟨v_3, (), rfl, trivial, by rw [ht]; exact hP9, va_K.moved hW.alike hK, hD9⟩, hS.F ht⟩) hS.2.2 dX0_behindSegment_30
  · -- ahead of 29
    refine lv_icmp_ge (tgt := 29) hx hb dX0_behindSegment_11 (by decide) (fun c_7 => ?_) (fun c_7 => ?_)
    · -- yes
      have k_7 : v_4.toInt ≤ v_3.toInt := ci_ge c_7
      exact jn_6 () (show True from trivial) _ _ _ (hP.sub [0, 1, 2, 3] rfl) (hD.sub [0, 1, 2, 3] (by decide) rfl) hS (lv_sub hl [0, 1, 2, 3] rfl)
    · -- no
      have k_7 : v_3.toInt < v_4.toInt := ci_nge c_7
      refine lv_aload_n hx hb dX0_behindSegment_14 rfl (lv_at hl 1 rfl) ?_
      refine lv_iload_n hx hb dX0_behindSegment_15 rfl (lv_at hl 2 rfl) ?_
      refine lv_iload_n hx hb dX0_behindSegment_16 rfl (lv_at hl 0 rfl) ?_
      have hPc := hP.sub (ws' := [(fh, .inr (0, [.int f_isReached, f_least, f_greatest, f_sites, f_maybeNull, f_known, f_lanes, f_shortest, .ref fa_longest, .ref fa_leastAt, .ref fa_greatestAt])), (fa_leastAt, .inl (cI, 480, .inl fc_leastAt)), (fa_greatestAt, .inl (cI, 480, .inl fc_greatestAt))]) [0, 2, 3] rfl
      have hDc := hD.sub (ws' := [(fh, .inr (0, [.int f_isReached, f_least, f_greatest, f_sites, f_maybeNull, f_known, f_lanes, f_shortest, .ref fa_longest, .ref fa_leastAt, .ref fa_greatestAt])), (fa_leastAt, .inl (cI, 480, .inl fc_leastAt)), (fa_greatestAt, .inl (cI, 480, .inl fc_greatestAt))]) [0, 2, 3] (by decide) rfl
      have hFc := va_free (wc := [(fh, .inr (0, [.int f_isReached, f_least, f_greatest, f_sites, f_maybeNull, f_known, f_lanes, f_shortest, .ref fa_longest, .ref fa_leastAt, .ref fa_greatestAt])), (fa_leastAt, .inl (cI, 480, .inl fc_leastAt)), (fa_greatestAt, .inl (cI, 480, .inl fc_greatestAt))]) hD hS hA [0, 2, 3] rfl
      refine va_calli (va_runV (As := [.int ia, .int v_3]) (rest := []) ⟨hx, hb, hml, hown, hts⟩ (s_X0_beginsSegment l dC dI cI cJ cZ fh f_isReached f_least f_greatest f_sites f_maybeNull f_known f_lanes f_shortest (.ref fa_longest) fa_leastAt fa_greatestAt fc_leastAt fc_greatestAt ia v_3 H_2.size q_f_isReached (by first | assumption | omega) (by first | assumption | omega)) (cwV 2 hts h_X0_behindSegment_X0_beginsSegment_110 rfl rfl rfl (by decide +kernel) ⟨Nat.le_of_ble_eq_true rfl, Nat.le_of_ble_eq_true rfl⟩) ⟨cPre_blind, va_recv hK hPc (ci := 0) (q0 := 0) rfl rfl, cPre_of hK hN hPc hDc⟩ rfl rfl hl.1 rfl (lv_room (Nat.le_of_ble_eq_true rfl)) dX0_behindSegment_17 ⟨Nat.le_of_ble_eq_true rfl, Nat.le_of_ble_eq_true rfl⟩) hS (fun q _ h => hFc q h) hFc (fun r_8 u_8 t_8 H_8 locs_8 ht hvm hw_8 hB hz1 hk1 hS1 => ?_)
      obtain ⟨hP1, hK1, hD1⟩ := hB
      rw [ht] at hP1
      obtain ⟨hP2, hD2⟩ := va_join (wr := [(fa_longest, .inl (cI, 40, .inl fc_longest))]) (w1 := [(fh, .inr (0, [.int f_isReached, f_least, f_greatest, f_sites, f_maybeNull, f_known, f_lanes, f_shortest, .ref fa_longest, .ref fa_leastAt, .ref fa_greatestAt])), (fa_leastAt, .inl (cI, 480, .inl fc_leastAt)), (fa_greatestAt, .inl (cI, 480, .inl fc_greatestAt))]) hP hD [0, 2, 3] [1] rfl rfl (by decide) (by decide) hk1 hFc hP1 hD1
      clear hPc hDc hFc hP1 hD1 hK1 hk1 hz1 hvm ht
      replace hP : va_P (dC, dI) vwCl [(fa_longest, .inl (cI, 40, .inl fc_longest)), (fh, .inr (0, [.int f_isReached, f_least, f_greatest, f_sites, f_maybeNull, f_known, f_lanes, f_shortest, .ref fa_longest, .ref fa_leastAt, .ref fa_greatestAt])), (fa_leastAt, .inl (cI, 480, .inl fc_leastAt)), (fa_greatestAt, .inl (cI, 480, .inl fc_greatestAt))] H_8 := hP2
      replace hD : va_D A [(fa_longest, .inl (cI, 40, .inl fc_longest)), (fh, .inr (0, [.int f_isReached, f_least, f_greatest, f_sites, f_maybeNull, f_known, f_lanes, f_shortest, .ref fa_longest, .ref fa_leastAt, .ref fa_greatestAt])), (fa_leastAt, .inl (cI, 480, .inl fc_leastAt)), (fa_greatestAt, .inl (cI, 480, .inl fc_greatestAt))] := hD2
      replace hS := hS1
      clear hP2 hD2 hS1
      replace hw_8 : (kZ r_8) := hw_8
      have q_r_8 := hw_8
      refine lv_if_ne (tgt := 29) hx hb dX0_behindSegment_20 (by decide) (fun c_9 => ?_) (fun c_9 => ?_)
      · -- yes
        have k_9 : ¬ r_8.toInt = (0 : Int32).toInt := ci_ne c_9
        exact jn_6 () (show True from trivial) _ _ _ (hP.sub [1, 0, 2, 3] rfl) (hD.sub [1, 0, 2, 3] (by decide) rfl) hS (lv_sub hl [0, 1, 2, 3] rfl)
      · -- no
        have k_9 : r_8.toInt = (0 : Int32).toInt := ci_eq c_9
        refine sf_iinc hx hb dX0_behindSegment_23 hl (k := 0) (x := v_3) (w := 1) rfl (by decide) (by decide) ⟨by omega, by omega⟩ (fun v_10 q_v_10 ls1 hl1 => ?_)
        replace hl : lv_has ls1 4 [(3, .int v_10), (0, .ref fh), (1, .int ia), (2, .int pa)] := hl1
        clear hl1
        refine lv_goto (tgt := 4) hx hb dX0_behindSegment_26 (by decide) ?_
        exact ih_2 v_10 (show (1 ≤ v_10.toInt ∧ v_10.toInt ≤ 12) from ⟨by omega, by omega⟩) (by show (12 - v_10.toInt).toNat < (12 - v_3.toInt).toNat; omega) _ _ _ (hP.sub [1, 0, 2, 3] rfl) (hD.sub [1, 0, 2, 3] (by decide) rfl) hS (lv_sub hl [0, 1, 2, 3] rfl)

def v_X0_isSorted : List Cond := .code yX0_isSorted cX0_isSorted 3 (some .boolean) :: ([.fieldLink RX0 39 "ArraySegments$Facts" "longest" "[I", .fieldLink RX0 45 "ArraySegments$Facts" "greatestAt" "[I", .fieldLink RX0 42 "ArraySegments$Facts" "leastAt" "[I"] ++ (wsX00))
theorem inv_X0_isSorted_X0 : ∀ w ∈ wsX00, w ∈ v_X0_isSorted := fun _ h => List.mem_cons_of_mem _ (List.mem_append_right _ (h))
set_option maxRecDepth 20000 in
theorem gd_X0_isSorted : gdL v_X0_isSorted := gdC (gdW (by decide +kernel)) (gdA (gdW (by decide +kernel)) gd_wsX00)
abbrev sw_X0_isSorted (cI cJ cZ : ClassId) (fh : Nat) (f_isReached : Int32) (f_least : Value) (f_greatest : Value) (f_sites : Value) (f_maybeNull : Value) (f_known : Value) (f_lanes : Value) (f_shortest : Value) (fa_longest : Nat) (fa_leastAt : Nat) (fa_greatestAt : Nat) (fc_longest : Nat → Int32) (fc_leastAt : Nat → Int32) (fc_greatestAt : Nat → Int32) (ia : Int32) : va_W := [(fh, .inr (0, [.int f_isReached, f_least, f_greatest, f_sites, f_maybeNull, f_known, f_lanes, f_shortest, .ref fa_longest, .ref fa_leastAt, .ref fa_greatestAt])), (fa_longest, .inl (cI, 40, .inl fc_longest)), (fa_leastAt, .inl (cI, 480, .inl fc_leastAt)), (fa_greatestAt, .inl (cI, 480, .inl fc_greatestAt))]
set_option maxHeartbeats 8000000 in
set_option maxRecDepth 100000 in
theorem s_X0_isSorted (l : Launch) (dC : Nat → ClassId) (dI : Nat → Nat → Nat) (cI cJ cZ : ClassId) (fh : Nat) (f_isReached : Int32) (f_least : Value) (f_greatest : Value) (f_sites : Value) (f_maybeNull : Value) (f_known : Value) (f_lanes : Value) (f_shortest : Value) (fa_longest : Nat) (fa_leastAt : Nat) (fa_greatestAt : Nat) (fc_longest : Nat → Int32) (fc_leastAt : Nat → Int32) (fc_greatestAt : Nat → Int32) (ia : Int32) (sz : Nat) (q_f_isReached : kZ f_isReached) (h_fc_longest : ∀ j : Nat, kLE12 (fc_longest j)) (hy_ia : 0 ≤ ia.toInt ∧ ia.toInt ≤ 39) : Met l yX0_isSorted v_X0_isSorted ({ frames := 0, cells := 0, slots := 0, locals := 0 }) (va_Pc [.ref fh, .int ia] (cPre dC dI cI cJ cZ sz (sw_X0_isSorted cI cJ cZ fh f_isReached f_least f_greatest f_sites f_maybeNull f_known f_lanes f_shortest fa_longest fa_leastAt fa_greatestAt fc_longest fc_leastAt fc_greatestAt ia))) (va_Qi (fun (r : Int32) (u : Unit) => (kZ r)) (fun (u : Unit) => cPost dC dI cI cJ cZ (va_A (sw_X0_isSorted cI cJ cZ fh f_isReached f_least f_greatest f_sites f_maybeNull f_known f_lanes f_shortest fa_longest fa_leastAt fa_greatestAt fc_longest fc_leastAt fc_greatestAt ia) sz) [(fh, .inr (0, [.int f_isReached, f_least, f_greatest, f_sites, f_maybeNull, f_known, f_lanes, f_shortest, .ref fa_longest, .ref fa_leastAt, .ref fa_greatestAt])), (fa_longest, .inl (cI, 40, .inl fc_longest)), (fa_leastAt, .inl (cI, 480, .inl fc_leastAt)), (fa_greatestAt, .inl (cI, 480, .inl fc_greatestAt))]) (va_A (sw_X0_isSorted cI cJ cZ fh f_isReached f_least f_greatest f_sites f_maybeNull f_known f_lanes f_shortest fa_longest fa_leastAt fa_greatestAt fc_longest fc_leastAt fc_greatestAt ia) sz)) 0 0 (va_A (sw_X0_isSorted cI cJ cZ fh f_isReached f_least f_greatest f_sites f_maybeNull f_known f_lanes f_shortest fa_longest fa_leastAt fa_greatestAt fc_longest fc_leastAt fc_greatestAt ia) sz) := by
  refine Met.ofW (cc := cX0_isSorted) (maxL := 3) (ret := (some .boolean)) (by decide) rfl ?_
  intro p e s m args below meth c s₁ B hml hv
  obtain ⟨rfl, hsz, hP, hK, hD0, hN⟩ := hv
  have hx := B.exec
  have hb := B.bytes
  have hr := B.returns
  have hts := atoms_spec (ws := v_X0_isSorted) B.pre
  have hown : s.vm.findClass RX0 = some m.cls := findClass_of_methodNamed B.named
  have hlocks := B.notSynchronized
  subst hsz
  have hD := hD0.self (sz := s.heap.size)
  generalize hAe : va_A (sw_X0_isSorted cI cJ cZ fh f_isReached f_least f_greatest f_sites f_maybeNull f_known f_lanes f_shortest fa_longest fa_leastAt fa_greatestAt fc_longest fc_leastAt fc_greatestAt ia) s.heap.size = A at hD ⊢
  have hA : ∀ q : Nat, s.heap.size ≤ q → A q := fun q h => by rw [← hAe]; exact Or.inr h
  clear hAe hD0
  have hS : va_S A s.heap s.heap [] := va_S.rf
  replace hP : va_P (dC, dI) vwCl [(fh, .inr (0, [.int f_isReached, f_least, f_greatest, f_sites, f_maybeNull, f_known, f_lanes, f_shortest, .ref fa_longest, .ref fa_leastAt, .ref fa_greatestAt])), (fa_longest, .inl (cI, 40, .inl fc_longest)), (fa_leastAt, .inl (cI, 480, .inl fc_leastAt)), (fa_greatestAt, .inl (cI, 480, .inl fc_greatestAt))] s.heap := hP
  replace hD : va_D A [(fh, .inr (0, [.int f_isReached, f_least, f_greatest, f_sites, f_maybeNull, f_known, f_lanes, f_shortest, .ref fa_longest, .ref fa_leastAt, .ref fa_greatestAt])), (fa_longest, .inl (cI, 40, .inl fc_longest)), (fa_leastAt, .inl (cI, 480, .inl fc_leastAt)), (fa_greatestAt, .inl (cI, 480, .inl fc_greatestAt))] := hD
  have hl := lv_entry ([.ref fh, .int ia]) (n := 3) (Nat.le_of_ble_eq_true rfl)
  rw [lg_entry_eq]
  generalize (lg_sl ([.ref fh, .int ia]) ++ List.replicate (3 - (lg_sl ([.ref fh, .int ia])).length) Slot.unset).toArray = ls at hl ⊢
  replace hl : lv_has ls 3 [(0, .ref fh), (1, .int ia)] := hl
  have z_0 : (0 : Int32).toInt = 0 := by decide
  have z_1 : (1 : Int32).toInt = 1 := by decide
  refine lv_iconst (v := 1) hx hb dX0_isSorted_0 (by decide) ?_
  refine lv_istore_n (lv' := [(2, .int 1), (0, .ref fh), (1, .int ia)]) hx hb dX0_isSorted_1 rfl hl (by decide) rfl (fun ls1 hl1 => ?_)
  replace hl := hl1; clear hl1
  refine my_wloop (S := Int32) (fun u => (1 ≤ (u).toInt ∧ (u).toInt ≤ 12)) (fun u => (12 - (u).toInt).toNat) (fun u => [(fh, .inr (0, [.int f_isReached, f_least, f_greatest, f_sites, f_maybeNull, f_known, f_lanes, f_shortest, .ref fa_longest, .ref fa_leastAt, .ref fa_greatestAt])), (fa_longest, .inl (cI, 40, .inl fc_longest)), (fa_leastAt, .inl (cI, 480, .inl fc_leastAt)), (fa_greatestAt, .inl (cI, 480, .inl fc_greatestAt))]) (fun u => [(2, .int (u)), (0, .ref fh), (1, .int ia)]) (H0 := s.heap) (A := A) (D := (dC, dI)) (cl := vwCl) (1 : Int32) (show (1 ≤ (1 : Int32).toInt ∧ (1 : Int32).toInt ≤ 12) from ⟨by omega, by omega⟩) (by exact hP) (by exact hD) hS (by exact hl) (fun u_1 hu_1 ih_1 H_1 locs_1 ls1 hP1 hD1 hS1 hl1 => ?_)
  obtain ⟨v_2, rfl⟩ : ∃ z, z = u_1 := ⟨_, rfl⟩
  replace hu_1 : (1 ≤ v_2.toInt ∧ v_2.toInt ≤ 12) := hu_1
  have q_v_2 := hu_1
  replace hP : va_P (dC, dI) vwCl [(fh, .inr (0, [.int f_isReached, f_least, f_greatest, f_sites, f_maybeNull, f_known, f_lanes, f_shortest, .ref fa_longest, .ref fa_leastAt, .ref fa_greatestAt])), (fa_longest, .inl (cI, 40, .inl fc_longest)), (fa_leastAt, .inl (cI, 480, .inl fc_leastAt)), (fa_greatestAt, .inl (cI, 480, .inl fc_greatestAt))] H_1 := hP1
  replace hD : va_D A [(fh, .inr (0, [.int f_isReached, f_least, f_greatest, f_sites, f_maybeNull, f_known, f_lanes, f_shortest, .ref fa_longest, .ref fa_leastAt, .ref fa_greatestAt])), (fa_longest, .inl (cI, 40, .inl fc_longest)), (fa_leastAt, .inl (cI, 480, .inl fc_leastAt)), (fa_greatestAt, .inl (cI, 480, .inl fc_greatestAt))] := hD1
  replace hS := hS1
  clear hP1 hD1 hS1
  replace hl : lv_has ls1 3 [(2, .int v_2), (0, .ref fh), (1, .int ia)] := hl1
  clear hl1
  refine lv_iload_n hx hb dX0_isSorted_2 rfl (lv_at hl 0 rfl) ?_
  refine lv_aload_n hx hb dX0_isSorted_3 rfl (lv_at hl 1 rfl) ?_
  refine va_get (D := (dC, dI)) (ci := 0) (v := .ref fa_longest) (C := RX0) (T := TX0) (N := 11) hx hb hts inv_X0_isSorted_X0 hown hK hP 0 rfl rfl 8 (by decide) (hts (.fieldLink RX0 39 "ArraySegments$Facts" "longest" "[I") (List.mem_of_getElem? (i := 1) rfl)) (fun _ h9 => h9) rfl dX0_isSorted_4 ?_
  refine lv_iload_n hx hb dX0_isSorted_7 rfl (lv_at hl 2 rfl) ?_
  refine sf_iald kLE12 hx hb hK hP 1 0 rfl rfl h_fc_longest (vp_in_iff.mpr ⟨by omega, by omega⟩) dX0_isSorted_8 (fun v_3 q_v_3 e_v_3 => ?_)
  refine lv_icmp_ge (tgt := 47) hx hb dX0_isSorted_9 (by decide) (fun c_4 => ?_) (fun c_4 => ?_)
  · -- yes
    have k_4 : v_3.toInt ≤ v_2.toInt := ci_ge c_4
    refine lv_iconst (v := 1) hx hb dX0_isSorted_47 (by decide) ?_
    have hP9 := hP.sub (ws' := [(fh, .inr (0, [.int f_isReached, f_least, f_greatest, f_sites, f_maybeNull, f_known, f_lanes, f_shortest, .ref fa_longest, .ref fa_leastAt, .ref fa_greatestAt])), (fa_longest, .inl (cI, 40, .inl fc_longest)), (fa_leastAt, .inl (cI, 480, .inl fc_leastAt)), (fa_greatestAt, .inl (cI, 480, .inl fc_greatestAt))]) [0, 1, 2, 3] rfl
    have hD9 := hD.sub (ws' := [(fh, .inr (0, [.int f_isReached, f_least, f_greatest, f_sites, f_maybeNull, f_known, f_lanes, f_shortest, .ref fa_longest, .ref fa_leastAt, .ref fa_greatestAt])), (fa_longest, .inl (cI, 40, .inl fc_longest)), (fa_leastAt, .inl (cI, 480, .inl fc_leastAt)), (fa_greatestAt, .inl (cI, 480, .inl fc_greatestAt))]) [0, 1, 2, 3] (by decide) rfl
    exact W.zret (v := 1) (ty := .boolean) hx hb hr rfl (fun t ht hW => ⟨⟨1, (), rfl, (show kZ (1 : Int32) from (by decide)), by rw [ht]; exact hP9, va_K.moved hW.alike hK, hD9⟩, hS.F ht⟩) hS.2.2 dX0_isSorted_48
  · -- no
    have k_4 : v_2.toInt < v_3.toInt := ci_nge c_4
    refine lv_aload_n hx hb dX0_isSorted_12 rfl (lv_at hl 1 rfl) ?_
    refine va_get (D := (dC, dI)) (ci := 0) (v := .ref fa_greatestAt) (C := RX0) (T := TX0) (N := 11) hx hb hts inv_X0_isSorted_X0 hown hK hP 0 rfl rfl 10 (by decide) (hts (.fieldLink RX0 45 "ArraySegments$Facts" "greatestAt" "[I") (List.mem_of_getElem? (i := 2) rfl)) (fun _ h9 => h9) rfl dX0_isSorted_13 ?_
    refine lv_iload_n hx hb dX0_isSorted_16 rfl (lv_at hl 2 rfl) ?_
    refine lv_bipush (v := 12) hx hb dX0_isSorted_17 (by decide) ?_
    refine sf_imul (w := ia.toInt) (z := 12) hx hb dX0_isSorted_19 rfl (by decide) ⟨by omega, by omega⟩ (fun v_5 q_v_5 => ?_)
    refine lv_iload_n hx hb dX0_isSorted_20 rfl (lv_at hl 0 rfl) ?_
    refine sf_iadd hx hb dX0_isSorted_21 ⟨by omega, by omega⟩ (fun v_6 q_v_6 => ?_)
    refine lv_iconst (v := 1) hx hb dX0_isSorted_22 (by decide) ?_
    refine sf_isub hx hb dX0_isSorted_23 ⟨by omega, by omega⟩ (fun v_7 q_v_7 => ?_)
    refine sf_iald kT hx hb hK hP 3 0 rfl rfl (fun _ => trivial) (vp_in_iff.mpr ⟨by omega, by omega⟩) dX0_isSorted_24 (fun v_8 q_v_8 e_v_8 => ?_)
    refine lv_aload_n hx hb dX0_isSorted_25 rfl (lv_at hl 1 rfl) ?_
    refine va_get (D := (dC, dI)) (ci := 0) (v := .ref fa_leastAt) (C := RX0) (T := TX0) (N := 11) hx hb hts inv_X0_isSorted_X0 hown hK hP 0 rfl rfl 9 (by decide) (hts (.fieldLink RX0 42 "ArraySegments$Facts" "leastAt" "[I") (List.mem_of_getElem? (i := 3) rfl)) (fun _ h9 => h9) rfl dX0_isSorted_26 ?_
    refine lv_iload_n hx hb dX0_isSorted_29 rfl (lv_at hl 2 rfl) ?_
    refine lv_bipush (v := 12) hx hb dX0_isSorted_30 (by decide) ?_
    refine sf_imul (w := ia.toInt) (z := 12) hx hb dX0_isSorted_32 rfl (by decide) ⟨by omega, by omega⟩ (fun v_9 q_v_9 => ?_)
    refine lv_iload_n hx hb dX0_isSorted_33 rfl (lv_at hl 0 rfl) ?_
    refine sf_iadd hx hb dX0_isSorted_34 ⟨by omega, by omega⟩ (fun v_10 q_v_10 => ?_)
    refine sf_iald kT hx hb hK hP 2 0 rfl rfl (fun _ => trivial) (vp_in_iff.mpr ⟨by omega, by omega⟩) dX0_isSorted_35 (fun v_11 q_v_11 e_v_11 => ?_)
    refine lv_icmp_le (tgt := 41) hx hb dX0_isSorted_36 (by decide) (fun c_12 => ?_) (fun c_12 => ?_)
    · -- yes
      have k_12 : v_8.toInt ≤ v_11.toInt := ci_le c_12
      refine sf_iinc hx hb dX0_isSorted_41 hl (k := 0) (x := v_2) (w := 1) rfl (by decide) (by decide) ⟨by omega, by omega⟩ (fun v_13 q_v_13 ls1 hl1 => ?_)
      replace hl : lv_has ls1 3 [(2, .int v_13), (0, .ref fh), (1, .int ia)] := hl1
      clear hl1
      refine lv_goto (tgt := 2) hx hb dX0_isSorted_44 (by decide) ?_
      exact ih_1 v_13 (show (1 ≤ v_13.toInt ∧ v_13.toInt ≤ 12) from ⟨by omega, by omega⟩) (by show (12 - v_13.toInt).toNat < (12 - v_2.toInt).toNat; omega) _ _ _ (hP.sub [0, 1, 2, 3] rfl) (hD.sub [0, 1, 2, 3] (by decide) rfl) hS (lv_sub hl [0, 1, 2] rfl)
    · -- no
      have k_12 : v_11.toInt < v_8.toInt := ci_nle c_12
      refine lv_iconst (v := 0) hx hb dX0_isSorted_39 (by decide) ?_
      have hP9 := hP.sub (ws' := [(fh, .inr (0, [.int f_isReached, f_least, f_greatest, f_sites, f_maybeNull, f_known, f_lanes, f_shortest, .ref fa_longest, .ref fa_leastAt, .ref fa_greatestAt])), (fa_longest, .inl (cI, 40, .inl fc_longest)), (fa_leastAt, .inl (cI, 480, .inl fc_leastAt)), (fa_greatestAt, .inl (cI, 480, .inl fc_greatestAt))]) [0, 1, 2, 3] rfl
      have hD9 := hD.sub (ws' := [(fh, .inr (0, [.int f_isReached, f_least, f_greatest, f_sites, f_maybeNull, f_known, f_lanes, f_shortest, .ref fa_longest, .ref fa_leastAt, .ref fa_greatestAt])), (fa_longest, .inl (cI, 40, .inl fc_longest)), (fa_leastAt, .inl (cI, 480, .inl fc_leastAt)), (fa_greatestAt, .inl (cI, 480, .inl fc_greatestAt))]) [0, 1, 2, 3] (by decide) rfl
      exact W.zret (v := 0) (ty := .boolean) hx hb hr rfl (fun t ht hW => ⟨⟨0, (), rfl, (show kZ (0 : Int32) from (by decide)), by rw [ht]; exact hP9, va_K.moved hW.alike hK, hD9⟩, hS.F ht⟩) hS.2.2 dX0_isSorted_40

def v_X0_countKnown : List Cond := .code yX0_countKnown cX0_countKnown 3 (some .int) :: ([.fieldLink RX0 30 "ArraySegments$Facts" "known" "[Z"] ++ (wsX00))
theorem inv_X0_countKnown_X0 : ∀ w ∈ wsX00, w ∈ v_X0_countKnown := fun _ h => List.mem_cons_of_mem _ (List.mem_append_right _ (h))
set_option maxRecDepth 20000 in
theorem gd_X0_countKnown : gdL v_X0_countKnown := gdC (gdW (by decide +kernel)) (gdA (gdW (by decide +kernel)) gd_wsX00)
abbrev sw_X0_countKnown (cI cJ cZ : ClassId) (fh : Nat) (f_isReached : Int32) (f_least : Value) (f_greatest : Value) (f_sites : Value) (f_maybeNull : Value) (fa_known : Nat) (f_lanes : Value) (f_shortest : Value) (f_longest : Value) (f_leastAt : Value) (f_greatestAt : Value) (fc_known : Nat → Int32) : va_W := [(fh, .inr (0, [.int f_isReached, f_least, f_greatest, f_sites, f_maybeNull, .ref fa_known, f_lanes, f_shortest, f_longest, f_leastAt, f_greatestAt])), (fa_known, .inl (cZ, 40, .inl fc_known))]
set_option maxHeartbeats 8000000 in
set_option maxRecDepth 100000 in
theorem s_X0_countKnown (l : Launch) (dC : Nat → ClassId) (dI : Nat → Nat → Nat) (cI cJ cZ : ClassId) (fh : Nat) (f_isReached : Int32) (f_least : Value) (f_greatest : Value) (f_sites : Value) (f_maybeNull : Value) (fa_known : Nat) (f_lanes : Value) (f_shortest : Value) (f_longest : Value) (f_leastAt : Value) (f_greatestAt : Value) (fc_known : Nat → Int32) (sz : Nat) (q_f_isReached : kZ f_isReached) (h_fc_known : ∀ j : Nat, kZ (fc_known j)) : Met l yX0_countKnown v_X0_countKnown ({ frames := 0, cells := 0, slots := 0, locals := 0 }) (va_Pc [.ref fh] (cPre dC dI cI cJ cZ sz (sw_X0_countKnown cI cJ cZ fh f_isReached f_least f_greatest f_sites f_maybeNull fa_known f_lanes f_shortest f_longest f_leastAt f_greatestAt fc_known))) (va_Qi (fun (r : Int32) (u : Unit) => True) (fun (u : Unit) => cPost dC dI cI cJ cZ (va_A (sw_X0_countKnown cI cJ cZ fh f_isReached f_least f_greatest f_sites f_maybeNull fa_known f_lanes f_shortest f_longest f_leastAt f_greatestAt fc_known) sz) [(fh, .inr (0, [.int f_isReached, f_least, f_greatest, f_sites, f_maybeNull, .ref fa_known, f_lanes, f_shortest, f_longest, f_leastAt, f_greatestAt])), (fa_known, .inl (cZ, 40, .inl fc_known))]) (va_A (sw_X0_countKnown cI cJ cZ fh f_isReached f_least f_greatest f_sites f_maybeNull fa_known f_lanes f_shortest f_longest f_leastAt f_greatestAt fc_known) sz)) 0 0 (va_A (sw_X0_countKnown cI cJ cZ fh f_isReached f_least f_greatest f_sites f_maybeNull fa_known f_lanes f_shortest f_longest f_leastAt f_greatestAt fc_known) sz) := by
  refine Met.ofW (cc := cX0_countKnown) (maxL := 3) (ret := (some .int)) (by decide) rfl ?_
  intro p e s m args below meth c s₁ B hml hv
  obtain ⟨rfl, hsz, hP, hK, hD0, hN⟩ := hv
  have hx := B.exec
  have hb := B.bytes
  have hr := B.returns
  have hts := atoms_spec (ws := v_X0_countKnown) B.pre
  have hown : s.vm.findClass RX0 = some m.cls := findClass_of_methodNamed B.named
  have hlocks := B.notSynchronized
  subst hsz
  have hD := hD0.self (sz := s.heap.size)
  generalize hAe : va_A (sw_X0_countKnown cI cJ cZ fh f_isReached f_least f_greatest f_sites f_maybeNull fa_known f_lanes f_shortest f_longest f_leastAt f_greatestAt fc_known) s.heap.size = A at hD ⊢
  have hA : ∀ q : Nat, s.heap.size ≤ q → A q := fun q h => by rw [← hAe]; exact Or.inr h
  clear hAe hD0
  have hS : va_S A s.heap s.heap [] := va_S.rf
  replace hP : va_P (dC, dI) vwCl [(fh, .inr (0, [.int f_isReached, f_least, f_greatest, f_sites, f_maybeNull, .ref fa_known, f_lanes, f_shortest, f_longest, f_leastAt, f_greatestAt])), (fa_known, .inl (cZ, 40, .inl fc_known))] s.heap := hP
  replace hD : va_D A [(fh, .inr (0, [.int f_isReached, f_least, f_greatest, f_sites, f_maybeNull, .ref fa_known, f_lanes, f_shortest, f_longest, f_leastAt, f_greatestAt])), (fa_known, .inl (cZ, 40, .inl fc_known))] := hD
  have hl := lv_entry ([.ref fh]) (n := 3) (Nat.le_of_ble_eq_true rfl)
  rw [lg_entry_eq]
  generalize (lg_sl ([.ref fh]) ++ List.replicate (3 - (lg_sl ([.ref fh])).length) Slot.unset).toArray = ls at hl ⊢
  replace hl : lv_has ls 3 [(0, .ref fh)] := hl
  have z_0 : (0 : Int32).toInt = 0 := by decide
  have z_1 : (1 : Int32).toInt = 1 := by decide
  have z_40 : (40 : Int32).toInt = 40 := by decide
  refine lv_iconst (v := 0) hx hb dX0_countKnown_0 (by decide) ?_
  refine lv_istore_n (lv' := [(1, .int 0), (0, .ref fh)]) hx hb dX0_countKnown_1 rfl hl (by decide) rfl (fun ls1 hl1 => ?_)
  replace hl := hl1; clear hl1
  refine lv_iconst (v := 0) hx hb dX0_countKnown_2 (by decide) ?_
  refine lv_istore_n (lv' := [(2, .int 0), (1, .int 0), (0, .ref fh)]) hx hb dX0_countKnown_3 rfl hl (by decide) rfl (fun ls1 hl1 => ?_)
  replace hl := hl1; clear hl1
  refine my_wloop (S := Int32 × Int32) (fun u => (0 ≤ (u.1).toInt ∧ (u.1).toInt ≤ 40)) (fun u => (40 - (u.1).toInt).toNat) (fun u => [(fh, .inr (0, [.int f_isReached, f_least, f_greatest, f_sites, f_maybeNull, .ref fa_known, f_lanes, f_shortest, f_longest, f_leastAt, f_greatestAt])), (fa_known, .inl (cZ, 40, .inl fc_known))]) (fun u => [(2, .int (u.1)), (1, .int (u.2)), (0, .ref fh)]) (H0 := s.heap) (A := A) (D := (dC, dI)) (cl := vwCl) ((0 : Int32), (0 : Int32)) (show (0 ≤ (0 : Int32).toInt ∧ (0 : Int32).toInt ≤ 40) from ⟨by omega, by omega⟩) (by exact hP) (by exact hD) hS (by exact hl) (fun u_1 hu_1 ih_1 H_1 locs_1 ls1 hP1 hD1 hS1 hl1 => ?_)
  obtain ⟨v_2, v_3⟩ := u_1
  replace hu_1 : (0 ≤ v_2.toInt ∧ v_2.toInt ≤ 40) := hu_1
  have q_v_2 := hu_1
  replace hP : va_P (dC, dI) vwCl [(fh, .inr (0, [.int f_isReached, f_least, f_greatest, f_sites, f_maybeNull, .ref fa_known, f_lanes, f_shortest, f_longest, f_leastAt, f_greatestAt])), (fa_known, .inl (cZ, 40, .inl fc_known))] H_1 := hP1
  replace hD : va_D A [(fh, .inr (0, [.int f_isReached, f_least, f_greatest, f_sites, f_maybeNull, .ref fa_known, f_lanes, f_shortest, f_longest, f_leastAt, f_greatestAt])), (fa_known, .inl (cZ, 40, .inl fc_known))] := hD1
  replace hS := hS1
  clear hP1 hD1 hS1
  replace hl : lv_has ls1 3 [(2, .int v_2), (1, .int v_3), (0, .ref fh)] := hl1
  clear hl1
  refine lv_iload_n hx hb dX0_countKnown_4 rfl (lv_at hl 0 rfl) ?_
  refine lv_bipush (v := 40) hx hb dX0_countKnown_5 (by decide) ?_
  refine lv_icmp_ge (tgt := 28) hx hb dX0_countKnown_7 (by decide) (fun c_4 => ?_) (fun c_4 => ?_)
  · -- yes
    have k_4 : (40 : Int32).toInt ≤ v_2.toInt := ci_ge c_4
    refine lv_iload_n hx hb dX0_countKnown_28 rfl (lv_at hl 1 rfl) ?_
    have hP9 := hP.sub (ws' := [(fh, .inr (0, [.int f_isReached, f_least, f_greatest, f_sites, f_maybeNull, .ref fa_known, f_lanes, f_shortest, f_longest, f_leastAt, f_greatestAt])), (fa_known, .inl (cZ, 40, .inl fc_known))]) [0, 1] rfl
    have hD9 := hD.sub (ws' := [(fh, .inr (0, [.int f_isReached, f_least, f_greatest, f_sites, f_maybeNull, .ref fa_known, f_lanes, f_shortest, f_longest, f_leastAt, f_greatestAt])), (fa_known, .inl (cZ, 40, .inl fc_known))]) [0, 1] (by decide) rfl
    exact W.iret (v := v_3) hx hb hr (fun t ht hW => ⟨⟨v_3, (), rfl, trivial, by rw [ht]; exact hP9, va_K.moved hW.alike hK, hD9⟩, hS.F ht⟩) hS.2.2 dX0_countKnown_29
  · -- no
    have k_4 : v_2.toInt < (40 : Int32).toInt := ci_nge c_4
    refine lv_aload_n hx hb dX0_countKnown_10 rfl (lv_at hl 2 rfl) ?_
    refine va_get (D := (dC, dI)) (ci := 0) (v := .ref fa_known) (C := RX0) (T := TX0) (N := 11) hx hb hts inv_X0_countKnown_X0 hown hK hP 0 rfl rfl 5 (by decide) (hts (.fieldLink RX0 30 "ArraySegments$Facts" "known" "[Z") (List.mem_of_getElem? (i := 1) rfl)) (fun _ h9 => h9) rfl dX0_countKnown_11 ?_
    refine lv_iload_n hx hb dX0_countKnown_14 rfl (lv_at hl 0 rfl) ?_
    refine sf_zald kZ hx hb hK hP 1 2 rfl rfl h_fc_known (vp_in_iff.mpr ⟨by omega, by omega⟩) dX0_countKnown_15 (fun v_5 q_v_5 e_v_5 => ?_)
    refine my_join (S := Int32) (fun u => True) (fun u => [(fh, .inr (0, [.int f_isReached, f_least, f_greatest, f_sites, f_maybeNull, .ref fa_known, f_lanes, f_shortest, f_longest, f_leastAt, f_greatestAt])), (fa_known, .inl (cZ, 40, .inl fc_known))]) (fun u => [(2, .int v_2), (1, .int (u)), (0, .ref fh)]) (fun u => []) (nL := 3) (H0 := s.heap) (A := A) (D := (dC, dI)) (cl := vwCl) 22 (fun u_7 hu_7 H_7 locs_7 ls1 hP1 hD1 hS1 hl1 => ?_) (fun jn_7 => ?_)
    · -- behind 22
      obtain ⟨v_8, rfl⟩ : ∃ z, z = u_7 := ⟨_, rfl⟩
      replace hP : va_P (dC, dI) vwCl [(fh, .inr (0, [.int f_isReached, f_least, f_greatest, f_sites, f_maybeNull, .ref fa_known, f_lanes, f_shortest, f_longest, f_leastAt, f_greatestAt])), (fa_known, .inl (cZ, 40, .inl fc_known))] H_7 := hP1
      replace hD : va_D A [(fh, .inr (0, [.int f_isReached, f_least, f_greatest, f_sites, f_maybeNull, .ref fa_known, f_lanes, f_shortest, f_longest, f_leastAt, f_greatestAt])), (fa_known, .inl (cZ, 40, .inl fc_known))] := hD1
      replace hS := hS1
      clear hP1 hD1 hS1
      replace hl : lv_has ls1 3 [(2, .int v_2), (1, .int v_8), (0, .ref fh)] := hl1
      clear hl1
      refine sf_iinc hx hb dX0_countKnown_22 hl (k := 0) (x := v_2) (w := 1) rfl (by decide) (by decide) ⟨by omega, by omega⟩ (fun v_9 q_v_9 ls1 hl1 => ?_)
      replace hl : lv_has ls1 3 [(2, .int v_9), (1, .int v_8), (0, .ref fh)] := hl1
      clear hl1
      refine lv_goto (tgt := 4) hx hb dX0_countKnown_25 (by decide) ?_
      exact ih_1 (v_9, v_8) (show (0 ≤ v_9.toInt ∧ v_9.toInt ≤ 40) from ⟨by omega, by omega⟩) (by show (40 - v_9.toInt).toNat < (40 - v_2.toInt).toNat; omega) _ _ _ (hP.sub [0, 1] rfl) (hD.sub [0, 1] (by decide) rfl) hS (lv_sub hl [0, 1, 2] rfl)
    · -- ahead of 22
      refine lv_if_eq (tgt := 22) hx hb dX0_countKnown_16 (by decide) (fun c_10 => ?_) (fun c_10 => ?_)
      · -- yes
        have k_10 : v_5.toInt = (0 : Int32).toInt := ci_eq c_10
        exact jn_7 v_3 (show True from trivial) _ _ _ (hP.sub [0, 1] rfl) (hD.sub [0, 1] (by decide) rfl) hS (lv_sub hl [0, 1, 2] rfl)
      · -- no
        have k_10 : ¬ v_5.toInt = (0 : Int32).toInt := ci_ne c_10
        refine sf_iincA hx hb dX0_countKnown_19 hl (k := 1) (x := v_3) rfl (by decide) (fun v_11 ls1 hl1 => ?_)
        replace hl : lv_has ls1 3 [(1, .int v_11), (2, .int v_2), (0, .ref fh)] := hl1
        clear hl1
        exact jn_7 v_11 (show True from trivial) _ _ _ (hP.sub [0, 1] rfl) (hD.sub [0, 1] (by decide) rfl) hS (lv_sub hl [1, 0, 2] rfl)
