def v_X0_narrow : List Cond := .code yX0_narrow cX0_narrow 4 none :: ([.fieldLink RX0 15 "ArraySegments$Facts" "least" "[I", .methodLink RX0 68 Lib.Math.max.name, .static Lib.Math.max.name, .initialized "java/lang/Math", .code Lib.Math.max.name Lib.Math.max.code 2 (some .int), .fieldLink RX0 19 "ArraySegments$Facts" "greatest" "[I", .methodLink RX0 62 Lib.Math.min.name, .static Lib.Math.min.name, .code Lib.Math.min.name Lib.Math.min.code 2 (some .int), .methodLink RX0 48 yX0_setSpan, .instanceMethod yX0_setSpan, .selects RX0 yX0_setSpan yX0_setSpan, .initialized RX0, .fieldLink RX0 9 "ArraySegments$Facts" "isReached" "Z"] ++ (wsX00 ++ (v_X0_setSpan)))
theorem inv_X0_narrow_X0 : ∀ w ∈ wsX00, w ∈ v_X0_narrow := fun _ h => List.mem_cons_of_mem _ (List.mem_append_right _ (List.mem_append_left _ h))
theorem im_X0_narrow_X0_setSpan : ∀ w ∈ v_X0_setSpan, w ∈ v_X0_narrow := fun _ h => List.mem_cons_of_mem _ (List.mem_append_right _ (List.mem_append_right _ (h)))
set_option maxRecDepth 20000 in
theorem gd_X0_narrow : gdL v_X0_narrow := gdC (gdW (by decide +kernel)) (gdA (gdW (by decide +kernel)) (gdA gd_wsX00 gd_X0_setSpan))
set_option maxRecDepth 20000 in
theorem h_X0_narrow_X0_setSpan_48 : GoodIn v_X0_narrow (wsV RX0 48 RX0 yX0_setSpan v_X0_setSpan) := gdI [10, 11, 12, 13] rfl (by decide +kernel) (im_X0_narrow_X0_setSpan) gd_X0_setSpan
abbrev sw_X0_narrow (cI cJ cZ : ClassId) (fh : Nat) (f_isReached : Int32) (fa_least : Nat) (fa_greatest : Nat) (f_sites : Value) (f_maybeNull : Value) (f_known : Value) (f_lanes : Value) (f_shortest : Value) (f_longest : Value) (f_leastAt : Value) (f_greatestAt : Value) (fc_least : Nat → Int32) (fc_greatest : Nat → Int32) (xa : Int32) (loa : Int32) (hia : Int32) : va_W := [(fh, .inr (0, [.int f_isReached, .ref fa_least, .ref fa_greatest, f_sites, f_maybeNull, f_known, f_lanes, f_shortest, f_longest, f_leastAt, f_greatestAt])), (fa_least, .inl (cI, 6, .inl fc_least)), (fa_greatest, .inl (cI, 6, .inl fc_greatest))]
set_option maxHeartbeats 8000000 in
set_option maxRecDepth 100000 in
theorem s_X0_narrow (l : Launch) (dC : Nat → ClassId) (dI : Nat → Nat → Nat) (cI cJ cZ : ClassId) (fh : Nat) (f_isReached : Int32) (fa_least : Nat) (fa_greatest : Nat) (f_sites : Value) (f_maybeNull : Value) (f_known : Value) (f_lanes : Value) (f_shortest : Value) (f_longest : Value) (f_leastAt : Value) (f_greatestAt : Value) (fc_least : Nat → Int32) (fc_greatest : Nat → Int32) (xa : Int32) (loa : Int32) (hia : Int32) (sz : Nat) (q_f_isReached : kZ f_isReached) (hy_xa : V6 xa) : Met l yX0_narrow v_X0_narrow ({ frames := 1, cells := 0, slots := 0, locals := 23 }) (va_Pc [.ref fh, .int xa, .int loa, .int hia] (cPre dC dI cI cJ cZ sz (sw_X0_narrow cI cJ cZ fh f_isReached fa_least fa_greatest f_sites f_maybeNull f_known f_lanes f_shortest f_longest f_leastAt f_greatestAt fc_least fc_greatest xa loa hia))) (va_Qv (fun (u : Int32 × (Nat → Int32) × (Nat → Int32)) => (kZ (u.1)) ∧ (((u.2.2) (xa).toNatClampNeg).toInt ≤ hia.toInt) ∧ (loa.toInt ≤ ((u.2.1) (xa).toNatClampNeg).toInt) ∧ (∀ j : Nat, (j = (xa).toNatClampNeg → (fc_least j).toInt ≤ ((u.2.1) j).toInt ∧ loa.toInt ≤ ((u.2.1) j).toInt ∧ (((u.2.1) j).toInt = (fc_least j).toInt ∨ ((u.2.1) j).toInt = loa.toInt)) ∧ (¬ j = (xa).toNatClampNeg → ((u.2.1) j).toInt = (fc_least j).toInt)) ∧ (∀ j : Nat, (j = (xa).toNatClampNeg → ((u.2.2) j).toInt ≤ (fc_greatest j).toInt ∧ ((u.2.2) j).toInt ≤ hia.toInt ∧ (((u.2.2) j).toInt = (fc_greatest j).toInt ∨ ((u.2.2) j).toInt = hia.toInt)) ∧ (¬ j = (xa).toNatClampNeg → ((u.2.2) j).toInt = (fc_greatest j).toInt)) ∧ (¬ f_isReached.toInt = 0 ∧ ((u.2.1) (xa).toNatClampNeg).toInt ≤ ((u.2.2) (xa).toNatClampNeg).toInt → ¬ (u.1).toInt = 0)) (fun (u : Int32 × (Nat → Int32) × (Nat → Int32)) => cPost dC dI cI cJ cZ (va_A (sw_X0_narrow cI cJ cZ fh f_isReached fa_least fa_greatest f_sites f_maybeNull f_known f_lanes f_shortest f_longest f_leastAt f_greatestAt fc_least fc_greatest xa loa hia) sz) [(fh, .inr (0, [.int (u.1), .ref fa_least, .ref fa_greatest, f_sites, f_maybeNull, f_known, f_lanes, f_shortest, f_longest, f_leastAt, f_greatestAt])), (fa_least, .inl (cI, 6, .inl (u.2.1))), (fa_greatest, .inl (cI, 6, .inl (u.2.2)))]) (va_A (sw_X0_narrow cI cJ cZ fh f_isReached fa_least fa_greatest f_sites f_maybeNull f_known f_lanes f_shortest f_longest f_leastAt f_greatestAt fc_least fc_greatest xa loa hia) sz)) 0 0 (va_A (sw_X0_narrow cI cJ cZ fh f_isReached fa_least fa_greatest f_sites f_maybeNull f_known f_lanes f_shortest f_longest f_leastAt f_greatestAt fc_least fc_greatest xa loa hia) sz) := by
  refine Met.ofW (cc := cX0_narrow) (maxL := 4) (ret := none) (by decide) rfl ?_
  intro p e s m args below meth c s₁ B hml hv
  obtain ⟨rfl, hsz, hP, hK, hD0, hN⟩ := hv
  have hx := B.exec
  have hb := B.bytes
  have hr := B.returns
  have hts := atoms_spec (ws := v_X0_narrow) B.pre
  have hown : s.vm.findClass RX0 = some m.cls := findClass_of_methodNamed B.named
  have hlocks := B.notSynchronized
  subst hsz
  have hD := hD0.self (sz := s.heap.size)
  generalize hAe : va_A (sw_X0_narrow cI cJ cZ fh f_isReached fa_least fa_greatest f_sites f_maybeNull f_known f_lanes f_shortest f_longest f_leastAt f_greatestAt fc_least fc_greatest xa loa hia) s.heap.size = A at hD ⊢
  have hA : ∀ q : Nat, s.heap.size ≤ q → A q := fun q h => by rw [← hAe]; exact Or.inr h
  clear hAe hD0
  have hS : va_S A s.heap s.heap [] := va_S.rf
  replace hP : va_P (dC, dI) vwCl [(fh, .inr (0, [.int f_isReached, .ref fa_least, .ref fa_greatest, f_sites, f_maybeNull, f_known, f_lanes, f_shortest, f_longest, f_leastAt, f_greatestAt])), (fa_least, .inl (cI, 6, .inl fc_least)), (fa_greatest, .inl (cI, 6, .inl fc_greatest))] s.heap := hP
  replace hD : va_D A [(fh, .inr (0, [.int f_isReached, .ref fa_least, .ref fa_greatest, f_sites, f_maybeNull, f_known, f_lanes, f_shortest, f_longest, f_leastAt, f_greatestAt])), (fa_least, .inl (cI, 6, .inl fc_least)), (fa_greatest, .inl (cI, 6, .inl fc_greatest))] := hD
  have hl := lv_entry ([.ref fh, .int xa, .int loa, .int hia]) (n := 4) (Nat.le_of_ble_eq_true rfl)
  rw [lg_entry_eq]
  generalize (lg_sl ([.ref fh, .int xa, .int loa, .int hia]) ++ List.replicate (4 - (lg_sl ([.ref fh, .int xa, .int loa, .int hia])).length) Slot.unset).toArray = ls at hl ⊢
  replace hl : lv_has ls 4 [(0, .ref fh), (1, .int xa), (2, .int loa), (3, .int hia)] := hl
  have z_0 : (0 : Int32).toInt = 0 := by decide
  have z_1 : (1 : Int32).toInt = 1 := by decide
  refine lv_aload_n hx hb dX0_narrow_0 rfl (lv_at hl 0 rfl) ?_
  refine lv_iload_n hx hb dX0_narrow_1 rfl (lv_at hl 1 rfl) ?_
  refine lv_aload_n hx hb dX0_narrow_2 rfl (lv_at hl 0 rfl) ?_
  refine va_get (D := (dC, dI)) (ci := 0) (v := .ref fa_least) (C := RX0) (T := TX0) (N := 11) hx hb hts inv_X0_narrow_X0 hown hK hP 0 rfl rfl 1 (by decide) (hts (.fieldLink RX0 15 "ArraySegments$Facts" "least" "[I") (List.mem_of_getElem? (i := 1) rfl)) (fun _ h9 => h9) rfl dX0_narrow_3 ?_
  refine lv_iload_n hx hb dX0_narrow_6 rfl (lv_at hl 1 rfl) ?_
  refine sf_iald kT hx hb hK hP 1 0 rfl rfl (fun _ => trivial) (vp_in_iff.mpr ⟨by omega, by omega⟩) dX0_narrow_7 (fun v_1 q_v_1 e_v_1 => ?_)
  have et_v_1 : v_1.toInt = (fc_least (xa).toNatClampNeg).toInt := by rw [e_v_1]
  have ni_2 := nn_cl (z := xa) (by omega)
  have ir_v_1 := i32r v_1
  refine lv_iload_n hx hb dX0_narrow_8 rfl (lv_at hl 2 rfl) ?_
  have ir_4 := i32r v_1
  have ir_5 := i32r loa
  refine sf_mmax hx hb (by rw [hml]; exact hl.1.symm) hown (hts (.methodLink RX0 68 Lib.Math.max.name) (List.mem_of_getElem? (i := 2) rfl)) (hts (.static Lib.Math.max.name) (List.mem_of_getElem? (i := 3) rfl)) (hts (.initialized "java/lang/Math") (List.mem_of_getElem? (i := 4) rfl)) (hts (.code Lib.Math.max.name Lib.Math.max.code 2 (some .int)) (List.mem_of_getElem? (i := 5) rfl)) (Nat.le_of_ble_eq_true rfl) (Nat.le_of_ble_eq_true rfl) (Nat.le_of_ble_eq_true rfl) (Nat.le_of_ble_eq_true rfl) dX0_narrow_9 (fun v_3 q_v_3 => ?_)
  refine lv_aload_n hx hb dX0_narrow_12 rfl (lv_at hl 0 rfl) ?_
  refine va_get (D := (dC, dI)) (ci := 0) (v := .ref fa_greatest) (C := RX0) (T := TX0) (N := 11) hx hb hts inv_X0_narrow_X0 hown hK hP 0 rfl rfl 2 (by decide) (hts (.fieldLink RX0 19 "ArraySegments$Facts" "greatest" "[I") (List.mem_of_getElem? (i := 6) rfl)) (fun _ h9 => h9) rfl dX0_narrow_13 ?_
  refine lv_iload_n hx hb dX0_narrow_16 rfl (lv_at hl 1 rfl) ?_
  refine sf_iald kT hx hb hK hP 2 0 rfl rfl (fun _ => trivial) (vp_in_iff.mpr ⟨by omega, by omega⟩) dX0_narrow_17 (fun v_6 q_v_6 e_v_6 => ?_)
  have et_v_6 : v_6.toInt = (fc_greatest (xa).toNatClampNeg).toInt := by rw [e_v_6]
  have ni_7 := nn_cl (z := xa) (by omega)
  have ir_v_6 := i32r v_6
  refine lv_iload_n hx hb dX0_narrow_18 rfl (lv_at hl 3 rfl) ?_
  have ir_9 := i32r v_6
  have ir_10 := i32r hia
  refine sf_mmin hx hb (by rw [hml]; exact hl.1.symm) hown (hts (.methodLink RX0 62 Lib.Math.min.name) (List.mem_of_getElem? (i := 7) rfl)) (hts (.static Lib.Math.min.name) (List.mem_of_getElem? (i := 8) rfl)) (hts (.initialized "java/lang/Math") (List.mem_of_getElem? (i := 4) rfl)) (hts (.code Lib.Math.min.name Lib.Math.min.code 2 (some .int)) (List.mem_of_getElem? (i := 9) rfl)) (Nat.le_of_ble_eq_true rfl) (Nat.le_of_ble_eq_true rfl) (Nat.le_of_ble_eq_true rfl) (Nat.le_of_ble_eq_true rfl) dX0_narrow_19 (fun v_8 q_v_8 => ?_)
  have hPc := hP.sub (ws' := [(fh, .inr (0, [.int f_isReached, .ref fa_least, .ref fa_greatest, f_sites, f_maybeNull, f_known, f_lanes, f_shortest, f_longest, f_leastAt, f_greatestAt])), (fa_least, .inl (cI, 6, .inl fc_least)), (fa_greatest, .inl (cI, 6, .inl fc_greatest))]) [0, 1, 2] rfl
  have hDc := hD.sub (ws' := [(fh, .inr (0, [.int f_isReached, .ref fa_least, .ref fa_greatest, f_sites, f_maybeNull, f_known, f_lanes, f_shortest, f_longest, f_leastAt, f_greatestAt])), (fa_least, .inl (cI, 6, .inl fc_least)), (fa_greatest, .inl (cI, 6, .inl fc_greatest))]) [0, 1, 2] (by decide) rfl
  have hFc := va_free (wc := [(fh, .inr (0, [.int f_isReached, .ref fa_least, .ref fa_greatest, f_sites, f_maybeNull, f_known, f_lanes, f_shortest, f_longest, f_leastAt, f_greatestAt])), (fa_least, .inl (cI, 6, .inl fc_least)), (fa_greatest, .inl (cI, 6, .inl fc_greatest))]) hD hS hA [0, 1, 2] rfl
  refine va_callv (va_runV (As := [.int xa, .int v_3, .int v_8]) (rest := []) ⟨hx, hb, hml, hown, hts⟩ (s_X0_setSpan l dC dI cI cJ cZ fh f_isReached fa_least fa_greatest f_sites f_maybeNull f_known f_lanes f_shortest f_longest f_leastAt f_greatestAt fc_least fc_greatest xa v_3 v_8 s.heap.size q_f_isReached (by first | assumption | omega)) (cwV 3 hts h_X0_narrow_X0_setSpan_48 rfl rfl rfl (by decide +kernel) ⟨Nat.le_of_ble_eq_true rfl, Nat.le_of_ble_eq_true rfl⟩) ⟨cPre_blind, va_recv hK hPc (ci := 0) (q0 := 0) rfl rfl, cPre_of hK hN hPc hDc⟩ rfl rfl hl.1 rfl (lv_room (Nat.le_of_ble_eq_true rfl)) dX0_narrow_22 ⟨Nat.le_of_ble_eq_true rfl, Nat.le_of_ble_eq_true rfl⟩) hS (fun q _ h => hFc q h) hFc (fun u_11 t_11 H_11 locs_11 ht hvm hw_11 hB hz1 hk1 hS1 => ?_)
  obtain ⟨f_12, f_13⟩ := u_11
  obtain ⟨hP1, hK1, hD1⟩ := hB
  rw [ht] at hP1
  obtain ⟨hP2, hD2⟩ := va_join (wr := []) (w1 := [(fh, .inr (0, [.int f_isReached, .ref fa_least, .ref fa_greatest, f_sites, f_maybeNull, f_known, f_lanes, f_shortest, f_longest, f_leastAt, f_greatestAt])), (fa_least, .inl (cI, 6, .inl f_12)), (fa_greatest, .inl (cI, 6, .inl f_13))]) hP hD [0, 1, 2] [] rfl rfl (by decide) (by decide) hk1 hFc hP1 hD1
  clear hPc hDc hFc hP1 hD1 hK1 hk1 hz1 hvm ht
  replace hP : va_P (dC, dI) vwCl [(fh, .inr (0, [.int f_isReached, .ref fa_least, .ref fa_greatest, f_sites, f_maybeNull, f_known, f_lanes, f_shortest, f_longest, f_leastAt, f_greatestAt])), (fa_least, .inl (cI, 6, .inl f_12)), (fa_greatest, .inl (cI, 6, .inl f_13))] H_11 := hP2
  replace hD : va_D A [(fh, .inr (0, [.int f_isReached, .ref fa_least, .ref fa_greatest, f_sites, f_maybeNull, f_known, f_lanes, f_shortest, f_longest, f_leastAt, f_greatestAt])), (fa_least, .inl (cI, 6, .inl f_12)), (fa_greatest, .inl (cI, 6, .inl f_13))] := hD2
  replace hS := hS1
  clear hP2 hD2 hS1
  replace hw_11 : (upI fc_least (xa).toNatClampNeg v_3.toInt f_12) ∧ (upI fc_greatest (xa).toNatClampNeg v_8.toInt f_13) := hw_11
  obtain ⟨x_11_0, x_11_1⟩ := hw_11
  refine lv_aload_n hx hb dX0_narrow_25 rfl (lv_at hl 0 rfl) ?_
  refine va_get (D := (dC, dI)) (ci := 0) (v := .ref fa_least) (C := RX0) (T := TX0) (N := 11) hx hb hts inv_X0_narrow_X0 hown hK hP 0 rfl rfl 1 (by decide) (hts (.fieldLink RX0 15 "ArraySegments$Facts" "least" "[I") (List.mem_of_getElem? (i := 1) rfl)) (fun _ h9 => h9) rfl dX0_narrow_26 ?_
  refine lv_iload_n hx hb dX0_narrow_29 rfl (lv_at hl 1 rfl) ?_
  refine sf_iald kT hx hb hK hP 1 0 rfl rfl (fun _ => trivial) (vp_in_iff.mpr ⟨by omega, by omega⟩) dX0_narrow_30 (fun v_14 q_v_14 e_v_14 => ?_)
  have et_v_14 : v_14.toInt = (f_12 (xa).toNatClampNeg).toInt := by rw [e_v_14]
  have ni_15 := nn_cl (z := xa) (by omega)
  have ir_v_14 := i32r v_14
  refine lv_aload_n hx hb dX0_narrow_31 rfl (lv_at hl 0 rfl) ?_
  refine va_get (D := (dC, dI)) (ci := 0) (v := .ref fa_greatest) (C := RX0) (T := TX0) (N := 11) hx hb hts inv_X0_narrow_X0 hown hK hP 0 rfl rfl 2 (by decide) (hts (.fieldLink RX0 19 "ArraySegments$Facts" "greatest" "[I") (List.mem_of_getElem? (i := 6) rfl)) (fun _ h9 => h9) rfl dX0_narrow_32 ?_
  refine lv_iload_n hx hb dX0_narrow_35 rfl (lv_at hl 1 rfl) ?_
  refine sf_iald kT hx hb hK hP 2 0 rfl rfl (fun _ => trivial) (vp_in_iff.mpr ⟨by omega, by omega⟩) dX0_narrow_36 (fun v_16 q_v_16 e_v_16 => ?_)
  have et_v_16 : v_16.toInt = (f_13 (xa).toNatClampNeg).toInt := by rw [e_v_16]
  have ni_17 := nn_cl (z := xa) (by omega)
  have ir_v_16 := i32r v_16
  refine lv_icmp_le (tgt := 45) hx hb dX0_narrow_37 (by decide) (fun c_18 => ?_) (fun c_18 => ?_)
  · -- yes
    have k_18 : v_14.toInt ≤ v_16.toInt := ci_le c_18
    have hP9 := hP.sub (ws' := [(fh, .inr (0, [.int f_isReached, .ref fa_least, .ref fa_greatest, f_sites, f_maybeNull, f_known, f_lanes, f_shortest, f_longest, f_leastAt, f_greatestAt])), (fa_least, .inl (cI, 6, .inl f_12)), (fa_greatest, .inl (cI, 6, .inl f_13))]) [0, 1, 2] rfl
    have hD9 := hD.sub (ws' := [(fh, .inr (0, [.int f_isReached, .ref fa_least, .ref fa_greatest, f_sites, f_maybeNull, f_known, f_lanes, f_shortest, f_longest, f_leastAt, f_greatestAt])), (fa_least, .inl (cI, 6, .inl f_12)), (fa_greatest, .inl (cI, 6, .inl f_13))]) [0, 1, 2] (by decide) rfl
    exact W.vret hx hb hr (fun t ht hW => ⟨⟨(f_isReached, f_12, f_13), rfl, ⟨(show kZ f_isReached from q_f_isReached), (show (f_13 (xa).toNatClampNeg).toInt ≤ hia.toInt from (by have b0 := x_11_1 (xa).toNatClampNeg; omega)), (show loa.toInt ≤ (f_12 (xa).toNatClampNeg).toInt from (by have b0 := x_11_0 (xa).toNatClampNeg; omega)), (show ∀ j : Nat, (j = (xa).toNatClampNeg → (fc_least j).toInt ≤ (f_12 j).toInt ∧ loa.toInt ≤ (f_12 j).toInt ∧ ((f_12 j).toInt = (fc_least j).toInt ∨ (f_12 j).toInt = loa.toInt)) ∧ (¬ j = (xa).toNatClampNeg → (f_12 j).toInt = (fc_least j).toInt) from (fun j => by have b0 := x_11_0 j; by_cases hq : j = (xa).toNatClampNeg; (· subst hq; omega); (· omega))), (show ∀ j : Nat, (j = (xa).toNatClampNeg → (f_13 j).toInt ≤ (fc_greatest j).toInt ∧ (f_13 j).toInt ≤ hia.toInt ∧ ((f_13 j).toInt = (fc_greatest j).toInt ∨ (f_13 j).toInt = hia.toInt)) ∧ (¬ j = (xa).toNatClampNeg → (f_13 j).toInt = (fc_greatest j).toInt) from (fun j => by have b0 := x_11_1 j; by_cases hq : j = (xa).toNatClampNeg; (· subst hq; omega); (· omega))), (show ¬ f_isReached.toInt = 0 ∧ (f_12 (xa).toNatClampNeg).toInt ≤ (f_13 (xa).toNatClampNeg).toInt → ¬ f_isReached.toInt = 0 from (by omega))⟩, by rw [ht]; exact hP9, va_K.moved hW.alike hK, hD9⟩, hS.F ht⟩) hS.2.2 dX0_narrow_45
  · -- no
    have k_18 : v_16.toInt < v_14.toInt := ci_nle c_18
    refine lv_aload_n hx hb dX0_narrow_40 rfl (lv_at hl 0 rfl) ?_
    refine lv_iconst (v := 0) hx hb dX0_narrow_41 (by decide) ?_
    refine va_put (D := (dC, dI)) (ci := 0) (v := .int 0) (ty := .boolean) (C := RX0) (T := TX0) (N := 11) hx hb hts inv_X0_narrow_X0 tyX0 tyX0_ok nmX0 hown hK hP hD hS 0 rfl rfl 0 (by decide) (hts (.fieldLink RX0 9 "ArraySegments$Facts" "isReached" "Z") (List.mem_of_getElem? (i := 14) rfl)) (fun _ h9 => h9) rfl (by decide +kernel) rfl rfl (Nat.le_of_ble_eq_true rfl) dX0_narrow_42 (fun H_19 locs_19 hP1 hD1 hS1 => ?_)
    replace hP : va_P (dC, dI) vwCl [(fh, .inr (0, [.int 0, .ref fa_least, .ref fa_greatest, f_sites, f_maybeNull, f_known, f_lanes, f_shortest, f_longest, f_leastAt, f_greatestAt])), (fa_least, .inl (cI, 6, .inl f_12)), (fa_greatest, .inl (cI, 6, .inl f_13))] H_19 := hP1
    replace hD : va_D A [(fh, .inr (0, [.int 0, .ref fa_least, .ref fa_greatest, f_sites, f_maybeNull, f_known, f_lanes, f_shortest, f_longest, f_leastAt, f_greatestAt])), (fa_least, .inl (cI, 6, .inl f_12)), (fa_greatest, .inl (cI, 6, .inl f_13))] := hD1
    replace hS := hS1
    clear hP1 hD1 hS1
    have hP9 := hP.sub (ws' := [(fh, .inr (0, [.int 0, .ref fa_least, .ref fa_greatest, f_sites, f_maybeNull, f_known, f_lanes, f_shortest, f_longest, f_leastAt, f_greatestAt])), (fa_least, .inl (cI, 6, .inl f_12)), (fa_greatest, .inl (cI, 6, .inl f_13))]) [0, 1, 2] rfl
    have hD9 := hD.sub (ws' := [(fh, .inr (0, [.int 0, .ref fa_least, .ref fa_greatest, f_sites, f_maybeNull, f_known, f_lanes, f_shortest, f_longest, f_leastAt, f_greatestAt])), (fa_least, .inl (cI, 6, .inl f_12)), (fa_greatest, .inl (cI, 6, .inl f_13))]) [0, 1, 2] (by decide) rfl
    exact W.vret hx hb hr (fun t ht hW => ⟨⟨((0 : Int32), f_12, f_13), rfl, ⟨(show kZ (0 : Int32) from (by decide)), (show (f_13 (xa).toNatClampNeg).toInt ≤ hia.toInt from (by have b0 := x_11_1 (xa).toNatClampNeg; omega)), (show loa.toInt ≤ (f_12 (xa).toNatClampNeg).toInt from (by have b0 := x_11_0 (xa).toNatClampNeg; omega)), (show ∀ j : Nat, (j = (xa).toNatClampNeg → (fc_least j).toInt ≤ (f_12 j).toInt ∧ loa.toInt ≤ (f_12 j).toInt ∧ ((f_12 j).toInt = (fc_least j).toInt ∨ (f_12 j).toInt = loa.toInt)) ∧ (¬ j = (xa).toNatClampNeg → (f_12 j).toInt = (fc_least j).toInt) from (fun j => by have b0 := x_11_0 j; by_cases hq : j = (xa).toNatClampNeg; (· subst hq; omega); (· omega))), (show ∀ j : Nat, (j = (xa).toNatClampNeg → (f_13 j).toInt ≤ (fc_greatest j).toInt ∧ (f_13 j).toInt ≤ hia.toInt ∧ ((f_13 j).toInt = (fc_greatest j).toInt ∨ (f_13 j).toInt = hia.toInt)) ∧ (¬ j = (xa).toNatClampNeg → (f_13 j).toInt = (fc_greatest j).toInt) from (fun j => by have b0 := x_11_1 j; by_cases hq : j = (xa).toNatClampNeg; (· subst hq; omega); (· omega))), (show ¬ f_isReached.toInt = 0 ∧ (f_12 (xa).toNatClampNeg).toInt ≤ (f_13 (xa).toNatClampNeg).toInt → ¬ (0 : Int32).toInt = 0 from (by omega))⟩, by rw [ht]; exact hP9, va_K.moved hW.alike hK, hD9⟩, hS.F ht⟩) hS.2.2 dX0_narrow_45
