def v_X0_narrowReference : List Cond := .code yX0_narrowReference cX0_narrowReference 4 none :: ([.methodLink RX0 87 yX0_setReference, .instanceMethod yX0_setReference, .selects RX0 yX0_setReference yX0_setReference, .initialized RX0, .fieldLink RX0 9 "ArraySegments$Facts" "isReached" "Z"] ++ (wsX00 ++ (v_X0_setReference)))
theorem inv_X0_narrowReference_X0 : ∀ w ∈ wsX00, w ∈ v_X0_narrowReference := fun _ h => List.mem_cons_of_mem _ (List.mem_append_right _ (List.mem_append_left _ h))
theorem im_X0_narrowReference_X0_setReference : ∀ w ∈ v_X0_setReference, w ∈ v_X0_narrowReference := fun _ h => List.mem_cons_of_mem _ (List.mem_append_right _ (List.mem_append_right _ (h)))
set_option maxRecDepth 20000 in
theorem gd_X0_narrowReference : gdL v_X0_narrowReference := gdC (gdW (by decide +kernel)) (gdA (gdW (by decide +kernel)) (gdA gd_wsX00 gd_X0_setReference))
set_option maxRecDepth 20000 in
theorem h_X0_narrowReference_X0_setReference_87 : GoodIn v_X0_narrowReference (wsV RX0 87 RX0 yX0_setReference v_X0_setReference) := gdI [1, 2, 3, 4] rfl (by decide +kernel) (im_X0_narrowReference_X0_setReference) gd_X0_setReference
abbrev sw_X0_narrowReference (cI cJ cZ : ClassId) (fh : Nat) (f_isReached : Int32) (f_least : Value) (f_greatest : Value) (fa_sites : Nat) (fa_maybeNull : Nat) (f_known : Value) (f_lanes : Value) (f_shortest : Value) (f_longest : Value) (f_leastAt : Value) (f_greatestAt : Value) (fc_sites : Nat → Int64) (fc_maybeNull : Nat → Int32) (ra : Int32) (sa : Int64) : va_W := [(fh, .inr (0, [.int f_isReached, f_least, f_greatest, .ref fa_sites, .ref fa_maybeNull, f_known, f_lanes, f_shortest, f_longest, f_leastAt, f_greatestAt])), (fa_sites, .inl (cJ, 6, .inr (.inl fc_sites))), (fa_maybeNull, .inl (cZ, 6, .inl fc_maybeNull))]
set_option maxHeartbeats 8000000 in
set_option maxRecDepth 100000 in
theorem s_X0_narrowReference (l : Launch) (dC : Nat → ClassId) (dI : Nat → Nat → Nat) (cI cJ cZ : ClassId) (fh : Nat) (f_isReached : Int32) (f_least : Value) (f_greatest : Value) (fa_sites : Nat) (fa_maybeNull : Nat) (f_known : Value) (f_lanes : Value) (f_shortest : Value) (f_longest : Value) (f_leastAt : Value) (f_greatestAt : Value) (fc_sites : Nat → Int64) (fc_maybeNull : Nat → Int32) (ra : Int32) (sa : Int64) (sz : Nat) (q_f_isReached : kZ f_isReached) (h_fc_maybeNull : ∀ j : Nat, kZ (fc_maybeNull j)) (hy_ra : V6 ra) : Met l yX0_narrowReference v_X0_narrowReference ({ frames := 1, cells := 0, slots := 0, locals := 24 }) (va_Pc [.ref fh, .int ra, .long sa] (cPre dC dI cI cJ cZ sz (sw_X0_narrowReference cI cJ cZ fh f_isReached f_least f_greatest fa_sites fa_maybeNull f_known f_lanes f_shortest f_longest f_leastAt f_greatestAt fc_sites fc_maybeNull ra sa))) (va_Qv (fun (u : Int32 × (Nat → Int64) × (Nat → Int32)) => (kZ (u.1)) ∧ (∀ j : Nat, kZ ((u.2.2) j)) ∧ (∀ j : Nat, (j = (ra).toNatClampNeg → (u.2.1) j = sa) ∧ (¬ j = (ra).toNatClampNeg → (u.2.1) j = fc_sites j)) ∧ (upI fc_maybeNull (ra).toNatClampNeg 0 (u.2.2)) ∧ (¬ f_isReached.toInt = 0 ∧ ¬ sa.toInt = 0 → ¬ (u.1).toInt = 0)) (fun (u : Int32 × (Nat → Int64) × (Nat → Int32)) => cPost dC dI cI cJ cZ (va_A (sw_X0_narrowReference cI cJ cZ fh f_isReached f_least f_greatest fa_sites fa_maybeNull f_known f_lanes f_shortest f_longest f_leastAt f_greatestAt fc_sites fc_maybeNull ra sa) sz) [(fh, .inr (0, [.int (u.1), f_least, f_greatest, .ref fa_sites, .ref fa_maybeNull, f_known, f_lanes, f_shortest, f_longest, f_leastAt, f_greatestAt])), (fa_sites, .inl (cJ, 6, .inr (.inl (u.2.1)))), (fa_maybeNull, .inl (cZ, 6, .inl (u.2.2)))]) (va_A (sw_X0_narrowReference cI cJ cZ fh f_isReached f_least f_greatest fa_sites fa_maybeNull f_known f_lanes f_shortest f_longest f_leastAt f_greatestAt fc_sites fc_maybeNull ra sa) sz)) 0 0 (va_A (sw_X0_narrowReference cI cJ cZ fh f_isReached f_least f_greatest fa_sites fa_maybeNull f_known f_lanes f_shortest f_longest f_leastAt f_greatestAt fc_sites fc_maybeNull ra sa) sz) := by
  refine Met.ofW (cc := cX0_narrowReference) (maxL := 4) (ret := none) (by decide) rfl ?_
  intro p e s m args below meth c s₁ B hml hv
  obtain ⟨rfl, hsz, hP, hK, hD0, hN⟩ := hv
  have hx := B.exec
  have hb := B.bytes
  have hr := B.returns
  have hts := atoms_spec (ws := v_X0_narrowReference) B.pre
  have hown : s.vm.findClass RX0 = some m.cls := findClass_of_methodNamed B.named
  have hlocks := B.notSynchronized
  subst hsz
  have hD := hD0.self (sz := s.heap.size)
  generalize hAe : va_A (sw_X0_narrowReference cI cJ cZ fh f_isReached f_least f_greatest fa_sites fa_maybeNull f_known f_lanes f_shortest f_longest f_leastAt f_greatestAt fc_sites fc_maybeNull ra sa) s.heap.size = A at hD ⊢
  have hA : ∀ q : Nat, s.heap.size ≤ q → A q := fun q h => by rw [← hAe]; exact Or.inr h
  clear hAe hD0
  have hS : va_S A s.heap s.heap [] := va_S.rf
  replace hP : va_P (dC, dI) vwCl [(fh, .inr (0, [.int f_isReached, f_least, f_greatest, .ref fa_sites, .ref fa_maybeNull, f_known, f_lanes, f_shortest, f_longest, f_leastAt, f_greatestAt])), (fa_sites, .inl (cJ, 6, .inr (.inl fc_sites))), (fa_maybeNull, .inl (cZ, 6, .inl fc_maybeNull))] s.heap := hP
  replace hD : va_D A [(fh, .inr (0, [.int f_isReached, f_least, f_greatest, .ref fa_sites, .ref fa_maybeNull, f_known, f_lanes, f_shortest, f_longest, f_leastAt, f_greatestAt])), (fa_sites, .inl (cJ, 6, .inr (.inl fc_sites))), (fa_maybeNull, .inl (cZ, 6, .inl fc_maybeNull))] := hD
  have hl := lv_entry ([.ref fh, .int ra, .long sa]) (n := 4) (Nat.le_of_ble_eq_true rfl)
  rw [lg_entry_eq]
  generalize (lg_sl ([.ref fh, .int ra, .long sa]) ++ List.replicate (4 - (lg_sl ([.ref fh, .int ra, .long sa])).length) Slot.unset).toArray = ls at hl ⊢
  replace hl : lv_has ls 4 [(0, .ref fh), (1, .int ra), (2, .long sa)] := hl
  have z_0 : (0 : Int32).toInt = 0 := by decide
  have z_1 : (1 : Int32).toInt = 1 := by decide
  have zl_0 : (0 : Int64).toInt = 0 := by decide
  refine lv_aload_n hx hb dX0_narrowReference_0 rfl (lv_at hl 0 rfl) ?_
  refine lv_iload_n hx hb dX0_narrowReference_1 rfl (lv_at hl 1 rfl) ?_
  refine lv_lload_n hx hb dX0_narrowReference_2 rfl (lv_at hl 2 rfl) ?_
  refine lv_iconst (v := 0) hx hb dX0_narrowReference_3 (by decide) ?_
  have hPc := hP.sub (ws' := [(fh, .inr (0, [.int f_isReached, f_least, f_greatest, .ref fa_sites, .ref fa_maybeNull, f_known, f_lanes, f_shortest, f_longest, f_leastAt, f_greatestAt])), (fa_sites, .inl (cJ, 6, .inr (.inl fc_sites))), (fa_maybeNull, .inl (cZ, 6, .inl fc_maybeNull))]) [0, 1, 2] rfl
  have hDc := hD.sub (ws' := [(fh, .inr (0, [.int f_isReached, f_least, f_greatest, .ref fa_sites, .ref fa_maybeNull, f_known, f_lanes, f_shortest, f_longest, f_leastAt, f_greatestAt])), (fa_sites, .inl (cJ, 6, .inr (.inl fc_sites))), (fa_maybeNull, .inl (cZ, 6, .inl fc_maybeNull))]) [0, 1, 2] (by decide) rfl
  have hFc := va_free (wc := [(fh, .inr (0, [.int f_isReached, f_least, f_greatest, .ref fa_sites, .ref fa_maybeNull, f_known, f_lanes, f_shortest, f_longest, f_leastAt, f_greatestAt])), (fa_sites, .inl (cJ, 6, .inr (.inl fc_sites))), (fa_maybeNull, .inl (cZ, 6, .inl fc_maybeNull))]) hD hS hA [0, 1, 2] rfl
  refine va_callv (va_runV (As := [.int ra, .long sa, .int 0]) (rest := []) ⟨hx, hb, hml, hown, hts⟩ (s_X0_setReference l dC dI cI cJ cZ fh f_isReached f_least f_greatest fa_sites fa_maybeNull f_known f_lanes f_shortest f_longest f_leastAt f_greatestAt fc_sites fc_maybeNull ra sa 0 s.heap.size q_f_isReached h_fc_maybeNull (by first | assumption | omega) (by decide)) (cwV 3 hts h_X0_narrowReference_X0_setReference_87 rfl rfl rfl (by decide +kernel) ⟨Nat.le_of_ble_eq_true rfl, Nat.le_of_ble_eq_true rfl⟩) ⟨cPre_blind, va_recv hK hPc (ci := 0) (q0 := 0) rfl rfl, cPre_of hK hN hPc hDc⟩ rfl rfl hl.1 rfl (lv_room (Nat.le_of_ble_eq_true rfl)) dX0_narrowReference_4 ⟨Nat.le_of_ble_eq_true rfl, Nat.le_of_ble_eq_true rfl⟩) hS (fun q _ h => hFc q h) hFc (fun u_1 t_1 H_1 locs_1 ht hvm hw_1 hB hz1 hk1 hS1 => ?_)
  obtain ⟨f_2, f_3⟩ := u_1
  obtain ⟨hP1, hK1, hD1⟩ := hB
  rw [ht] at hP1
  obtain ⟨hP2, hD2⟩ := va_join (wr := []) (w1 := [(fh, .inr (0, [.int f_isReached, f_least, f_greatest, .ref fa_sites, .ref fa_maybeNull, f_known, f_lanes, f_shortest, f_longest, f_leastAt, f_greatestAt])), (fa_sites, .inl (cJ, 6, .inr (.inl f_2))), (fa_maybeNull, .inl (cZ, 6, .inl f_3))]) hP hD [0, 1, 2] [] rfl rfl (by decide) (by decide) hk1 hFc hP1 hD1
  clear hPc hDc hFc hP1 hD1 hK1 hk1 hz1 hvm ht
  replace hP : va_P (dC, dI) vwCl [(fh, .inr (0, [.int f_isReached, f_least, f_greatest, .ref fa_sites, .ref fa_maybeNull, f_known, f_lanes, f_shortest, f_longest, f_leastAt, f_greatestAt])), (fa_sites, .inl (cJ, 6, .inr (.inl f_2))), (fa_maybeNull, .inl (cZ, 6, .inl f_3))] H_1 := hP2
  replace hD : va_D A [(fh, .inr (0, [.int f_isReached, f_least, f_greatest, .ref fa_sites, .ref fa_maybeNull, f_known, f_lanes, f_shortest, f_longest, f_leastAt, f_greatestAt])), (fa_sites, .inl (cJ, 6, .inr (.inl f_2))), (fa_maybeNull, .inl (cZ, 6, .inl f_3))] := hD2
  replace hS := hS1
  clear hP2 hD2 hS1
  replace hw_1 : (∀ j : Nat, kZ (f_3 j)) ∧ (∀ j : Nat, (j = (ra).toNatClampNeg → f_2 j = sa) ∧ (¬ j = (ra).toNatClampNeg → f_2 j = fc_sites j)) ∧ (upI fc_maybeNull (ra).toNatClampNeg (0 : Int32).toInt f_3) := hw_1
  obtain ⟨h_f_3, x_1_0, x_1_1⟩ := hw_1
  refine lv_lload_n hx hb dX0_narrowReference_7 rfl (lv_at hl 2 rfl) ?_
  refine lv_lconst (v := 0) hx hb dX0_narrowReference_8 (by decide) ?_
  refine W.lcmp hx hb dX0_narrowReference_9 ?_
  refine lv_if_ne (tgt := 18) hx hb dX0_narrowReference_10 (by decide) (fun c_4 => ?_) (fun c_4 => ?_)
  · -- yes
    have k_4 : ¬ sa.toInt = (0 : Int64).toInt := lc_ne c_4
    have hP9 := hP.sub (ws' := [(fh, .inr (0, [.int f_isReached, f_least, f_greatest, .ref fa_sites, .ref fa_maybeNull, f_known, f_lanes, f_shortest, f_longest, f_leastAt, f_greatestAt])), (fa_sites, .inl (cJ, 6, .inr (.inl f_2))), (fa_maybeNull, .inl (cZ, 6, .inl f_3))]) [0, 1, 2] rfl
    have hD9 := hD.sub (ws' := [(fh, .inr (0, [.int f_isReached, f_least, f_greatest, .ref fa_sites, .ref fa_maybeNull, f_known, f_lanes, f_shortest, f_longest, f_leastAt, f_greatestAt])), (fa_sites, .inl (cJ, 6, .inr (.inl f_2))), (fa_maybeNull, .inl (cZ, 6, .inl f_3))]) [0, 1, 2] (by decide) rfl
    exact W.vret hx hb hr (fun t ht hW => ⟨⟨(f_isReached, f_2, f_3), rfl, ⟨(show kZ f_isReached from q_f_isReached), (show ∀ j : Nat, kZ (f_3 j) from h_f_3), (show ∀ j : Nat, (j = (ra).toNatClampNeg → f_2 j = sa) ∧ (¬ j = (ra).toNatClampNeg → f_2 j = fc_sites j) from x_1_0), (show upI fc_maybeNull (ra).toNatClampNeg 0 f_3 from (fun j => by have b0 := x_1_1 j; omega)), (show ¬ f_isReached.toInt = 0 ∧ ¬ sa.toInt = 0 → ¬ f_isReached.toInt = 0 from (by omega))⟩, by rw [ht]; exact hP9, va_K.moved hW.alike hK, hD9⟩, hS.F ht⟩) hS.2.2 dX0_narrowReference_18
  · -- no
    have k_4 : sa.toInt = (0 : Int64).toInt := lc_eq c_4
    refine lv_aload_n hx hb dX0_narrowReference_13 rfl (lv_at hl 0 rfl) ?_
    refine lv_iconst (v := 0) hx hb dX0_narrowReference_14 (by decide) ?_
    refine va_put (D := (dC, dI)) (ci := 0) (v := .int 0) (ty := .boolean) (C := RX0) (T := TX0) (N := 11) hx hb hts inv_X0_narrowReference_X0 tyX0 tyX0_ok nmX0 hown hK hP hD hS 0 rfl rfl 0 (by decide) (hts (.fieldLink RX0 9 "ArraySegments$Facts" "isReached" "Z") (List.mem_of_getElem? (i := 5) rfl)) (fun _ h9 => h9) rfl (by decide +kernel) rfl rfl (Nat.le_of_ble_eq_true rfl) dX0_narrowReference_15 (fun H_5 locs_5 hP1 hD1 hS1 => ?_)
    replace hP : va_P (dC, dI) vwCl [(fh, .inr (0, [.int 0, f_least, f_greatest, .ref fa_sites, .ref fa_maybeNull, f_known, f_lanes, f_shortest, f_longest, f_leastAt, f_greatestAt])), (fa_sites, .inl (cJ, 6, .inr (.inl f_2))), (fa_maybeNull, .inl (cZ, 6, .inl f_3))] H_5 := hP1
    replace hD : va_D A [(fh, .inr (0, [.int 0, f_least, f_greatest, .ref fa_sites, .ref fa_maybeNull, f_known, f_lanes, f_shortest, f_longest, f_leastAt, f_greatestAt])), (fa_sites, .inl (cJ, 6, .inr (.inl f_2))), (fa_maybeNull, .inl (cZ, 6, .inl f_3))] := hD1
    replace hS := hS1
    clear hP1 hD1 hS1
    have hP9 := hP.sub (ws' := [(fh, .inr (0, [.int 0, f_least, f_greatest, .ref fa_sites, .ref fa_maybeNull, f_known, f_lanes, f_shortest, f_longest, f_leastAt, f_greatestAt])), (fa_sites, .inl (cJ, 6, .inr (.inl f_2))), (fa_maybeNull, .inl (cZ, 6, .inl f_3))]) [0, 1, 2] rfl
    have hD9 := hD.sub (ws' := [(fh, .inr (0, [.int 0, f_least, f_greatest, .ref fa_sites, .ref fa_maybeNull, f_known, f_lanes, f_shortest, f_longest, f_leastAt, f_greatestAt])), (fa_sites, .inl (cJ, 6, .inr (.inl f_2))), (fa_maybeNull, .inl (cZ, 6, .inl f_3))]) [0, 1, 2] (by decide) rfl
    exact W.vret hx hb hr (fun t ht hW => ⟨⟨((0 : Int32), f_2, f_3), rfl, ⟨(show kZ (0 : Int32) from (by decide)), (show ∀ j : Nat, kZ (f_3 j) from h_f_3), (show ∀ j : Nat, (j = (ra).toNatClampNeg → f_2 j = sa) ∧ (¬ j = (ra).toNatClampNeg → f_2 j = fc_sites j) from x_1_0), (show upI fc_maybeNull (ra).toNatClampNeg 0 f_3 from (fun j => by have b0 := x_1_1 j; omega)), (show ¬ f_isReached.toInt = 0 ∧ ¬ sa.toInt = 0 → ¬ (0 : Int32).toInt = 0 from (by omega))⟩, by rw [ht]; exact hP9, va_K.moved hW.alike hK, hD9⟩, hS.F ht⟩) hS.2.2 dX0_narrowReference_18
