def v_X0_setOutcome : List Cond := .code yX0_setOutcome cX0_setOutcome 6 none :: ([.constantLong RX0 81 (-2147483648), .constant RX0 85 (-2147483648), .constant RX0 86 (2147483647), .methodLink RX0 48 yX0_setSpan, .instanceMethod yX0_setSpan, .selects RX0 yX0_setSpan yX0_setSpan, .initialized RX0, .constantLong RX0 83 (2147483647)] ++ (v_X0_setSpan))
theorem im_X0_setOutcome_X0_setSpan : ∀ w ∈ v_X0_setSpan, w ∈ v_X0_setOutcome := fun _ h => List.mem_cons_of_mem _ (List.mem_append_right _ (h))
set_option maxRecDepth 20000 in
theorem gd_X0_setOutcome : gdL v_X0_setOutcome := gdC (gdW (by decide +kernel)) (gdA (gdW (by decide +kernel)) gd_X0_setSpan)
set_option maxRecDepth 20000 in
theorem h_X0_setOutcome_X0_setSpan_48 : GoodIn v_X0_setOutcome (wsV RX0 48 RX0 yX0_setSpan v_X0_setSpan) := gdI [4, 5, 6, 7] rfl (by decide +kernel) (im_X0_setOutcome_X0_setSpan) gd_X0_setSpan
abbrev sw_X0_setOutcome (cI cJ cZ : ClassId) (fh : Nat) (f_isReached : Int32) (fa_least : Nat) (fa_greatest : Nat) (f_sites : Value) (f_maybeNull : Value) (f_known : Value) (f_lanes : Value) (f_shortest : Value) (f_longest : Value) (f_leastAt : Value) (f_greatestAt : Value) (fc_least : Nat → Int32) (fc_greatest : Nat → Int32) (xa : Int32) (loa : Int64) (hia : Int64) : va_W := [(fh, .inr (0, [.int f_isReached, .ref fa_least, .ref fa_greatest, f_sites, f_maybeNull, f_known, f_lanes, f_shortest, f_longest, f_leastAt, f_greatestAt])), (fa_least, .inl (cI, 6, .inl fc_least)), (fa_greatest, .inl (cI, 6, .inl fc_greatest))]
set_option maxHeartbeats 8000000 in
set_option maxRecDepth 100000 in
theorem s_X0_setOutcome (l : Launch) (dC : Nat → ClassId) (dI : Nat → Nat → Nat) (cI cJ cZ : ClassId) (fh : Nat) (f_isReached : Int32) (fa_least : Nat) (fa_greatest : Nat) (f_sites : Value) (f_maybeNull : Value) (f_known : Value) (f_lanes : Value) (f_shortest : Value) (f_longest : Value) (f_leastAt : Value) (f_greatestAt : Value) (fc_least : Nat → Int32) (fc_greatest : Nat → Int32) (xa : Int32) (loa : Int64) (hia : Int64) (sz : Nat) (q_f_isReached : kZ f_isReached) (hy_xa : V6 xa) : Met l yX0_setOutcome v_X0_setOutcome ({ frames := 1, cells := 0, slots := 0, locals := 23 }) (va_Pc [.ref fh, .int xa, .long loa, .long hia] (cPre dC dI cI cJ cZ sz (sw_X0_setOutcome cI cJ cZ fh f_isReached fa_least fa_greatest f_sites f_maybeNull f_known f_lanes f_shortest f_longest f_leastAt f_greatestAt fc_least fc_greatest xa loa hia))) (va_Qv (fun (u : (Nat → Int32) × (Nat → Int32)) => (hia.toInt < loa.toInt ∨ (-2147483648 ≤ loa.toInt ∧ hia.toInt ≤ 2147483647 ∧ upI fc_least (xa).toNatClampNeg loa.toInt (u.1) ∧ upI fc_greatest (xa).toNatClampNeg hia.toInt (u.2)) ∨ (upI fc_least (xa).toNatClampNeg (-2147483648) (u.1) ∧ upI fc_greatest (xa).toNatClampNeg 2147483647 (u.2)))) (fun (u : (Nat → Int32) × (Nat → Int32)) => cPost dC dI cI cJ cZ (va_A (sw_X0_setOutcome cI cJ cZ fh f_isReached fa_least fa_greatest f_sites f_maybeNull f_known f_lanes f_shortest f_longest f_leastAt f_greatestAt fc_least fc_greatest xa loa hia) sz) [(fh, .inr (0, [.int f_isReached, .ref fa_least, .ref fa_greatest, f_sites, f_maybeNull, f_known, f_lanes, f_shortest, f_longest, f_leastAt, f_greatestAt])), (fa_least, .inl (cI, 6, .inl (u.1))), (fa_greatest, .inl (cI, 6, .inl (u.2)))]) (va_A (sw_X0_setOutcome cI cJ cZ fh f_isReached fa_least fa_greatest f_sites f_maybeNull f_known f_lanes f_shortest f_longest f_leastAt f_greatestAt fc_least fc_greatest xa loa hia) sz)) 0 0 (va_A (sw_X0_setOutcome cI cJ cZ fh f_isReached fa_least fa_greatest f_sites f_maybeNull f_known f_lanes f_shortest f_longest f_leastAt f_greatestAt fc_least fc_greatest xa loa hia) sz) := by
  refine Met.ofW (cc := cX0_setOutcome) (maxL := 6) (ret := none) (by decide) rfl ?_
  intro p e s m args below meth c s₁ B hml hv
  obtain ⟨rfl, hsz, hP, hK, hD0, hN⟩ := hv
  have hx := B.exec
  have hb := B.bytes
  have hr := B.returns
  have hts := atoms_spec (ws := v_X0_setOutcome) B.pre
  have hown : s.vm.findClass RX0 = some m.cls := findClass_of_methodNamed B.named
  have hlocks := B.notSynchronized
  subst hsz
  have hD := hD0.self (sz := s.heap.size)
  generalize hAe : va_A (sw_X0_setOutcome cI cJ cZ fh f_isReached fa_least fa_greatest f_sites f_maybeNull f_known f_lanes f_shortest f_longest f_leastAt f_greatestAt fc_least fc_greatest xa loa hia) s.heap.size = A at hD ⊢
  have hA : ∀ q : Nat, s.heap.size ≤ q → A q := fun q h => by rw [← hAe]; exact Or.inr h
  clear hAe hD0
  have hS : va_S A s.heap s.heap [] := va_S.rf
  replace hP : va_P (dC, dI) vwCl [(fh, .inr (0, [.int f_isReached, .ref fa_least, .ref fa_greatest, f_sites, f_maybeNull, f_known, f_lanes, f_shortest, f_longest, f_leastAt, f_greatestAt])), (fa_least, .inl (cI, 6, .inl fc_least)), (fa_greatest, .inl (cI, 6, .inl fc_greatest))] s.heap := hP
  replace hD : va_D A [(fh, .inr (0, [.int f_isReached, .ref fa_least, .ref fa_greatest, f_sites, f_maybeNull, f_known, f_lanes, f_shortest, f_longest, f_leastAt, f_greatestAt])), (fa_least, .inl (cI, 6, .inl fc_least)), (fa_greatest, .inl (cI, 6, .inl fc_greatest))] := hD
  have hl := lv_entry ([.ref fh, .int xa, .long loa, .long hia]) (n := 6) (Nat.le_of_ble_eq_true rfl)
  rw [lg_entry_eq]
  generalize (lg_sl ([.ref fh, .int xa, .long loa, .long hia]) ++ List.replicate (6 - (lg_sl ([.ref fh, .int xa, .long loa, .long hia])).length) Slot.unset).toArray = ls at hl ⊢
  replace hl : lv_has ls 6 [(0, .ref fh), (1, .int xa), (2, .long loa), (4, .long hia)] := hl
  have z_m2147483648 : (-2147483648 : Int32).toInt = -2147483648 := by decide
  have z_0 : (0 : Int32).toInt = 0 := by decide
  have z_1 : (1 : Int32).toInt = 1 := by decide
  have z_2147483647 : (2147483647 : Int32).toInt = 2147483647 := by decide
  have zl_m2147483648 : (-2147483648 : Int64).toInt = -2147483648 := by decide
  have zl_2147483647 : (2147483647 : Int64).toInt = 2147483647 := by decide
  refine lv_lload_n hx hb dX0_setOutcome_0 rfl (lv_at hl 2 rfl) ?_
  refine lv_ldc2 hx hb hown (hts (.constantLong RX0 81 (-2147483648)) (List.mem_of_getElem? (i := 1) rfl)) dX0_setOutcome_1 ?_
  refine W.lcmp hx hb dX0_setOutcome_4 ?_
  refine lv_if_lt (tgt := 17) hx hb dX0_setOutcome_5 (by decide) (fun c_1 => ?_) (fun c_1 => ?_)
  · -- yes
    have k_1 : loa.toInt < (-2147483648 : Int64).toInt := lc_lt c_1
    refine lv_aload_n hx hb dX0_setOutcome_17 rfl (lv_at hl 0 rfl) ?_
    refine lv_iload_n hx hb dX0_setOutcome_18 rfl (lv_at hl 1 rfl) ?_
    refine lv_ldc hx hb hown (hts (.constant RX0 85 (-2147483648)) (List.mem_of_getElem? (i := 2) rfl)) dX0_setOutcome_19 ?_
    refine lv_ldc hx hb hown (hts (.constant RX0 86 (2147483647)) (List.mem_of_getElem? (i := 3) rfl)) dX0_setOutcome_21 ?_
    have hPc := hP.sub (ws' := [(fh, .inr (0, [.int f_isReached, .ref fa_least, .ref fa_greatest, f_sites, f_maybeNull, f_known, f_lanes, f_shortest, f_longest, f_leastAt, f_greatestAt])), (fa_least, .inl (cI, 6, .inl fc_least)), (fa_greatest, .inl (cI, 6, .inl fc_greatest))]) [0, 1, 2] rfl
    have hDc := hD.sub (ws' := [(fh, .inr (0, [.int f_isReached, .ref fa_least, .ref fa_greatest, f_sites, f_maybeNull, f_known, f_lanes, f_shortest, f_longest, f_leastAt, f_greatestAt])), (fa_least, .inl (cI, 6, .inl fc_least)), (fa_greatest, .inl (cI, 6, .inl fc_greatest))]) [0, 1, 2] (by decide) rfl
    have hFc := va_free (wc := [(fh, .inr (0, [.int f_isReached, .ref fa_least, .ref fa_greatest, f_sites, f_maybeNull, f_known, f_lanes, f_shortest, f_longest, f_leastAt, f_greatestAt])), (fa_least, .inl (cI, 6, .inl fc_least)), (fa_greatest, .inl (cI, 6, .inl fc_greatest))]) hD hS hA [0, 1, 2] rfl
    refine va_callv (va_runV (As := [.int xa, .int (-2147483648), .int 2147483647]) (rest := []) ⟨hx, hb, hml, hown, hts⟩ (s_X0_setSpan l dC dI cI cJ cZ fh f_isReached fa_least fa_greatest f_sites f_maybeNull f_known f_lanes f_shortest f_longest f_leastAt f_greatestAt fc_least fc_greatest xa (-2147483648) 2147483647 s.heap.size q_f_isReached (by first | assumption | omega)) (cwV 3 hts h_X0_setOutcome_X0_setSpan_48 rfl rfl rfl (by decide +kernel) ⟨Nat.le_of_ble_eq_true rfl, Nat.le_of_ble_eq_true rfl⟩) ⟨cPre_blind, va_recv hK hPc (ci := 0) (q0 := 0) rfl rfl, cPre_of hK hN hPc hDc⟩ rfl rfl hl.1 rfl (lv_room (Nat.le_of_ble_eq_true rfl)) dX0_setOutcome_23 ⟨Nat.le_of_ble_eq_true rfl, Nat.le_of_ble_eq_true rfl⟩) hS (fun q _ h => hFc q h) hFc (fun u_2 t_2 H_2 locs_2 ht hvm hw_2 hB hz1 hk1 hS1 => ?_)
    obtain ⟨f_3, f_4⟩ := u_2
    obtain ⟨hP1, hK1, hD1⟩ := hB
    rw [ht] at hP1
    obtain ⟨hP2, hD2⟩ := va_join (wr := []) (w1 := [(fh, .inr (0, [.int f_isReached, .ref fa_least, .ref fa_greatest, f_sites, f_maybeNull, f_known, f_lanes, f_shortest, f_longest, f_leastAt, f_greatestAt])), (fa_least, .inl (cI, 6, .inl f_3)), (fa_greatest, .inl (cI, 6, .inl f_4))]) hP hD [0, 1, 2] [] rfl rfl (by decide) (by decide) hk1 hFc hP1 hD1
    clear hPc hDc hFc hP1 hD1 hK1 hk1 hz1 hvm ht
    replace hP : va_P (dC, dI) vwCl [(fh, .inr (0, [.int f_isReached, .ref fa_least, .ref fa_greatest, f_sites, f_maybeNull, f_known, f_lanes, f_shortest, f_longest, f_leastAt, f_greatestAt])), (fa_least, .inl (cI, 6, .inl f_3)), (fa_greatest, .inl (cI, 6, .inl f_4))] H_2 := hP2
    replace hD : va_D A [(fh, .inr (0, [.int f_isReached, .ref fa_least, .ref fa_greatest, f_sites, f_maybeNull, f_known, f_lanes, f_shortest, f_longest, f_leastAt, f_greatestAt])), (fa_least, .inl (cI, 6, .inl f_3)), (fa_greatest, .inl (cI, 6, .inl f_4))] := hD2
    replace hS := hS1
    clear hP2 hD2 hS1
    replace hw_2 : (upI fc_least (xa).toNatClampNeg (-2147483648 : Int32).toInt f_3) ∧ (upI fc_greatest (xa).toNatClampNeg (2147483647 : Int32).toInt f_4) := hw_2
    obtain ⟨x_2_0, x_2_1⟩ := hw_2
    refine lv_goto (tgt := 39) hx hb dX0_setOutcome_26 (by decide) ?_
    have hP9 := hP.sub (ws' := [(fh, .inr (0, [.int f_isReached, .ref fa_least, .ref fa_greatest, f_sites, f_maybeNull, f_known, f_lanes, f_shortest, f_longest, f_leastAt, f_greatestAt])), (fa_least, .inl (cI, 6, .inl f_3)), (fa_greatest, .inl (cI, 6, .inl f_4))]) [0, 1, 2] rfl
    have hD9 := hD.sub (ws' := [(fh, .inr (0, [.int f_isReached, .ref fa_least, .ref fa_greatest, f_sites, f_maybeNull, f_known, f_lanes, f_shortest, f_longest, f_leastAt, f_greatestAt])), (fa_least, .inl (cI, 6, .inl f_3)), (fa_greatest, .inl (cI, 6, .inl f_4))]) [0, 1, 2] (by decide) rfl
    exact W.vret hx hb hr (fun t ht hW => ⟨⟨(f_3, f_4), rfl, (show hia.toInt < loa.toInt ∨ (-2147483648 ≤ loa.toInt ∧ hia.toInt ≤ 2147483647 ∧ upI fc_least (xa).toNatClampNeg loa.toInt f_3 ∧ upI fc_greatest (xa).toNatClampNeg hia.toInt f_4) ∨ (upI fc_least (xa).toNatClampNeg (-2147483648) f_3 ∧ upI fc_greatest (xa).toNatClampNeg 2147483647 f_4) from (Or.inr (Or.inr ⟨fun j => by have b0 := x_2_0 j; omega, fun j => by have b0 := x_2_1 j; omega⟩))), by rw [ht]; exact hP9, va_K.moved hW.alike hK, hD9⟩, hS.F ht⟩) hS.2.2 dX0_setOutcome_39
  · -- no
    have k_1 : (-2147483648 : Int64).toInt ≤ loa.toInt := lc_nlt c_1
    refine lv_lload hx hb dX0_setOutcome_8 (lv_at hl 3 rfl) ?_
    refine lv_ldc2 hx hb hown (hts (.constantLong RX0 83 (2147483647)) (List.mem_of_getElem? (i := 8) rfl)) dX0_setOutcome_10 ?_
    refine W.lcmp hx hb dX0_setOutcome_13 ?_
    refine lv_if_le (tgt := 29) hx hb dX0_setOutcome_14 (by decide) (fun c_5 => ?_) (fun c_5 => ?_)
    · -- yes
      have k_5 : hia.toInt ≤ (2147483647 : Int64).toInt := lc_le c_5
      refine lv_aload_n hx hb dX0_setOutcome_29 rfl (lv_at hl 0 rfl) ?_
      refine lv_iload_n hx hb dX0_setOutcome_30 rfl (lv_at hl 1 rfl) ?_
      refine lv_lload_n hx hb dX0_setOutcome_31 rfl (lv_at hl 2 rfl) ?_
      refine lv_l2i (v := _) hx hb dX0_setOutcome_32 rfl ?_
      refine lv_topi (fun v_6 e_v_6 => ?_)
      refine lv_lload hx hb dX0_setOutcome_33 (lv_at hl 3 rfl) ?_
      refine lv_l2i (v := _) hx hb dX0_setOutcome_35 rfl ?_
      refine lv_topi (fun v_7 e_v_7 => ?_)
      have hPc := hP.sub (ws' := [(fh, .inr (0, [.int f_isReached, .ref fa_least, .ref fa_greatest, f_sites, f_maybeNull, f_known, f_lanes, f_shortest, f_longest, f_leastAt, f_greatestAt])), (fa_least, .inl (cI, 6, .inl fc_least)), (fa_greatest, .inl (cI, 6, .inl fc_greatest))]) [0, 1, 2] rfl
      have hDc := hD.sub (ws' := [(fh, .inr (0, [.int f_isReached, .ref fa_least, .ref fa_greatest, f_sites, f_maybeNull, f_known, f_lanes, f_shortest, f_longest, f_leastAt, f_greatestAt])), (fa_least, .inl (cI, 6, .inl fc_least)), (fa_greatest, .inl (cI, 6, .inl fc_greatest))]) [0, 1, 2] (by decide) rfl
      have hFc := va_free (wc := [(fh, .inr (0, [.int f_isReached, .ref fa_least, .ref fa_greatest, f_sites, f_maybeNull, f_known, f_lanes, f_shortest, f_longest, f_leastAt, f_greatestAt])), (fa_least, .inl (cI, 6, .inl fc_least)), (fa_greatest, .inl (cI, 6, .inl fc_greatest))]) hD hS hA [0, 1, 2] rfl
      refine va_callv (va_runV (As := [.int xa, .int v_6, .int v_7]) (rest := []) ⟨hx, hb, hml, hown, hts⟩ (s_X0_setSpan l dC dI cI cJ cZ fh f_isReached fa_least fa_greatest f_sites f_maybeNull f_known f_lanes f_shortest f_longest f_leastAt f_greatestAt fc_least fc_greatest xa v_6 v_7 s.heap.size q_f_isReached (by first | assumption | omega)) (cwV 3 hts h_X0_setOutcome_X0_setSpan_48 rfl rfl rfl (by decide +kernel) ⟨Nat.le_of_ble_eq_true rfl, Nat.le_of_ble_eq_true rfl⟩) ⟨cPre_blind, va_recv hK hPc (ci := 0) (q0 := 0) rfl rfl, cPre_of hK hN hPc hDc⟩ rfl rfl hl.1 rfl (lv_room (Nat.le_of_ble_eq_true rfl)) dX0_setOutcome_36 ⟨Nat.le_of_ble_eq_true rfl, Nat.le_of_ble_eq_true rfl⟩) hS (fun q _ h => hFc q h) hFc (fun u_8 t_8 H_8 locs_8 ht hvm hw_8 hB hz1 hk1 hS1 => ?_)
      obtain ⟨f_9, f_10⟩ := u_8
      obtain ⟨hP1, hK1, hD1⟩ := hB
      rw [ht] at hP1
      obtain ⟨hP2, hD2⟩ := va_join (wr := []) (w1 := [(fh, .inr (0, [.int f_isReached, .ref fa_least, .ref fa_greatest, f_sites, f_maybeNull, f_known, f_lanes, f_shortest, f_longest, f_leastAt, f_greatestAt])), (fa_least, .inl (cI, 6, .inl f_9)), (fa_greatest, .inl (cI, 6, .inl f_10))]) hP hD [0, 1, 2] [] rfl rfl (by decide) (by decide) hk1 hFc hP1 hD1
      clear hPc hDc hFc hP1 hD1 hK1 hk1 hz1 hvm ht
      replace hP : va_P (dC, dI) vwCl [(fh, .inr (0, [.int f_isReached, .ref fa_least, .ref fa_greatest, f_sites, f_maybeNull, f_known, f_lanes, f_shortest, f_longest, f_leastAt, f_greatestAt])), (fa_least, .inl (cI, 6, .inl f_9)), (fa_greatest, .inl (cI, 6, .inl f_10))] H_8 := hP2
      replace hD : va_D A [(fh, .inr (0, [.int f_isReached, .ref fa_least, .ref fa_greatest, f_sites, f_maybeNull, f_known, f_lanes, f_shortest, f_longest, f_leastAt, f_greatestAt])), (fa_least, .inl (cI, 6, .inl f_9)), (fa_greatest, .inl (cI, 6, .inl f_10))] := hD2
      replace hS := hS1
      clear hP2 hD2 hS1
      replace hw_8 : (upI fc_least (xa).toNatClampNeg v_6.toInt f_9) ∧ (upI fc_greatest (xa).toNatClampNeg v_7.toInt f_10) := hw_8
      obtain ⟨x_8_0, x_8_1⟩ := hw_8
      have hP9 := hP.sub (ws' := [(fh, .inr (0, [.int f_isReached, .ref fa_least, .ref fa_greatest, f_sites, f_maybeNull, f_known, f_lanes, f_shortest, f_longest, f_leastAt, f_greatestAt])), (fa_least, .inl (cI, 6, .inl f_9)), (fa_greatest, .inl (cI, 6, .inl f_10))]) [0, 1, 2] rfl
      have hD9 := hD.sub (ws' := [(fh, .inr (0, [.int f_isReached, .ref fa_least, .ref fa_greatest, f_sites, f_maybeNull, f_known, f_lanes, f_shortest, f_longest, f_leastAt, f_greatestAt])), (fa_least, .inl (cI, 6, .inl f_9)), (fa_greatest, .inl (cI, 6, .inl f_10))]) [0, 1, 2] (by decide) rfl
      exact W.vret hx hb hr (fun t ht hW => ⟨⟨(f_9, f_10), rfl, (show hia.toInt < loa.toInt ∨ (-2147483648 ≤ loa.toInt ∧ hia.toInt ≤ 2147483647 ∧ upI fc_least (xa).toNatClampNeg loa.toInt f_9 ∧ upI fc_greatest (xa).toNatClampNeg hia.toInt f_10) ∨ (upI fc_least (xa).toNatClampNeg (-2147483648) f_9 ∧ upI fc_greatest (xa).toNatClampNeg 2147483647 f_10) from (so_in (by omega) (by omega) e_v_6 e_v_7 x_8_0 x_8_1)), by rw [ht]; exact hP9, va_K.moved hW.alike hK, hD9⟩, hS.F ht⟩) hS.2.2 dX0_setOutcome_39
    · -- no
      have k_5 : (2147483647 : Int64).toInt < hia.toInt := lc_nle c_5
      refine lv_aload_n hx hb dX0_setOutcome_17 rfl (lv_at hl 0 rfl) ?_
      refine lv_iload_n hx hb dX0_setOutcome_18 rfl (lv_at hl 1 rfl) ?_
      refine lv_ldc hx hb hown (hts (.constant RX0 85 (-2147483648)) (List.mem_of_getElem? (i := 2) rfl)) dX0_setOutcome_19 ?_
      refine lv_ldc hx hb hown (hts (.constant RX0 86 (2147483647)) (List.mem_of_getElem? (i := 3) rfl)) dX0_setOutcome_21 ?_
      have hPc := hP.sub (ws' := [(fh, .inr (0, [.int f_isReached, .ref fa_least, .ref fa_greatest, f_sites, f_maybeNull, f_known, f_lanes, f_shortest, f_longest, f_leastAt, f_greatestAt])), (fa_least, .inl (cI, 6, .inl fc_least)), (fa_greatest, .inl (cI, 6, .inl fc_greatest))]) [0, 1, 2] rfl
      have hDc := hD.sub (ws' := [(fh, .inr (0, [.int f_isReached, .ref fa_least, .ref fa_greatest, f_sites, f_maybeNull, f_known, f_lanes, f_shortest, f_longest, f_leastAt, f_greatestAt])), (fa_least, .inl (cI, 6, .inl fc_least)), (fa_greatest, .inl (cI, 6, .inl fc_greatest))]) [0, 1, 2] (by decide) rfl
      have hFc := va_free (wc := [(fh, .inr (0, [.int f_isReached, .ref fa_least, .ref fa_greatest, f_sites, f_maybeNull, f_known, f_lanes, f_shortest, f_longest, f_leastAt, f_greatestAt])), (fa_least, .inl (cI, 6, .inl fc_least)), (fa_greatest, .inl (cI, 6, .inl fc_greatest))]) hD hS hA [0, 1, 2] rfl
      refine va_callv (va_runV (As := [.int xa, .int (-2147483648), .int 2147483647]) (rest := []) ⟨hx, hb, hml, hown, hts⟩ (s_X0_setSpan l dC dI cI cJ cZ fh f_isReached fa_least fa_greatest f_sites f_maybeNull f_known f_lanes f_shortest f_longest f_leastAt f_greatestAt fc_least fc_greatest xa (-2147483648) 2147483647 s.heap.size q_f_isReached (by first | assumption | omega)) (cwV 3 hts h_X0_setOutcome_X0_setSpan_48 rfl rfl rfl (by decide +kernel) ⟨Nat.le_of_ble_eq_true rfl, Nat.le_of_ble_eq_true rfl⟩) ⟨cPre_blind, va_recv hK hPc (ci := 0) (q0 := 0) rfl rfl, cPre_of hK hN hPc hDc⟩ rfl rfl hl.1 rfl (lv_room (Nat.le_of_ble_eq_true rfl)) dX0_setOutcome_23 ⟨Nat.le_of_ble_eq_true rfl, Nat.le_of_ble_eq_true rfl⟩) hS (fun q _ h => hFc q h) hFc (fun u_11 t_11 H_11 locs_11 ht hvm hw_11 hB hz1 hk1 hS1 => ?_)
      obtain ⟨f_12, f_13⟩ := u_11
      obtain ⟨hP1, hK1, hD1⟩ := hB
      rw [ht] at hP1
      obtain ⟨hP2, hD2⟩ := va_join (wr := []) (w1 := [(fh, .inr (0, [.int f_isReached, .ref fa_least, .ref fa_greatest, f_sites, f_maybeNull, f_known, f_lanes, f_shortest, f_longest, f_leastAt, f_greatestAt])), (fa_least, .inl (cI, 6, .inl f_12)), (fa_greatest, .inl (cI, 6, .inl f_13))]) hP hD [0, 1, 2] [] rfl rfl (by decide) (by decide) hk1 hFc hP1 hD1
      clear hPc hDc hFc hP1 hD1 hK1 hk1 hz1 hvm ht
      replace hP : va_P (dC, dI) vwCl [(fh, .inr (0, [.int f_isReached, .ref fa_least, .ref fa_greatest, f_sites, f_maybeNull, f_known, f_lanes, f_shortest, f_longest, f_leastAt, f_greatestAt])), (fa_least, .inl (cI, 6, .inl f_12)), (fa_greatest, .inl (cI, 6, .inl f_13))] H_11 := hP2
      replace hD : va_D A [(fh, .inr (0, [.int f_isReached, .ref fa_least, .ref fa_greatest, f_sites, f_maybeNull, f_known, f_lanes, f_shortest, f_longest, f_leastAt, f_greatestAt])), (fa_least, .inl (cI, 6, .inl f_12)), (fa_greatest, .inl (cI, 6, .inl f_13))] := hD2
      replace hS := hS1
      clear hP2 hD2 hS1
      replace hw_11 : (upI fc_least (xa).toNatClampNeg (-2147483648 : Int32).toInt f_12) ∧ (upI fc_greatest (xa).toNatClampNeg (2147483647 : Int32).toInt f_13) := hw_11
      obtain ⟨x_11_0, x_11_1⟩ := hw_11
      refine lv_goto (tgt := 39) hx hb dX0_setOutcome_26 (by decide) ?_
      have hP9 := hP.sub (ws' := [(fh, .inr (0, [.int f_isReached, .ref fa_least, .ref fa_greatest, f_sites, f_maybeNull, f_known, f_lanes, f_shortest, f_longest, f_leastAt, f_greatestAt])), (fa_least, .inl (cI, 6, .inl f_12)), (fa_greatest, .inl (cI, 6, .inl f_13))]) [0, 1, 2] rfl
      have hD9 := hD.sub (ws' := [(fh, .inr (0, [.int f_isReached, .ref fa_least, .ref fa_greatest, f_sites, f_maybeNull, f_known, f_lanes, f_shortest, f_longest, f_leastAt, f_greatestAt])), (fa_least, .inl (cI, 6, .inl f_12)), (fa_greatest, .inl (cI, 6, .inl f_13))]) [0, 1, 2] (by decide) rfl
      exact W.vret hx hb hr (fun t ht hW => ⟨⟨(f_12, f_13), rfl, (show hia.toInt < loa.toInt ∨ (-2147483648 ≤ loa.toInt ∧ hia.toInt ≤ 2147483647 ∧ upI fc_least (xa).toNatClampNeg loa.toInt f_12 ∧ upI fc_greatest (xa).toNatClampNeg hia.toInt f_13) ∨ (upI fc_least (xa).toNatClampNeg (-2147483648) f_12 ∧ upI fc_greatest (xa).toNatClampNeg 2147483647 f_13) from (Or.inr (Or.inr ⟨fun j => by have b0 := x_11_0 j; omega, fun j => by have b0 := x_11_1 j; omega⟩))), by rw [ht]; exact hP9, va_K.moved hW.alike hK, hD9⟩, hS.F ht⟩) hS.2.2 dX0_setOutcome_39
