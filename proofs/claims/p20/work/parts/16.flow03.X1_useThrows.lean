def v_X1_useThrows : List Cond := .code yX1_useThrows cX1_useThrows 5 (some .int) :: ([.fieldLink RX1 12 "ArraySegments$Flow" "now" "LArraySegments$Facts;", .fieldLink RX1 109 "ArraySegments$Facts" "sites" "[J", .methodLink RX1 236 yX0_lanesOf, .instanceMethod yX0_lanesOf, .selects RX0 yX0_lanesOf yX0_lanesOf, .initialized RX0, .methodLink RX1 148 yX1_nullBit, .instanceMethod yX1_nullBit, .selects RX1 yX1_nullBit yX1_nullBit, .initialized RX1, .methodLink RX1 137 yX1_bitIf, .static yX1_bitIf] ++ (wsX10 ++ (wsX00 ++ (v_X0_lanesOf ++ (v_X1_nullBit ++ (v_X1_bitIf))))))
theorem inv_X1_useThrows_X1 : ∀ w ∈ wsX10, w ∈ v_X1_useThrows := fun _ h => List.mem_cons_of_mem _ (List.mem_append_right _ (List.mem_append_left _ h))
theorem inv_X1_useThrows_X0 : ∀ w ∈ wsX00, w ∈ v_X1_useThrows := fun _ h => List.mem_cons_of_mem _ (List.mem_append_right _ (List.mem_append_right _ (List.mem_append_left _ h)))
theorem im_X1_useThrows_X0_lanesOf : ∀ w ∈ v_X0_lanesOf, w ∈ v_X1_useThrows := fun _ h => List.mem_cons_of_mem _ (List.mem_append_right _ (List.mem_append_right _ (List.mem_append_right _ (List.mem_append_left _ h))))
theorem im_X1_useThrows_X1_nullBit : ∀ w ∈ v_X1_nullBit, w ∈ v_X1_useThrows := fun _ h => List.mem_cons_of_mem _ (List.mem_append_right _ (List.mem_append_right _ (List.mem_append_right _ (List.mem_append_right _ (List.mem_append_left _ h)))))
theorem im_X1_useThrows_X1_bitIf : ∀ w ∈ v_X1_bitIf, w ∈ v_X1_useThrows := fun _ h => List.mem_cons_of_mem _ (List.mem_append_right _ (List.mem_append_right _ (List.mem_append_right _ (List.mem_append_right _ (List.mem_append_right _ (h))))))
set_option maxRecDepth 20000 in
theorem gd_X1_useThrows : gdL v_X1_useThrows := gdC (gdW (by decide +kernel)) (gdA (gdW (by decide +kernel)) (gdA gd_wsX10 (gdA gd_wsX00 (gdA gd_X0_lanesOf (gdA gd_X1_nullBit gd_X1_bitIf)))))
set_option maxRecDepth 20000 in
theorem h_X1_useThrows_X0_lanesOf_236 : GoodIn v_X1_useThrows (wsV RX1 236 RX0 yX0_lanesOf v_X0_lanesOf) := gdI [3, 4, 5, 6] rfl (by decide +kernel) (im_X1_useThrows_X0_lanesOf) gd_X0_lanesOf
set_option maxRecDepth 20000 in
theorem h_X1_useThrows_X1_nullBit_148 : GoodIn v_X1_useThrows (wsV RX1 148 RX1 yX1_nullBit v_X1_nullBit) := gdI [7, 8, 9, 10] rfl (by decide +kernel) (im_X1_useThrows_X1_nullBit) gd_X1_nullBit
set_option maxRecDepth 20000 in
theorem h_X1_useThrows_X1_bitIf_137 : GoodIn v_X1_useThrows (va_wsS RX1 137 yX1_bitIf v_X1_bitIf) := gdI [11, 12, 10] rfl (by decide +kernel) (im_X1_useThrows_X1_bitIf) gd_X1_bitIf
abbrev sw_X1_useThrows (cI cJ cZ : ClassId) (lh : Nat) (fh : Nat) (l_ahead : Value) (l_isOld : Int32) (l_isReached : Value) (l_mayThrow : Value) (l_gatheredAny : Int32) (l_gatheredLeast : Int32) (l_gatheredGreatest : Int32) (f_isReached : Int32) (f_least : Value) (f_greatest : Value) (fa_sites : Nat) (fa_maybeNull : Nat) (f_known : Value) (fa_lanes : Nat) (f_shortest : Value) (f_longest : Value) (f_leastAt : Value) (f_greatestAt : Value) (fc_sites : Nat → Int64) (fc_maybeNull : Nat → Int32) (fc_lanes : Nat → Int32) (ra : Int32) (la : Int32) (ba : Int32) : va_W := [(lh, .inr (1, [.ref fh, l_ahead, .int l_isOld, l_isReached, l_mayThrow, .int l_gatheredAny, .int l_gatheredLeast, .int l_gatheredGreatest])), (fh, .inr (0, [.int f_isReached, f_least, f_greatest, .ref fa_sites, .ref fa_maybeNull, f_known, .ref fa_lanes, f_shortest, f_longest, f_leastAt, f_greatestAt])), (fa_sites, .inl (cJ, 6, .inr (.inl fc_sites))), (fa_maybeNull, .inl (cZ, 6, .inl fc_maybeNull)), (fa_lanes, .inl (cI, 40, .inl fc_lanes))]
set_option maxHeartbeats 8000000 in
set_option maxRecDepth 100000 in
theorem s_X1_useThrows (l : Launch) (dC : Nat → ClassId) (dI : Nat → Nat → Nat) (cI cJ cZ : ClassId) (lh : Nat) (fh : Nat) (l_ahead : Value) (l_isOld : Int32) (l_isReached : Value) (l_mayThrow : Value) (l_gatheredAny : Int32) (l_gatheredLeast : Int32) (l_gatheredGreatest : Int32) (f_isReached : Int32) (f_least : Value) (f_greatest : Value) (fa_sites : Nat) (fa_maybeNull : Nat) (f_known : Value) (fa_lanes : Nat) (f_shortest : Value) (f_longest : Value) (f_leastAt : Value) (f_greatestAt : Value) (fc_sites : Nat → Int64) (fc_maybeNull : Nat → Int32) (fc_lanes : Nat → Int32) (ra : Int32) (la : Int32) (ba : Int32) (sz : Nat) (q_l_isOld : kZ l_isOld) (q_l_gatheredAny : kZ l_gatheredAny) (q_f_isReached : kZ f_isReached) (h_fc_maybeNull : ∀ j : Nat, kZ (fc_maybeNull j)) (h_fc_lanes : ∀ j : Nat, kL7 (fc_lanes j)) (hy_ra : V6 ra) (hy_la : V3 la) : Met l yX1_useThrows v_X1_useThrows ({ frames := 2, cells := 0, slots := 0, locals := 46 }) (va_Pc [.ref lh, .int ra, .int la, .int ba] (cPre dC dI cI cJ cZ sz (sw_X1_useThrows cI cJ cZ lh fh l_ahead l_isOld l_isReached l_mayThrow l_gatheredAny l_gatheredLeast l_gatheredGreatest f_isReached f_least f_greatest fa_sites fa_maybeNull f_known fa_lanes f_shortest f_longest f_leastAt f_greatestAt fc_sites fc_maybeNull fc_lanes ra la ba))) (va_Qi (fun (r : Int32) (u : Unit) => (((fc_maybeNull (ra).toNatClampNeg).toInt = 0 ∨ lbit r 1) ∧ (∀ j : Nat, j < 40 → sbit (fc_sites (ra).toNatClampNeg) j → ∀ q : Nat, q < 3 → lbit (fc_lanes j) q → ¬ q = (la).toNatClampNeg → lbit r 2) ∧ (ba.toInt = 0 ∨ lbit r 5))) (fun (u : Unit) => cPost dC dI cI cJ cZ (va_A (sw_X1_useThrows cI cJ cZ lh fh l_ahead l_isOld l_isReached l_mayThrow l_gatheredAny l_gatheredLeast l_gatheredGreatest f_isReached f_least f_greatest fa_sites fa_maybeNull f_known fa_lanes f_shortest f_longest f_leastAt f_greatestAt fc_sites fc_maybeNull fc_lanes ra la ba) sz) [(lh, .inr (1, [.ref fh, l_ahead, .int l_isOld, l_isReached, l_mayThrow, .int l_gatheredAny, .int l_gatheredLeast, .int l_gatheredGreatest])), (fh, .inr (0, [.int f_isReached, f_least, f_greatest, .ref fa_sites, .ref fa_maybeNull, f_known, .ref fa_lanes, f_shortest, f_longest, f_leastAt, f_greatestAt])), (fa_sites, .inl (cJ, 6, .inr (.inl fc_sites))), (fa_maybeNull, .inl (cZ, 6, .inl fc_maybeNull)), (fa_lanes, .inl (cI, 40, .inl fc_lanes))]) (va_A (sw_X1_useThrows cI cJ cZ lh fh l_ahead l_isOld l_isReached l_mayThrow l_gatheredAny l_gatheredLeast l_gatheredGreatest f_isReached f_least f_greatest fa_sites fa_maybeNull f_known fa_lanes f_shortest f_longest f_leastAt f_greatestAt fc_sites fc_maybeNull fc_lanes ra la ba) sz)) 0 0 (va_A (sw_X1_useThrows cI cJ cZ lh fh l_ahead l_isOld l_isReached l_mayThrow l_gatheredAny l_gatheredLeast l_gatheredGreatest f_isReached f_least f_greatest fa_sites fa_maybeNull f_known fa_lanes f_shortest f_longest f_leastAt f_greatestAt fc_sites fc_maybeNull fc_lanes ra la ba) sz) := by
  refine Met.ofW (cc := cX1_useThrows) (maxL := 5) (ret := (some .int)) (by decide) rfl ?_
  intro p e s m args below meth c s₁ B hml hv
  obtain ⟨rfl, hsz, hP, hK, hD0, hN⟩ := hv
  have hx := B.exec
  have hb := B.bytes
  have hr := B.returns
  have hts := atoms_spec (ws := v_X1_useThrows) B.pre
  have hown : s.vm.findClass RX1 = some m.cls := findClass_of_methodNamed B.named
  have hlocks := B.notSynchronized
  subst hsz
  have hD := hD0.self (sz := s.heap.size)
  generalize hAe : va_A (sw_X1_useThrows cI cJ cZ lh fh l_ahead l_isOld l_isReached l_mayThrow l_gatheredAny l_gatheredLeast l_gatheredGreatest f_isReached f_least f_greatest fa_sites fa_maybeNull f_known fa_lanes f_shortest f_longest f_leastAt f_greatestAt fc_sites fc_maybeNull fc_lanes ra la ba) s.heap.size = A at hD ⊢
  have hA : ∀ q : Nat, s.heap.size ≤ q → A q := fun q h => by rw [← hAe]; exact Or.inr h
  clear hAe hD0
  have hS : va_S A s.heap s.heap [] := va_S.rf
  replace hP : va_P (dC, dI) vwCl [(lh, .inr (1, [.ref fh, l_ahead, .int l_isOld, l_isReached, l_mayThrow, .int l_gatheredAny, .int l_gatheredLeast, .int l_gatheredGreatest])), (fh, .inr (0, [.int f_isReached, f_least, f_greatest, .ref fa_sites, .ref fa_maybeNull, f_known, .ref fa_lanes, f_shortest, f_longest, f_leastAt, f_greatestAt])), (fa_sites, .inl (cJ, 6, .inr (.inl fc_sites))), (fa_maybeNull, .inl (cZ, 6, .inl fc_maybeNull)), (fa_lanes, .inl (cI, 40, .inl fc_lanes))] s.heap := hP
  replace hD : va_D A [(lh, .inr (1, [.ref fh, l_ahead, .int l_isOld, l_isReached, l_mayThrow, .int l_gatheredAny, .int l_gatheredLeast, .int l_gatheredGreatest])), (fh, .inr (0, [.int f_isReached, f_least, f_greatest, .ref fa_sites, .ref fa_maybeNull, f_known, .ref fa_lanes, f_shortest, f_longest, f_leastAt, f_greatestAt])), (fa_sites, .inl (cJ, 6, .inr (.inl fc_sites))), (fa_maybeNull, .inl (cZ, 6, .inl fc_maybeNull)), (fa_lanes, .inl (cI, 40, .inl fc_lanes))] := hD
  have hl := lv_entry ([.ref lh, .int ra, .int la, .int ba]) (n := 5) (Nat.le_of_ble_eq_true rfl)
  rw [lg_entry_eq]
  generalize (lg_sl ([.ref lh, .int ra, .int la, .int ba]) ++ List.replicate (5 - (lg_sl ([.ref lh, .int ra, .int la, .int ba])).length) Slot.unset).toArray = ls at hl ⊢
  replace hl : lv_has ls 5 [(0, .ref lh), (1, .int ra), (2, .int la), (3, .int ba)] := hl
  have z_0 : (0 : Int32).toInt = 0 := by decide
  have z_1 : (1 : Int32).toInt = 1 := by decide
  have z_2 : (2 : Int32).toInt = 2 := by decide
  have z_5 : (5 : Int32).toInt = 5 := by decide
  refine lv_aload_n hx hb dX1_useThrows_0 rfl (lv_at hl 0 rfl) ?_
  refine va_get (D := (dC, dI)) (ci := 1) (v := .ref fh) (C := RX1) (T := TX1) (N := 8) hx hb hts inv_X1_useThrows_X1 hown hK hP 0 rfl rfl 0 (by decide) (hts (.fieldLink RX1 12 "ArraySegments$Flow" "now" "LArraySegments$Facts;") (List.mem_of_getElem? (i := 1) rfl)) (fun _ h9 => h9) rfl dX1_useThrows_1 ?_
  refine lv_aload_n hx hb dX1_useThrows_4 rfl (lv_at hl 0 rfl) ?_
  refine va_get (D := (dC, dI)) (ci := 1) (v := .ref fh) (C := RX1) (T := TX1) (N := 8) hx hb hts inv_X1_useThrows_X1 hown hK hP 0 rfl rfl 0 (by decide) (hts (.fieldLink RX1 12 "ArraySegments$Flow" "now" "LArraySegments$Facts;") (List.mem_of_getElem? (i := 1) rfl)) (fun _ h9 => h9) rfl dX1_useThrows_5 ?_
  refine va_get (D := (dC, dI)) (ci := 0) (v := .ref fa_sites) (C := RX0) (T := TX0) (N := 11) hx hb hts inv_X1_useThrows_X0 hown hK hP 1 rfl rfl 3 (by decide) (hts (.fieldLink RX1 109 "ArraySegments$Facts" "sites" "[J") (List.mem_of_getElem? (i := 2) rfl)) (fun _ h9 => h9) rfl dX1_useThrows_8 ?_
  refine lv_iload_n hx hb dX1_useThrows_11 rfl (lv_at hl 1 rfl) ?_
  refine sf_lald lT hx hb hK hP 2 1 rfl rfl (fun _ => trivial) (vp_in_iff.mpr ⟨by omega, by omega⟩) dX1_useThrows_12 (fun v_1 q_v_1 e_v_1 => ?_)
  have et_v_1 : v_1.toInt = (fc_sites (ra).toNatClampNeg).toInt := by rw [e_v_1]
  have ni_2 := nn_cl (z := ra) (by omega)
  have hPc := hP.sub (ws' := [(fh, .inr (0, [.int f_isReached, f_least, f_greatest, .ref fa_sites, .ref fa_maybeNull, f_known, .ref fa_lanes, f_shortest, f_longest, f_leastAt, f_greatestAt])), (fa_lanes, .inl (cI, 40, .inl fc_lanes))]) [1, 4] rfl
  have hDc := hD.sub (ws' := [(fh, .inr (0, [.int f_isReached, f_least, f_greatest, .ref fa_sites, .ref fa_maybeNull, f_known, .ref fa_lanes, f_shortest, f_longest, f_leastAt, f_greatestAt])), (fa_lanes, .inl (cI, 40, .inl fc_lanes))]) [1, 4] (by decide) rfl
  have hFc := va_free (wc := [(fh, .inr (0, [.int f_isReached, f_least, f_greatest, .ref fa_sites, .ref fa_maybeNull, f_known, .ref fa_lanes, f_shortest, f_longest, f_leastAt, f_greatestAt])), (fa_lanes, .inl (cI, 40, .inl fc_lanes))]) hD hS hA [1, 4] rfl
  refine va_calli (va_runV (As := [.long v_1]) (rest := []) ⟨hx, hb, hml, hown, hts⟩ (s_X0_lanesOf l dC dI cI cJ cZ fh f_isReached f_least f_greatest (.ref fa_sites) (.ref fa_maybeNull) f_known fa_lanes f_shortest f_longest f_leastAt f_greatestAt fc_lanes v_1 s.heap.size q_f_isReached h_fc_lanes) (cwV 1 hts h_X1_useThrows_X0_lanesOf_236 rfl rfl rfl (by decide +kernel) ⟨Nat.le_of_ble_eq_true rfl, Nat.le_of_ble_eq_true rfl⟩) ⟨cPre_blind, va_recv hK hPc (ci := 0) (q0 := 0) rfl rfl, cPre_of hK hN hPc hDc⟩ rfl rfl hl.1 rfl (lv_room (Nat.le_of_ble_eq_true rfl)) dX1_useThrows_13 ⟨Nat.le_of_ble_eq_true rfl, Nat.le_of_ble_eq_true rfl⟩) hS (fun q _ h => hFc q h) hFc (fun r_3 u_3 t_3 H_3 locs_3 ht hvm hw_3 hB hz1 hk1 hS1 => ?_)
  obtain ⟨hP1, hK1, hD1⟩ := hB
  rw [ht] at hP1
  obtain ⟨hP2, hD2⟩ := va_join (wr := [(lh, .inr (1, [.ref fh, l_ahead, .int l_isOld, l_isReached, l_mayThrow, .int l_gatheredAny, .int l_gatheredLeast, .int l_gatheredGreatest])), (fa_sites, .inl (cJ, 6, .inr (.inl fc_sites))), (fa_maybeNull, .inl (cZ, 6, .inl fc_maybeNull))]) (w1 := [(fh, .inr (0, [.int f_isReached, f_least, f_greatest, .ref fa_sites, .ref fa_maybeNull, f_known, .ref fa_lanes, f_shortest, f_longest, f_leastAt, f_greatestAt])), (fa_lanes, .inl (cI, 40, .inl fc_lanes))]) hP hD [1, 4] [0, 2, 3] rfl rfl (by decide) (by decide) hk1 hFc hP1 hD1
  clear hPc hDc hFc hP1 hD1 hK1 hk1 hz1 hvm ht
  replace hP : va_P (dC, dI) vwCl [(lh, .inr (1, [.ref fh, l_ahead, .int l_isOld, l_isReached, l_mayThrow, .int l_gatheredAny, .int l_gatheredLeast, .int l_gatheredGreatest])), (fa_sites, .inl (cJ, 6, .inr (.inl fc_sites))), (fa_maybeNull, .inl (cZ, 6, .inl fc_maybeNull)), (fh, .inr (0, [.int f_isReached, f_least, f_greatest, .ref fa_sites, .ref fa_maybeNull, f_known, .ref fa_lanes, f_shortest, f_longest, f_leastAt, f_greatestAt])), (fa_lanes, .inl (cI, 40, .inl fc_lanes))] H_3 := hP2
  replace hD : va_D A [(lh, .inr (1, [.ref fh, l_ahead, .int l_isOld, l_isReached, l_mayThrow, .int l_gatheredAny, .int l_gatheredLeast, .int l_gatheredGreatest])), (fa_sites, .inl (cJ, 6, .inr (.inl fc_sites))), (fa_maybeNull, .inl (cZ, 6, .inl fc_maybeNull)), (fh, .inr (0, [.int f_isReached, f_least, f_greatest, .ref fa_sites, .ref fa_maybeNull, f_known, .ref fa_lanes, f_shortest, f_longest, f_leastAt, f_greatestAt])), (fa_lanes, .inl (cI, 40, .inl fc_lanes))] := hD2
  replace hS := hS1
  clear hP2 hD2 hS1
  replace hw_3 : ((0 ≤ r_3.toInt ∧ r_3.toInt ≤ 7) ∧ (∀ j : Nat, j < 40 → sbit v_1 j → ∀ q : Nat, lbit (fc_lanes j) q → lbit r_3 q)) := hw_3
  have q_r_3 := hw_3
  refine lv_iconst (v := 1) hx hb dX1_useThrows_16 (by decide) ?_
  refine lv_iload_n hx hb dX1_useThrows_17 rfl (lv_at hl 2 rfl) ?_
  refine lv_ishl hx hb dX1_useThrows_18 ?_
  refine lv_topi (fun v_4 e_v_4 => ?_)
  have qo_v_4 : kL7 v_4 := shl7 ⟨by omega, by omega⟩ e_v_4
  refine lv_iconst (v := (-1)) hx hb dX1_useThrows_19 (by decide) ?_
  refine lv_ixor hx hb dX1_useThrows_20 ?_
  refine lv_topi (fun v_5 e_v_5 => ?_)
  refine lv_iand hx hb dX1_useThrows_21 ?_
  refine lv_topi (fun v_6 e_v_6 => ?_)
  refine lv_if_eq (tgt := 29) hx hb dX1_useThrows_22 (by decide) (fun c_7 => ?_) (fun c_7 => ?_)
  · -- yes
    have k_7 : v_6.toInt = (0 : Int32).toInt := ci_eq c_7
    refine lv_iconst (v := 0) hx hb dX1_useThrows_29 (by decide) ?_
    refine lv_istore (lv' := [(4, .int 0), (0, .ref lh), (1, .int ra), (2, .int la), (3, .int ba)]) hx hb dX1_useThrows_30 hl (by decide) rfl (fun ls1 hl1 => ?_)
    replace hl := hl1; clear hl1
    refine lv_aload_n hx hb dX1_useThrows_32 rfl (lv_at hl 1 rfl) ?_
    refine lv_iload_n hx hb dX1_useThrows_33 rfl (lv_at hl 2 rfl) ?_
    have hPc := hP.sub (ws' := [(lh, .inr (1, [.ref fh, l_ahead, .int l_isOld, l_isReached, l_mayThrow, .int l_gatheredAny, .int l_gatheredLeast, .int l_gatheredGreatest])), (fh, .inr (0, [.int f_isReached, f_least, f_greatest, .ref fa_sites, .ref fa_maybeNull, f_known, .ref fa_lanes, f_shortest, f_longest, f_leastAt, f_greatestAt])), (fa_maybeNull, .inl (cZ, 6, .inl fc_maybeNull))]) [0, 3, 2] rfl
    have hDc := hD.sub (ws' := [(lh, .inr (1, [.ref fh, l_ahead, .int l_isOld, l_isReached, l_mayThrow, .int l_gatheredAny, .int l_gatheredLeast, .int l_gatheredGreatest])), (fh, .inr (0, [.int f_isReached, f_least, f_greatest, .ref fa_sites, .ref fa_maybeNull, f_known, .ref fa_lanes, f_shortest, f_longest, f_leastAt, f_greatestAt])), (fa_maybeNull, .inl (cZ, 6, .inl fc_maybeNull))]) [0, 3, 2] (by decide) rfl
    have hFc := va_free (wc := [(lh, .inr (1, [.ref fh, l_ahead, .int l_isOld, l_isReached, l_mayThrow, .int l_gatheredAny, .int l_gatheredLeast, .int l_gatheredGreatest])), (fh, .inr (0, [.int f_isReached, f_least, f_greatest, .ref fa_sites, .ref fa_maybeNull, f_known, .ref fa_lanes, f_shortest, f_longest, f_leastAt, f_greatestAt])), (fa_maybeNull, .inl (cZ, 6, .inl fc_maybeNull))]) hD hS hA [0, 3, 2] rfl
    refine va_calli (va_runV (As := [.int ra]) (rest := []) ⟨hx, hb, hml, hown, hts⟩ (s_X1_nullBit l dC dI cI cJ cZ lh fh l_ahead l_isOld l_isReached l_mayThrow l_gatheredAny l_gatheredLeast l_gatheredGreatest f_isReached f_least f_greatest (.ref fa_sites) fa_maybeNull f_known (.ref fa_lanes) f_shortest f_longest f_leastAt f_greatestAt fc_maybeNull ra H_3.size q_l_isOld q_l_gatheredAny q_f_isReached h_fc_maybeNull (by first | assumption | omega)) (cwV 1 hts h_X1_useThrows_X1_nullBit_148 rfl rfl rfl (by decide +kernel) ⟨Nat.le_of_ble_eq_true rfl, Nat.le_of_ble_eq_true rfl⟩) ⟨cPre_blind, va_recv hK hPc (ci := 1) (q0 := 0) rfl rfl, cPre_of hK hN hPc hDc⟩ rfl rfl hl.1 rfl (lv_room (Nat.le_of_ble_eq_true rfl)) dX1_useThrows_34 ⟨Nat.le_of_ble_eq_true rfl, Nat.le_of_ble_eq_true rfl⟩) hS (fun q _ h => hFc q h) hFc (fun r_8 u_8 t_8 H_8 locs_8 ht hvm hw_8 hB hz1 hk1 hS1 => ?_)
    obtain ⟨hP1, hK1, hD1⟩ := hB
    rw [ht] at hP1
    obtain ⟨hP2, hD2⟩ := va_join (wr := [(fa_sites, .inl (cJ, 6, .inr (.inl fc_sites))), (fa_lanes, .inl (cI, 40, .inl fc_lanes))]) (w1 := [(lh, .inr (1, [.ref fh, l_ahead, .int l_isOld, l_isReached, l_mayThrow, .int l_gatheredAny, .int l_gatheredLeast, .int l_gatheredGreatest])), (fh, .inr (0, [.int f_isReached, f_least, f_greatest, .ref fa_sites, .ref fa_maybeNull, f_known, .ref fa_lanes, f_shortest, f_longest, f_leastAt, f_greatestAt])), (fa_maybeNull, .inl (cZ, 6, .inl fc_maybeNull))]) hP hD [0, 3, 2] [1, 4] rfl rfl (by decide) (by decide) hk1 hFc hP1 hD1
    clear hPc hDc hFc hP1 hD1 hK1 hk1 hz1 hvm ht
    replace hP : va_P (dC, dI) vwCl [(fa_sites, .inl (cJ, 6, .inr (.inl fc_sites))), (fa_lanes, .inl (cI, 40, .inl fc_lanes)), (lh, .inr (1, [.ref fh, l_ahead, .int l_isOld, l_isReached, l_mayThrow, .int l_gatheredAny, .int l_gatheredLeast, .int l_gatheredGreatest])), (fh, .inr (0, [.int f_isReached, f_least, f_greatest, .ref fa_sites, .ref fa_maybeNull, f_known, .ref fa_lanes, f_shortest, f_longest, f_leastAt, f_greatestAt])), (fa_maybeNull, .inl (cZ, 6, .inl fc_maybeNull))] H_8 := hP2
    replace hD : va_D A [(fa_sites, .inl (cJ, 6, .inr (.inl fc_sites))), (fa_lanes, .inl (cI, 40, .inl fc_lanes)), (lh, .inr (1, [.ref fh, l_ahead, .int l_isOld, l_isReached, l_mayThrow, .int l_gatheredAny, .int l_gatheredLeast, .int l_gatheredGreatest])), (fh, .inr (0, [.int f_isReached, f_least, f_greatest, .ref fa_sites, .ref fa_maybeNull, f_known, .ref fa_lanes, f_shortest, f_longest, f_leastAt, f_greatestAt])), (fa_maybeNull, .inl (cZ, 6, .inl fc_maybeNull))] := hD2
    replace hS := hS1
    clear hP2 hD2 hS1
    replace hw_8 : ((fc_maybeNull (ra).toNatClampNeg).toInt = 0 ∨ lbit r_8 1) := hw_8
    have q_r_8 := hw_8
    refine lv_iload hx hb dX1_useThrows_37 (lv_at hl 0 rfl) ?_
    refine lv_iconst (v := 2) hx hb dX1_useThrows_39 (by decide) ?_
    refine vp_callSi (va_runS (As := [.int 0, .int 2]) (rest := [.int r_8]) ⟨hx, hb, hml, hown, hts⟩ (s_X1_bitIf l 0 2 (by first | assumption | omega)) (va_cwS 2 hts h_X1_useThrows_X1_bitIf_137 rfl rfl rfl (by decide +kernel) ⟨Nat.le_of_ble_eq_true rfl, Nat.le_of_ble_eq_true rfl⟩) ⟨fun _ _ _ _ q => q, fun _ _ _ => ⟨rfl, trivial⟩⟩ rfl rfl hl.1 rfl (lv_room (Nat.le_of_ble_eq_true rfl)) dX1_useThrows_40 ⟨Nat.le_of_ble_eq_true rfl, Nat.le_of_ble_eq_true rfl⟩).run (fun r_9 hw_9 => ?_)
    replace hw_9 : ((0 : Int32).toInt = 0 ∨ lbit r_9 ((2 : Int32)).toNatClampNeg) := hw_9
    have q_r_9 := hw_9
    refine lv_ior hx hb dX1_useThrows_43 ?_
    refine lv_topi (fun v_10 e_v_10 => ?_)
    refine lv_iload_n hx hb dX1_useThrows_44 rfl (lv_at hl 4 rfl) ?_
    refine lv_iconst (v := 5) hx hb dX1_useThrows_45 (by decide) ?_
    refine vp_callSi (va_runS (As := [.int ba, .int 5]) (rest := [.int v_10]) ⟨hx, hb, hml, hown, hts⟩ (s_X1_bitIf l ba 5 (by first | assumption | omega)) (va_cwS 2 hts h_X1_useThrows_X1_bitIf_137 rfl rfl rfl (by decide +kernel) ⟨Nat.le_of_ble_eq_true rfl, Nat.le_of_ble_eq_true rfl⟩) ⟨fun _ _ _ _ q => q, fun _ _ _ => ⟨rfl, trivial⟩⟩ rfl rfl hl.1 rfl (lv_room (Nat.le_of_ble_eq_true rfl)) dX1_useThrows_46 ⟨Nat.le_of_ble_eq_true rfl, Nat.le_of_ble_eq_true rfl⟩).run (fun r_11 hw_11 => ?_)
    replace hw_11 : (ba.toInt = 0 ∨ lbit r_11 ((5 : Int32)).toNatClampNeg) := hw_11
    have q_r_11 := hw_11
    refine lv_ior hx hb dX1_useThrows_49 ?_
    refine lv_topi (fun v_12 e_v_12 => ?_)
    have hP9 := hP.sub (ws' := [(lh, .inr (1, [.ref fh, l_ahead, .int l_isOld, l_isReached, l_mayThrow, .int l_gatheredAny, .int l_gatheredLeast, .int l_gatheredGreatest])), (fh, .inr (0, [.int f_isReached, f_least, f_greatest, .ref fa_sites, .ref fa_maybeNull, f_known, .ref fa_lanes, f_shortest, f_longest, f_leastAt, f_greatestAt])), (fa_sites, .inl (cJ, 6, .inr (.inl fc_sites))), (fa_maybeNull, .inl (cZ, 6, .inl fc_maybeNull)), (fa_lanes, .inl (cI, 40, .inl fc_lanes))]) [2, 3, 0, 4, 1] rfl
    have hD9 := hD.sub (ws' := [(lh, .inr (1, [.ref fh, l_ahead, .int l_isOld, l_isReached, l_mayThrow, .int l_gatheredAny, .int l_gatheredLeast, .int l_gatheredGreatest])), (fh, .inr (0, [.int f_isReached, f_least, f_greatest, .ref fa_sites, .ref fa_maybeNull, f_known, .ref fa_lanes, f_shortest, f_longest, f_leastAt, f_greatestAt])), (fa_sites, .inl (cJ, 6, .inr (.inl fc_sites))), (fa_maybeNull, .inl (cZ, 6, .inl fc_maybeNull)), (fa_lanes, .inl (cI, 40, .inl fc_lanes))]) [2, 3, 0, 4, 1] (by decide) rfl
    exact W.iret (v := v_12) hx hb hr (fun t ht hW => ⟨⟨v_12, (), rfl, (show ((fc_maybeNull (ra).toNatClampNeg).toInt = 0 ∨ lbit v_12 1) ∧ (∀ j : Nat, j < 40 → sbit (fc_sites (ra).toNatClampNeg) j → ∀ q : Nat, q < 3 → lbit (fc_lanes j) q → ¬ q = (la).toNatClampNeg → lbit v_12 2) ∧ (ba.toInt = 0 ∨ lbit v_12 5) from ⟨(q_r_8.elim Or.inl (fun h => Or.inr ((lb_or e_v_12 _).mpr (Or.inl ((lb_or e_v_10 _).mpr (Or.inl h)))))), (fun j hj hs q hq hl hn => absurd (lb_not (r := r_3) (w := v_6) ⟨by omega, by omega⟩ e_v_4 (by rw [e_v_6, e_v_5]) hq (q_r_3.2 j hj (by rw [e_v_1]; exact hs) q hl) hn) (fun h => h (by omega))), (by have b0 := q_r_11; rw [cl_5] at b0; exact b0.elim Or.inl (fun h => Or.inr ((lb_or e_v_12 _).mpr (Or.inr h))))⟩), by rw [ht]; exact hP9, va_K.moved hW.alike hK, hD9⟩, hS.F ht⟩) hS.2.2 dX1_useThrows_50
  · -- no
    have k_7 : ¬ v_6.toInt = (0 : Int32).toInt := ci_ne c_7
    refine lv_iconst (v := 1) hx hb dX1_useThrows_25 (by decide) ?_
    refine lv_goto (tgt := 30) hx hb dX1_useThrows_26 (by decide) ?_
    refine lv_istore (lv' := [(4, .int 1), (0, .ref lh), (1, .int ra), (2, .int la), (3, .int ba)]) hx hb dX1_useThrows_30 hl (by decide) rfl (fun ls1 hl1 => ?_)
    replace hl := hl1; clear hl1
    refine lv_aload_n hx hb dX1_useThrows_32 rfl (lv_at hl 1 rfl) ?_
    refine lv_iload_n hx hb dX1_useThrows_33 rfl (lv_at hl 2 rfl) ?_
    have hPc := hP.sub (ws' := [(lh, .inr (1, [.ref fh, l_ahead, .int l_isOld, l_isReached, l_mayThrow, .int l_gatheredAny, .int l_gatheredLeast, .int l_gatheredGreatest])), (fh, .inr (0, [.int f_isReached, f_least, f_greatest, .ref fa_sites, .ref fa_maybeNull, f_known, .ref fa_lanes, f_shortest, f_longest, f_leastAt, f_greatestAt])), (fa_maybeNull, .inl (cZ, 6, .inl fc_maybeNull))]) [0, 3, 2] rfl
    have hDc := hD.sub (ws' := [(lh, .inr (1, [.ref fh, l_ahead, .int l_isOld, l_isReached, l_mayThrow, .int l_gatheredAny, .int l_gatheredLeast, .int l_gatheredGreatest])), (fh, .inr (0, [.int f_isReached, f_least, f_greatest, .ref fa_sites, .ref fa_maybeNull, f_known, .ref fa_lanes, f_shortest, f_longest, f_leastAt, f_greatestAt])), (fa_maybeNull, .inl (cZ, 6, .inl fc_maybeNull))]) [0, 3, 2] (by decide) rfl
    have hFc := va_free (wc := [(lh, .inr (1, [.ref fh, l_ahead, .int l_isOld, l_isReached, l_mayThrow, .int l_gatheredAny, .int l_gatheredLeast, .int l_gatheredGreatest])), (fh, .inr (0, [.int f_isReached, f_least, f_greatest, .ref fa_sites, .ref fa_maybeNull, f_known, .ref fa_lanes, f_shortest, f_longest, f_leastAt, f_greatestAt])), (fa_maybeNull, .inl (cZ, 6, .inl fc_maybeNull))]) hD hS hA [0, 3, 2] rfl
    refine va_calli (va_runV (As := [.int ra]) (rest := []) ⟨hx, hb, hml, hown, hts⟩ (s_X1_nullBit l dC dI cI cJ cZ lh fh l_ahead l_isOld l_isReached l_mayThrow l_gatheredAny l_gatheredLeast l_gatheredGreatest f_isReached f_least f_greatest (.ref fa_sites) fa_maybeNull f_known (.ref fa_lanes) f_shortest f_longest f_leastAt f_greatestAt fc_maybeNull ra H_3.size q_l_isOld q_l_gatheredAny q_f_isReached h_fc_maybeNull (by first | assumption | omega)) (cwV 1 hts h_X1_useThrows_X1_nullBit_148 rfl rfl rfl (by decide +kernel) ⟨Nat.le_of_ble_eq_true rfl, Nat.le_of_ble_eq_true rfl⟩) ⟨cPre_blind, va_recv hK hPc (ci := 1) (q0 := 0) rfl rfl, cPre_of hK hN hPc hDc⟩ rfl rfl hl.1 rfl (lv_room (Nat.le_of_ble_eq_true rfl)) dX1_useThrows_34 ⟨Nat.le_of_ble_eq_true rfl, Nat.le_of_ble_eq_true rfl⟩) hS (fun q _ h => hFc q h) hFc (fun r_13 u_13 t_13 H_13 locs_13 ht hvm hw_13 hB hz1 hk1 hS1 => ?_)
    obtain ⟨hP1, hK1, hD1⟩ := hB
    rw [ht] at hP1
    obtain ⟨hP2, hD2⟩ := va_join (wr := [(fa_sites, .inl (cJ, 6, .inr (.inl fc_sites))), (fa_lanes, .inl (cI, 40, .inl fc_lanes))]) (w1 := [(lh, .inr (1, [.ref fh, l_ahead, .int l_isOld, l_isReached, l_mayThrow, .int l_gatheredAny, .int l_gatheredLeast, .int l_gatheredGreatest])), (fh, .inr (0, [.int f_isReached, f_least, f_greatest, .ref fa_sites, .ref fa_maybeNull, f_known, .ref fa_lanes, f_shortest, f_longest, f_leastAt, f_greatestAt])), (fa_maybeNull, .inl (cZ, 6, .inl fc_maybeNull))]) hP hD [0, 3, 2] [1, 4] rfl rfl (by decide) (by decide) hk1 hFc hP1 hD1
    clear hPc hDc hFc hP1 hD1 hK1 hk1 hz1 hvm ht
    replace hP : va_P (dC, dI) vwCl [(fa_sites, .inl (cJ, 6, .inr (.inl fc_sites))), (fa_lanes, .inl (cI, 40, .inl fc_lanes)), (lh, .inr (1, [.ref fh, l_ahead, .int l_isOld, l_isReached, l_mayThrow, .int l_gatheredAny, .int l_gatheredLeast, .int l_gatheredGreatest])), (fh, .inr (0, [.int f_isReached, f_least, f_greatest, .ref fa_sites, .ref fa_maybeNull, f_known, .ref fa_lanes, f_shortest, f_longest, f_leastAt, f_greatestAt])), (fa_maybeNull, .inl (cZ, 6, .inl fc_maybeNull))] H_13 := hP2
    replace hD : va_D A [(fa_sites, .inl (cJ, 6, .inr (.inl fc_sites))), (fa_lanes, .inl (cI, 40, .inl fc_lanes)), (lh, .inr (1, [.ref fh, l_ahead, .int l_isOld, l_isReached, l_mayThrow, .int l_gatheredAny, .int l_gatheredLeast, .int l_gatheredGreatest])), (fh, .inr (0, [.int f_isReached, f_least, f_greatest, .ref fa_sites, .ref fa_maybeNull, f_known, .ref fa_lanes, f_shortest, f_longest, f_leastAt, f_greatestAt])), (fa_maybeNull, .inl (cZ, 6, .inl fc_maybeNull))] := hD2
    replace hS := hS1
    clear hP2 hD2 hS1
    replace hw_13 : ((fc_maybeNull (ra).toNatClampNeg).toInt = 0 ∨ lbit r_13 1) := hw_13
    have q_r_13 := hw_13
    refine lv_iload hx hb dX1_useThrows_37 (lv_at hl 0 rfl) ?_
    refine lv_iconst (v := 2) hx hb dX1_useThrows_39 (by decide) ?_
    refine vp_callSi (va_runS (As := [.int 1, .int 2]) (rest := [.int r_13]) ⟨hx, hb, hml, hown, hts⟩ (s_X1_bitIf l 1 2 (by first | assumption | omega)) (va_cwS 2 hts h_X1_useThrows_X1_bitIf_137 rfl rfl rfl (by decide +kernel) ⟨Nat.le_of_ble_eq_true rfl, Nat.le_of_ble_eq_true rfl⟩) ⟨fun _ _ _ _ q => q, fun _ _ _ => ⟨rfl, trivial⟩⟩ rfl rfl hl.1 rfl (lv_room (Nat.le_of_ble_eq_true rfl)) dX1_useThrows_40 ⟨Nat.le_of_ble_eq_true rfl, Nat.le_of_ble_eq_true rfl⟩).run (fun r_14 hw_14 => ?_)
    replace hw_14 : ((1 : Int32).toInt = 0 ∨ lbit r_14 ((2 : Int32)).toNatClampNeg) := hw_14
    have q_r_14 := hw_14
    refine lv_ior hx hb dX1_useThrows_43 ?_
    refine lv_topi (fun v_15 e_v_15 => ?_)
    refine lv_iload_n hx hb dX1_useThrows_44 rfl (lv_at hl 4 rfl) ?_
    refine lv_iconst (v := 5) hx hb dX1_useThrows_45 (by decide) ?_
    refine vp_callSi (va_runS (As := [.int ba, .int 5]) (rest := [.int v_15]) ⟨hx, hb, hml, hown, hts⟩ (s_X1_bitIf l ba 5 (by first | assumption | omega)) (va_cwS 2 hts h_X1_useThrows_X1_bitIf_137 rfl rfl rfl (by decide +kernel) ⟨Nat.le_of_ble_eq_true rfl, Nat.le_of_ble_eq_true rfl⟩) ⟨fun _ _ _ _ q => q, fun _ _ _ => ⟨rfl, trivial⟩⟩ rfl rfl hl.1 rfl (lv_room (Nat.le_of_ble_eq_true rfl)) dX1_useThrows_46 ⟨Nat.le_of_ble_eq_true rfl, Nat.le_of_ble_eq_true rfl⟩).run (fun r_16 hw_16 => ?_)
    replace hw_16 : (ba.toInt = 0 ∨ lbit r_16 ((5 : Int32)).toNatClampNeg) := hw_16
    have q_r_16 := hw_16
    refine lv_ior hx hb dX1_useThrows_49 ?_
    refine lv_topi (fun v_17 e_v_17 => ?_)
    have hP9 := hP.sub (ws' := [(lh, .inr (1, [.ref fh, l_ahead, .int l_isOld, l_isReached, l_mayThrow, .int l_gatheredAny, .int l_gatheredLeast, .int l_gatheredGreatest])), (fh, .inr (0, [.int f_isReached, f_least, f_greatest, .ref fa_sites, .ref fa_maybeNull, f_known, .ref fa_lanes, f_shortest, f_longest, f_leastAt, f_greatestAt])), (fa_sites, .inl (cJ, 6, .inr (.inl fc_sites))), (fa_maybeNull, .inl (cZ, 6, .inl fc_maybeNull)), (fa_lanes, .inl (cI, 40, .inl fc_lanes))]) [2, 3, 0, 4, 1] rfl
    have hD9 := hD.sub (ws' := [(lh, .inr (1, [.ref fh, l_ahead, .int l_isOld, l_isReached, l_mayThrow, .int l_gatheredAny, .int l_gatheredLeast, .int l_gatheredGreatest])), (fh, .inr (0, [.int f_isReached, f_least, f_greatest, .ref fa_sites, .ref fa_maybeNull, f_known, .ref fa_lanes, f_shortest, f_longest, f_leastAt, f_greatestAt])), (fa_sites, .inl (cJ, 6, .inr (.inl fc_sites))), (fa_maybeNull, .inl (cZ, 6, .inl fc_maybeNull)), (fa_lanes, .inl (cI, 40, .inl fc_lanes))]) [2, 3, 0, 4, 1] (by decide) rfl
    exact W.iret (v := v_17) hx hb hr (fun t ht hW => ⟨⟨v_17, (), rfl, (show ((fc_maybeNull (ra).toNatClampNeg).toInt = 0 ∨ lbit v_17 1) ∧ (∀ j : Nat, j < 40 → sbit (fc_sites (ra).toNatClampNeg) j → ∀ q : Nat, q < 3 → lbit (fc_lanes j) q → ¬ q = (la).toNatClampNeg → lbit v_17 2) ∧ (ba.toInt = 0 ∨ lbit v_17 5) from ⟨(q_r_13.elim Or.inl (fun h => Or.inr ((lb_or e_v_17 _).mpr (Or.inl ((lb_or e_v_15 _).mpr (Or.inl h)))))), (fun j hj hs q hq hl hn => (lb_or e_v_17 _).mpr (Or.inl ((lb_or e_v_15 _).mpr (Or.inr (by have b0 := q_r_14; rw [cl_2] at b0; exact b0.resolve_left (by decide)))))), (by have b0 := q_r_16; rw [cl_5] at b0; exact b0.elim Or.inl (fun h => Or.inr ((lb_or e_v_17 _).mpr (Or.inr h))))⟩), by rw [ht]; exact hP9, va_K.moved hW.alike hK, hD9⟩, hS.F ht⟩) hS.2.2 dX1_useThrows_50
