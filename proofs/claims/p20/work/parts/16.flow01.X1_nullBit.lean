def v_X1_nullBit : List Cond := .code yX1_nullBit cX1_nullBit 2 (some .int) :: ([.fieldLink RX1 12 "ArraySegments$Flow" "now" "LArraySegments$Facts;", .fieldLink RX1 113 "ArraySegments$Facts" "maybeNull" "[Z", .methodLink RX1 137 yX1_bitIf, .static yX1_bitIf, .initialized RX1] ++ (wsX10 ++ (wsX00 ++ (v_X1_bitIf))))
theorem inv_X1_nullBit_X1 : ∀ w ∈ wsX10, w ∈ v_X1_nullBit := fun _ h => List.mem_cons_of_mem _ (List.mem_append_right _ (List.mem_append_left _ h))
theorem inv_X1_nullBit_X0 : ∀ w ∈ wsX00, w ∈ v_X1_nullBit := fun _ h => List.mem_cons_of_mem _ (List.mem_append_right _ (List.mem_append_right _ (List.mem_append_left _ h)))
theorem im_X1_nullBit_X1_bitIf : ∀ w ∈ v_X1_bitIf, w ∈ v_X1_nullBit := fun _ h => List.mem_cons_of_mem _ (List.mem_append_right _ (List.mem_append_right _ (List.mem_append_right _ (h))))
set_option maxRecDepth 20000 in
theorem gd_X1_nullBit : gdL v_X1_nullBit := gdC (gdW (by decide +kernel)) (gdA (gdW (by decide +kernel)) (gdA gd_wsX10 (gdA gd_wsX00 gd_X1_bitIf)))
set_option maxRecDepth 20000 in
theorem h_X1_nullBit_X1_bitIf_137 : GoodIn v_X1_nullBit (va_wsS RX1 137 yX1_bitIf v_X1_bitIf) := gdI [3, 4, 5] rfl (by decide +kernel) (im_X1_nullBit_X1_bitIf) gd_X1_bitIf
abbrev sw_X1_nullBit (cI cJ cZ : ClassId) (lh : Nat) (fh : Nat) (l_ahead : Value) (l_isOld : Int32) (l_isReached : Value) (l_mayThrow : Value) (l_gatheredAny : Int32) (l_gatheredLeast : Int32) (l_gatheredGreatest : Int32) (f_isReached : Int32) (f_least : Value) (f_greatest : Value) (f_sites : Value) (fa_maybeNull : Nat) (f_known : Value) (f_lanes : Value) (f_shortest : Value) (f_longest : Value) (f_leastAt : Value) (f_greatestAt : Value) (fc_maybeNull : Nat → Int32) (ra : Int32) : va_W := [(lh, .inr (1, [.ref fh, l_ahead, .int l_isOld, l_isReached, l_mayThrow, .int l_gatheredAny, .int l_gatheredLeast, .int l_gatheredGreatest])), (fh, .inr (0, [.int f_isReached, f_least, f_greatest, f_sites, .ref fa_maybeNull, f_known, f_lanes, f_shortest, f_longest, f_leastAt, f_greatestAt])), (fa_maybeNull, .inl (cZ, 6, .inl fc_maybeNull))]
set_option maxHeartbeats 8000000 in
set_option maxRecDepth 100000 in
theorem s_X1_nullBit (l : Launch) (dC : Nat → ClassId) (dI : Nat → Nat → Nat) (cI cJ cZ : ClassId) (lh : Nat) (fh : Nat) (l_ahead : Value) (l_isOld : Int32) (l_isReached : Value) (l_mayThrow : Value) (l_gatheredAny : Int32) (l_gatheredLeast : Int32) (l_gatheredGreatest : Int32) (f_isReached : Int32) (f_least : Value) (f_greatest : Value) (f_sites : Value) (fa_maybeNull : Nat) (f_known : Value) (f_lanes : Value) (f_shortest : Value) (f_longest : Value) (f_leastAt : Value) (f_greatestAt : Value) (fc_maybeNull : Nat → Int32) (ra : Int32) (sz : Nat) (q_l_isOld : kZ l_isOld) (q_l_gatheredAny : kZ l_gatheredAny) (q_f_isReached : kZ f_isReached) (h_fc_maybeNull : ∀ j : Nat, kZ (fc_maybeNull j)) (hy_ra : V6 ra) : Met l yX1_nullBit v_X1_nullBit ({ frames := 1, cells := 0, slots := 0, locals := 21 }) (va_Pc [.ref lh, .int ra] (cPre dC dI cI cJ cZ sz (sw_X1_nullBit cI cJ cZ lh fh l_ahead l_isOld l_isReached l_mayThrow l_gatheredAny l_gatheredLeast l_gatheredGreatest f_isReached f_least f_greatest f_sites fa_maybeNull f_known f_lanes f_shortest f_longest f_leastAt f_greatestAt fc_maybeNull ra))) (va_Qi (fun (r : Int32) (u : Unit) => ((fc_maybeNull (ra).toNatClampNeg).toInt = 0 ∨ lbit r 1)) (fun (u : Unit) => cPost dC dI cI cJ cZ (va_A (sw_X1_nullBit cI cJ cZ lh fh l_ahead l_isOld l_isReached l_mayThrow l_gatheredAny l_gatheredLeast l_gatheredGreatest f_isReached f_least f_greatest f_sites fa_maybeNull f_known f_lanes f_shortest f_longest f_leastAt f_greatestAt fc_maybeNull ra) sz) [(lh, .inr (1, [.ref fh, l_ahead, .int l_isOld, l_isReached, l_mayThrow, .int l_gatheredAny, .int l_gatheredLeast, .int l_gatheredGreatest])), (fh, .inr (0, [.int f_isReached, f_least, f_greatest, f_sites, .ref fa_maybeNull, f_known, f_lanes, f_shortest, f_longest, f_leastAt, f_greatestAt])), (fa_maybeNull, .inl (cZ, 6, .inl fc_maybeNull))]) (va_A (sw_X1_nullBit cI cJ cZ lh fh l_ahead l_isOld l_isReached l_mayThrow l_gatheredAny l_gatheredLeast l_gatheredGreatest f_isReached f_least f_greatest f_sites fa_maybeNull f_known f_lanes f_shortest f_longest f_leastAt f_greatestAt fc_maybeNull ra) sz)) 0 0 (va_A (sw_X1_nullBit cI cJ cZ lh fh l_ahead l_isOld l_isReached l_mayThrow l_gatheredAny l_gatheredLeast l_gatheredGreatest f_isReached f_least f_greatest f_sites fa_maybeNull f_known f_lanes f_shortest f_longest f_leastAt f_greatestAt fc_maybeNull ra) sz) := by
  refine Met.ofW (cc := cX1_nullBit) (maxL := 2) (ret := (some .int)) (by decide) rfl ?_
  intro p e s m args below meth c s₁ B hml hv
  obtain ⟨rfl, hsz, hP, hK, hD0, hN⟩ := hv
  have hx := B.exec
  have hb := B.bytes
  have hr := B.returns
  have hts := atoms_spec (ws := v_X1_nullBit) B.pre
  have hown : s.vm.findClass RX1 = some m.cls := findClass_of_methodNamed B.named
  have hlocks := B.notSynchronized
  subst hsz
  have hD := hD0.self (sz := s.heap.size)
  generalize hAe : va_A (sw_X1_nullBit cI cJ cZ lh fh l_ahead l_isOld l_isReached l_mayThrow l_gatheredAny l_gatheredLeast l_gatheredGreatest f_isReached f_least f_greatest f_sites fa_maybeNull f_known f_lanes f_shortest f_longest f_leastAt f_greatestAt fc_maybeNull ra) s.heap.size = A at hD ⊢
  have hA : ∀ q : Nat, s.heap.size ≤ q → A q := fun q h => by rw [← hAe]; exact Or.inr h
  clear hAe hD0
  have hS : va_S A s.heap s.heap [] := va_S.rf
  replace hP : va_P (dC, dI) vwCl [(lh, .inr (1, [.ref fh, l_ahead, .int l_isOld, l_isReached, l_mayThrow, .int l_gatheredAny, .int l_gatheredLeast, .int l_gatheredGreatest])), (fh, .inr (0, [.int f_isReached, f_least, f_greatest, f_sites, .ref fa_maybeNull, f_known, f_lanes, f_shortest, f_longest, f_leastAt, f_greatestAt])), (fa_maybeNull, .inl (cZ, 6, .inl fc_maybeNull))] s.heap := hP
  replace hD : va_D A [(lh, .inr (1, [.ref fh, l_ahead, .int l_isOld, l_isReached, l_mayThrow, .int l_gatheredAny, .int l_gatheredLeast, .int l_gatheredGreatest])), (fh, .inr (0, [.int f_isReached, f_least, f_greatest, f_sites, .ref fa_maybeNull, f_known, f_lanes, f_shortest, f_longest, f_leastAt, f_greatestAt])), (fa_maybeNull, .inl (cZ, 6, .inl fc_maybeNull))] := hD
  have hl := lv_entry ([.ref lh, .int ra]) (n := 2) (Nat.le_of_ble_eq_true rfl)
  rw [lg_entry_eq]
  generalize (lg_sl ([.ref lh, .int ra]) ++ List.replicate (2 - (lg_sl ([.ref lh, .int ra])).length) Slot.unset).toArray = ls at hl ⊢
  replace hl : lv_has ls 2 [(0, .ref lh), (1, .int ra)] := hl
  have z_0 : (0 : Int32).toInt = 0 := by decide
  have z_1 : (1 : Int32).toInt = 1 := by decide
  refine lv_aload_n hx hb dX1_nullBit_0 rfl (lv_at hl 0 rfl) ?_
  refine va_get (D := (dC, dI)) (ci := 1) (v := .ref fh) (C := RX1) (T := TX1) (N := 8) hx hb hts inv_X1_nullBit_X1 hown hK hP 0 rfl rfl 0 (by decide) (hts (.fieldLink RX1 12 "ArraySegments$Flow" "now" "LArraySegments$Facts;") (List.mem_of_getElem? (i := 1) rfl)) (fun _ h9 => h9) rfl dX1_nullBit_1 ?_
  refine va_get (D := (dC, dI)) (ci := 0) (v := .ref fa_maybeNull) (C := RX0) (T := TX0) (N := 11) hx hb hts inv_X1_nullBit_X0 hown hK hP 1 rfl rfl 4 (by decide) (hts (.fieldLink RX1 113 "ArraySegments$Facts" "maybeNull" "[Z") (List.mem_of_getElem? (i := 2) rfl)) (fun _ h9 => h9) rfl dX1_nullBit_4 ?_
  refine lv_iload_n hx hb dX1_nullBit_7 rfl (lv_at hl 1 rfl) ?_
  refine sf_zald kZ hx hb hK hP 2 2 rfl rfl h_fc_maybeNull (vp_in_iff.mpr ⟨by omega, by omega⟩) dX1_nullBit_8 (fun v_1 q_v_1 e_v_1 => ?_)
  have et_v_1 : v_1.toInt = (fc_maybeNull (ra).toNatClampNeg).toInt := by rw [e_v_1]
  have ni_2 := nn_cl (z := ra) (by omega)
  have qi_v_1 := kz_to q_v_1
  refine lv_iconst (v := 1) hx hb dX1_nullBit_9 (by decide) ?_
  refine vp_callSi (va_runS (As := [.int v_1, .int 1]) (rest := []) ⟨hx, hb, hml, hown, hts⟩ (s_X1_bitIf l v_1 1 (by first | assumption | omega)) (va_cwS 2 hts h_X1_nullBit_X1_bitIf_137 rfl rfl rfl (by decide +kernel) ⟨Nat.le_of_ble_eq_true rfl, Nat.le_of_ble_eq_true rfl⟩) ⟨fun _ _ _ _ q => q, fun _ _ _ => ⟨rfl, trivial⟩⟩ rfl rfl hl.1 rfl (lv_room (Nat.le_of_ble_eq_true rfl)) dX1_nullBit_10 ⟨Nat.le_of_ble_eq_true rfl, Nat.le_of_ble_eq_true rfl⟩).run (fun r_3 hw_3 => ?_)
  replace hw_3 : (v_1.toInt = 0 ∨ lbit r_3 ((1 : Int32)).toNatClampNeg) := hw_3
  have q_r_3 := hw_3
  have hP9 := hP.sub (ws' := [(lh, .inr (1, [.ref fh, l_ahead, .int l_isOld, l_isReached, l_mayThrow, .int l_gatheredAny, .int l_gatheredLeast, .int l_gatheredGreatest])), (fh, .inr (0, [.int f_isReached, f_least, f_greatest, f_sites, .ref fa_maybeNull, f_known, f_lanes, f_shortest, f_longest, f_leastAt, f_greatestAt])), (fa_maybeNull, .inl (cZ, 6, .inl fc_maybeNull))]) [0, 1, 2] rfl
  have hD9 := hD.sub (ws' := [(lh, .inr (1, [.ref fh, l_ahead, .int l_isOld, l_isReached, l_mayThrow, .int l_gatheredAny, .int l_gatheredLeast, .int l_gatheredGreatest])), (fh, .inr (0, [.int f_isReached, f_least, f_greatest, f_sites, .ref fa_maybeNull, f_known, f_lanes, f_shortest, f_longest, f_leastAt, f_greatestAt])), (fa_maybeNull, .inl (cZ, 6, .inl fc_maybeNull))]) [0, 1, 2] (by decide) rfl
  exact W.iret (v := r_3) hx hb hr (fun t ht hW => ⟨⟨r_3, (), rfl, (show (fc_maybeNull (ra).toNatClampNeg).toInt = 0 ∨ lbit r_3 1 from (by have b0 := q_r_3; rw [cl_1] at b0; rcases b0 with h | h; (· exact Or.inl (by omega)); (· exact Or.inr h))), by rw [ht]; exact hP9, va_K.moved hW.alike hK, hD9⟩, hS.F ht⟩) hS.2.2 dX1_nullBit_13
