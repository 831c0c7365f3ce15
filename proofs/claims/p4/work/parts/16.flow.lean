def v_X1_firstSite : List Cond := .code yX1_firstSite cX1_firstSite 3 (some .int) :: ([.initialized RX4, .static yX4_isIn] ++ (v_X4_isIn))
theorem im_X1_firstSite_X4_isIn : ∀ w ∈ v_X4_isIn, w ∈ v_X1_firstSite := fun _ h => List.mem_cons_of_mem _ (List.mem_append_right _ (h))
set_option maxRecDepth 20000 in
theorem gd_X1_firstSite : gdL v_X1_firstSite := gdC (gdW (by decide +kernel)) (gdA (gdW (by decide +kernel)) gd_X4_isIn)
theorem h_X1_firstSite_X4_isIn_155 : GoodIn v_X1_firstSite (v_X4_isIn) := fun w h => ⟨im_X1_firstSite_X4_isIn w h, gd_X4_isIn w h⟩
abbrev sw_X1_firstSite (cI cJ cZ : ClassId) (ala : Int64) : va_W := []
set_option maxHeartbeats 8000000 in
set_option maxRecDepth 100000 in
theorem s_X1_firstSite (l : Launch) (dC : Nat → ClassId) (dI : Nat → Nat → Nat) (cI cJ cZ : ClassId) (ala : Int64) (sz : Nat) : Met l yX1_firstSite v_X1_firstSite ({ frames := 1, cells := 0, slots := 0, locals := 22 }) (va_Pc [.long ala] (cPre dC dI cI cJ cZ sz (sw_X1_firstSite cI cJ cZ ala))) (va_Qi (fun (r : Int32) (u : Unit) => (0 ≤ r.toInt ∧ r.toInt ≤ 39)) (fun (u : Unit) => cPost dC dI cI cJ cZ (va_A (sw_X1_firstSite cI cJ cZ ala) sz) []) (va_A (sw_X1_firstSite cI cJ cZ ala) sz)) 0 0 (va_A (sw_X1_firstSite cI cJ cZ ala) sz) := by
  refine Met.ofW (cc := cX1_firstSite) (maxL := 3) (ret := (some .int)) (by decide) rfl ?_
  intro p e s m args below meth c s₁ B hml hv
  obtain ⟨rfl, hsz, hP, hK, hD0, hN⟩ := hv
  have hx := B.exec
  have hb := B.bytes
  have hr := B.returns
  have hts := atoms_spec (ws := v_X1_firstSite) B.pre
  have hown : s.vm.findClass RX1 = some m.cls := findClass_of_methodNamed B.named
  have hlocks := B.notSynchronized
  subst hsz
  have hD := hD0.self (sz := s.heap.size)
  generalize hAe : va_A (sw_X1_firstSite cI cJ cZ ala) s.heap.size = A at hD ⊢
  have hA : ∀ q : Nat, s.heap.size ≤ q → A q := fun q h => by rw [← hAe]; exact Or.inr h
  clear hAe hD0
  have hS : va_S A s.heap s.heap [] := va_S.rf
  replace hP : va_P (dC, dI) vwCl [] s.heap := hP
  replace hD : va_D A [] := hD
  have hl := lv_entry ([.long ala]) (n := 3) (Nat.le_of_ble_eq_true rfl)
  rw [lg_entry_eq]
  generalize (lg_sl ([.long ala]) ++ List.replicate (3 - (lg_sl ([.long ala])).length) Slot.unset).toArray = ls at hl ⊢
  replace hl : lv_has ls 3 [(0, .long ala)] := hl
  have z_0 : (0 : Int32).toInt = 0 := by decide
  have z_1 : (1 : Int32).toInt = 1 := by decide
  have z_40 : (40 : Int32).toInt = 40 := by decide
  refine lv_iconst (v := 0) hx hb dX1_firstSite_0 (by decide) ?_
  refine lv_istore_n (lv' := [(2, .int 0), (0, .long ala)]) hx hb dX1_firstSite_1 rfl hl (by decide) rfl (fun ls1 hl1 => ?_)
  replace hl := hl1; clear hl1
  refine my_wloop (S := Int32) (fun u => (0 ≤ (u).toInt ∧ (u).toInt ≤ 40)) (fun u => (40 - (u).toInt).toNat) (fun u => []) (fun u => [(2, .int (u)), (0, .long ala)]) (H0 := s.heap) (A := A) (D := (dC, dI)) (cl := vwCl) (0 : Int32) (show (0 ≤ (0 : Int32).toInt ∧ (0 : Int32).toInt ≤ 40) from ⟨by omega, by omega⟩) (by exact hP) (by exact hD) hS (by exact hl) (fun u_1 hu_1 ih_1 H_1 locs_1 ls1 hP1 hD1 hS1 hl1 => ?_)
  obtain ⟨v_2, rfl⟩ : ∃ z, z = u_1 := ⟨_, rfl⟩
  replace hu_1 : (0 ≤ v_2.toInt ∧ v_2.toInt ≤ 40) := hu_1
  have q_v_2 := hu_1
  replace hP : va_P (dC, dI) vwCl [] H_1 := hP1
  replace hD : va_D A [] := hD1
  replace hS := hS1
  clear hP1 hD1 hS1
  replace hl : lv_has ls1 3 [(2, .int v_2), (0, .long ala)] := hl1
  clear hl1
  refine lv_iload_n hx hb dX1_firstSite_2 rfl (lv_at hl 0 rfl) ?_
  refine lv_bipush (v := 40) hx hb dX1_firstSite_3 (by decide) ?_
  refine lv_icmp_ge (tgt := 24) hx hb dX1_firstSite_5 (by decide) (fun c_3 => ?_) (fun c_3 => ?_)
  · -- yes
    have k_3 : (40 : Int32).toInt ≤ v_2.toInt := ci_ge c_3
    refine lv_iconst (v := 0) hx hb dX1_firstSite_24 (by decide) ?_
    have hP9 := hP.sub (ws' := []) [] rfl
    have hD9 := hD.sub (ws' := []) [] (by decide) rfl
    exact W.iret (v := 0) hx hb hr (fun t ht hW => ⟨⟨0, (), rfl, (show 0 ≤ (0 : Int32).toInt ∧ (0 : Int32).toInt ≤ 39 from (by first | assumption | omega)), by rw [ht]; exact hP9, va_K.moved hW.alike hK, hD9⟩, hS.F ht⟩) hS.2.2 dX1_firstSite_25
  · -- no
    have k_3 : v_2.toInt < (40 : Int32).toInt := ci_nge c_3
    refine lv_lload_n hx hb dX1_firstSite_8 rfl (lv_at hl 1 rfl) ?_
    refine lv_iload_n hx hb dX1_firstSite_9 rfl (lv_at hl 0 rfl) ?_
    refine vp_callSi (va_runSN (As := [.long ala, .int v_2]) (rest := []) ⟨hx, hb, hml, hown, hts⟩ (s_X4_isIn l ala v_2) (⟨va_cnB 2 hts h_X1_firstSite_X4_isIn_155 rfl rfl rfl (hN.2.2.2.2.2.2.2.1) (hts (.initialized RX4) (List.mem_of_getElem? (i := 1) rfl)) (by decide +kernel) ⟨Nat.le_of_ble_eq_true rfl, Nat.le_of_ble_eq_true rfl⟩, hts (.static yX4_isIn) (List.mem_of_getElem? (i := 2) rfl), trivial⟩) ⟨fun _ _ _ _ q => q, fun _ _ _ => ⟨rfl, trivial⟩⟩ rfl rfl hl.1 rfl (lv_room (Nat.le_of_ble_eq_true rfl)) dX1_firstSite_10 ⟨Nat.le_of_ble_eq_true rfl, Nat.le_of_ble_eq_true rfl⟩).run (fun r_4 hw_4 => ?_)
    replace hw_4 : (kZ r_4) := hw_4
    have q_r_4 := hw_4
    refine lv_if_eq (tgt := 18) hx hb dX1_firstSite_13 (by decide) (fun c_5 => ?_) (fun c_5 => ?_)
    · -- yes
      have k_5 : r_4.toInt = (0 : Int32).toInt := ci_eq c_5
      refine sf_iinc hx hb dX1_firstSite_18 hl (k := 0) (x := v_2) (w := 1) rfl (by decide) (by decide) ⟨by omega, by omega⟩ (fun v_6 q_v_6 ls1 hl1 => ?_)
      replace hl : lv_has ls1 3 [(2, .int v_6), (0, .long ala)] := hl1
      clear hl1
      refine lv_goto (tgt := 2) hx hb dX1_firstSite_21 (by decide) ?_
      exact ih_1 v_6 (show (0 ≤ v_6.toInt ∧ v_6.toInt ≤ 40) from ⟨by omega, by omega⟩) (by show (40 - v_6.toInt).toNat < (40 - v_2.toInt).toNat; omega) _ _ _ (hP.sub [] rfl) (hD.sub [] (by decide) rfl) hS (lv_sub hl [0, 1] rfl)
    · -- no
      have k_5 : ¬ r_4.toInt = (0 : Int32).toInt := ci_ne c_5
      refine lv_iload_n hx hb dX1_firstSite_16 rfl (lv_at hl 0 rfl) ?_
      have hP9 := hP.sub (ws' := []) [] rfl
      have hD9 := hD.sub (ws' := []) [] (by decide) rfl
      exact W.iret (v := v_2) hx hb hr (fun t ht hW => ⟨⟨v_2, (), rfl, (show 0 ≤ v_2.toInt ∧ v_2.toInt ≤ 39 from (by first | assumption | omega)), by rw [ht]; exact hP9, va_K.moved hW.alike hK, hD9⟩, hS.F ht⟩) hS.2.2 dX1_firstSite_17

def v_X1_nullBit : List Cond := .code yX1_nullBit cX1_nullBit 2 (some .int) :: ([.fieldLink RX1 12 "ArraySegments$Flow" "now" "LArraySegments$Facts;", .fieldLink RX1 113 "ArraySegments$Facts" "maybeNull" "[Z", .methodLink RX1 137 yX1_bitIf, .static yX1_bitIf, .initialized RX1] ++ (wsX10 ++ (wsX00 ++ (v_X1_bitIf))))
theorem inv_X1_nullBit_X1 : ∀ w ∈ wsX10, w ∈ v_X1_nullBit := fun _ h => List.mem_cons_of_mem _ (List.mem_append_right _ (List.mem_append_left _ h))
theorem inv_X1_nullBit_X0 : ∀ w ∈ wsX00, w ∈ v_X1_nullBit := fun _ h => List.mem_cons_of_mem _ (List.mem_append_right _ (List.mem_append_right _ (List.mem_append_left _ h)))
theorem im_X1_nullBit_X1_bitIf : ∀ w ∈ v_X1_bitIf, w ∈ v_X1_nullBit := fun _ h => List.mem_cons_of_mem _ (List.mem_append_right _ (List.mem_append_right _ (List.mem_append_right _ (h))))
set_option maxRecDepth 20000 in
theorem gd_X1_nullBit : gdL v_X1_nullBit := gdC (gdW (by decide +kernel)) (gdA (gdW (by decide +kernel)) (gdA gd_wsX10 (gdA gd_wsX00 gd_X1_bitIf)))
set_option maxRecDepth 20000 in
theorem h_X1_nullBit_X1_bitIf_137 : GoodIn v_X1_nullBit (va_wsS RX1 137 yX1_bitIf v_X1_bitIf) := gdI [3, 4, 5] rfl (by decide +kernel) (im_X1_nullBit_X1_bitIf) gd_X1_bitIf
abbrev sw_X1_nullBit (cI cJ cZ : ClassId) (lh : Nat) (fh : Nat) (l_ahead : Value) (l_isOld : Int32) (l_isReached : Value) (l_mayThrow : Value) (l_gatheredAny : Int32) (l_gatheredLeast : Int32) (l_gatheredGreatest : Int32) (f_isReached : Int32) (f_least : Value) (f_greatest : Value) (f_sites : Value) (fa_maybeNull : Nat) (f_known : Value) (f_lanes : Value) (f_shortest : Value) (f_longest : Value) (f_leastAt : Value) (f_greatestAt : Value) (fc_maybeNull : Nat → Int32) (ra : Int32) : va_W := [(lh, .inr (1, [.ref fh, l_ahead, .int l_isOld, l_isReached, l_mayThrow, .int l_gatheredAny, .int l_gatheredLeast, .int l_gatheredGreatest])), (fh, .inr (0, [.int f_isReached, f_least, f_greatest, f_sites, .ref fa_maybeNull, f_known, f_lanes, f_shortest, f_longest, f_leastAt, f_greatestAt])), (fa_maybeNull, .inl (cZ, 6, .inl fc_maybeNull))]
set_option maxHeartbeats 8000000 in
set_option maxRecDepth 100000 in
theorem s_X1_nullBit (l : Launch) (dC : Nat → ClassId) (dI : Nat → Nat → Nat) (cI cJ cZ : ClassId) (lh : Nat) (fh : Nat) (l_ahead : Value) (l_isOld : Int32) (l_isReached : Value) (l_mayThrow : Value) (l_gatheredAny : Int32) (l_gatheredLeast : Int32) (l_gatheredGreatest : Int32) (f_isReached : Int32) (f_least : Value) (f_greatest : Value) (f_sites : Value) (fa_maybeNull : Nat) (f_known : Value) (f_lanes : Value) (f_shortest : Value) (f_longest : Value) (f_leastAt : Value) (f_greatestAt : Value) (fc_maybeNull : Nat → Int32) (ra : Int32) (sz : Nat) (q_l_isOld : kZ l_isOld) (q_l_gatheredAny : kZ l_gatheredAny) (q_f_isReached : kZ f_isReached) (h_fc_maybeNull : ∀ j : Nat, kZ (fc_maybeNull j)) (hy_ra : V6 ra) : Met l yX1_nullBit v_X1_nullBit ({ frames := 1, cells := 0, slots := 0, locals := 21 }) (va_Pc [.ref lh, .int ra] (cPre dC dI cI cJ cZ sz (sw_X1_nullBit cI cJ cZ lh fh l_ahead l_isOld l_isReached l_mayThrow l_gatheredAny l_gatheredLeast l_gatheredGreatest f_isReached f_least f_greatest f_sites fa_maybeNull f_known f_lanes f_shortest f_longest f_leastAt f_greatestAt fc_maybeNull ra))) (va_Qi (fun (r : Int32) (u : Unit) => True) (fun (u : Unit) => cPost dC dI cI cJ cZ (va_A (sw_X1_nullBit cI cJ cZ lh fh l_ahead l_isOld l_isReached l_mayThrow l_gatheredAny l_gatheredLeast l_gatheredGreatest f_isReached f_least f_greatest f_sites fa_maybeNull f_known f_lanes f_shortest f_longest f_leastAt f_greatestAt fc_maybeNull ra) sz) [(lh, .inr (1, [.ref fh, l_ahead, .int l_isOld, l_isReached, l_mayThrow, .int l_gatheredAny, .int l_gatheredLeast, .int l_gatheredGreatest])), (fh, .inr (0, [.int f_isReached, f_least, f_greatest, f_sites, .ref fa_maybeNull, f_known, f_lanes, f_shortest, f_longest, f_leastAt, f_greatestAt])), (fa_maybeNull, .inl (cZ, 6, .inl fc_maybeNull))]) (va_A (sw_X1_nullBit cI cJ cZ lh fh l_ahead l_isOld l_isReached l_mayThrow l_gatheredAny l_gatheredLeast l_gatheredGreatest f_isReached f_least f_greatest f_sites fa_maybeNull f_known f_lanes f_shortest f_longest f_leastAt f_greatestAt fc_maybeNull ra) sz)) 0 0 (va_A (sw_X1_nullBit cI cJ cZ lh fh l_ahead l_isOld l_isReached l_mayThrow l_gatheredAny l_gatheredLeast l_gatheredGreatest f_isReached f_least f_greatest f_sites fa_maybeNull f_known f_lanes f_shortest f_longest f_leastAt f_greatestAt fc_maybeNull ra) sz) := by
  refine Met.ofW (cc := cX1_nullBit) (maxL := 2) (ret := (some .int)) (by decide) rfl ?_
  intro p e s m args below meth c s₁ B hml hv
  obtain ⟨rfl, hsz, hP, hK, hD0, hN⟩ := hv
  have hx := B.exec
  have hb := B.bytes
  have hr := B.returns
  have hts := atoms_spec (ws := v_X1_nullBit) B.pre
  have hown : s.vm.findClass RX1 = some m.cls := findClass_of_methodNamed B.named
  have hlocks := B.notSynchronized
  subst hsz
  have hD := hD0.self (sz := s.heap.size)
  generalize hAe : va_A (sw_X1_nullBit cI cJ cZ lh fh l_ahead l_isOld l_isReached l_mayThrow l_gatheredAny l_gatheredLeast l_gatheredGreatest f_isReached f_least f_greatest f_sites fa_maybeNull f_known f_lanes f_shortest f_longest f_leastAt f_greatestAt fc_maybeNull ra) s.heap.size = A at hD ⊢
  have hA : ∀ q : Nat, s.heap.size ≤ q → A q := fun q h => by rw [← hAe]; exact Or.inr h
  clear hAe hD0
  have hS : va_S A s.heap s.heap [] := va_S.rf
  replace hP : va_P (dC, dI) vwCl [(lh, .inr (1, [.ref fh, l_ahead, .int l_isOld, l_isReached, l_mayThrow, .int l_gatheredAny, .int l_gatheredLeast, .int l_gatheredGreatest])), (fh, .inr (0, [.int f_isReached, f_least, f_greatest, f_sites, .ref fa_maybeNull, f_known, f_lanes, f_shortest, f_longest, f_leastAt, f_greatestAt])), (fa_maybeNull, .inl (cZ, 6, .inl fc_maybeNull))] s.heap := hP
  replace hD : va_D A [(lh, .inr (1, [.ref fh, l_ahead, .int l_isOld, l_isReached, l_mayThrow, .int l_gatheredAny, .int l_gatheredLeast, .int l_gatheredGreatest])), (fh, .inr (0, [.int f_isReached, f_least, f_greatest, f_sites, .ref fa_maybeNull, f_known, f_lanes, f_shortest, f_longest, f_leastAt, f_greatestAt])), (fa_maybeNull, .inl (cZ, 6, .inl fc_maybeNull))] := hD
  have hl := lv_entry ([.ref lh, .int ra]) (n := 2) (Nat.le_of_ble_eq_true rfl)
  rw [lg_entry_eq]
  generalize (lg_sl ([.ref lh, .int ra]) ++ List.replicate (2 - (lg_sl ([.ref lh, .int ra])).length) Slot.unset).toArray = ls at hl ⊢
  replace hl : lv_has ls 2 [(0, .ref lh), (1, .int ra)] := hl
  have z_0 : (0 : Int32).toInt = 0 := by decide
  have z_1 : (1 : Int32).toInt = 1 := by decide
  refine lv_aload_n hx hb dX1_nullBit_0 rfl (lv_at hl 0 rfl) ?_
  refine va_get (D := (dC, dI)) (ci := 1) (v := .ref fh) (C := RX1) (T := TX1) (N := 8) hx hb hts inv_X1_nullBit_X1 hown hK hP 0 rfl rfl 0 (by decide) (hts (.fieldLink RX1 12 "ArraySegments$Flow" "now" "LArraySegments$Facts;") (List.mem_of_getElem? (i := 1) rfl)) (fun _ h9 => h9) rfl dX1_nullBit_1 ?_
  refine va_get (D := (dC, dI)) (ci := 0) (v := .ref fa_maybeNull) (C := RX0) (T := TX0) (N := 11) hx hb hts inv_X1_nullBit_X0 hown hK hP 1 rfl rfl 4 (by decide) (hts (.fieldLink RX1 113 "ArraySegments$Facts" "maybeNull" "[Z") (List.mem_of_getElem? (i := 2) rfl)) (fun _ h9 => h9) rfl dX1_nullBit_4 ?_
  refine lv_iload_n hx hb dX1_nullBit_7 rfl (lv_at hl 1 rfl) ?_
  refine sf_zald kZ hx hb hK hP 2 2 rfl rfl h_fc_maybeNull (vp_in_iff.mpr ⟨by omega, by omega⟩) dX1_nullBit_8 (fun v_1 q_v_1 e_v_1 => ?_)
  refine lv_iconst (v := 1) hx hb dX1_nullBit_9 (by decide) ?_
  refine vp_callSi (va_runS (As := [.int v_1, .int 1]) (rest := []) ⟨hx, hb, hml, hown, hts⟩ (s_X1_bitIf l v_1 1) (va_cwS 2 hts h_X1_nullBit_X1_bitIf_137 rfl rfl rfl (by decide +kernel) ⟨Nat.le_of_ble_eq_true rfl, Nat.le_of_ble_eq_true rfl⟩) ⟨fun _ _ _ _ q => q, fun _ _ _ => ⟨rfl, trivial⟩⟩ rfl rfl hl.1 rfl (lv_room (Nat.le_of_ble_eq_true rfl)) dX1_nullBit_10 ⟨Nat.le_of_ble_eq_true rfl, Nat.le_of_ble_eq_true rfl⟩).run (fun r_2 hw_2 => ?_)
  have hP9 := hP.sub (ws' := [(lh, .inr (1, [.ref fh, l_ahead, .int l_isOld, l_isReached, l_mayThrow, .int l_gatheredAny, .int l_gatheredLeast, .int l_gatheredGreatest])), (fh, .inr (0, [.int f_isReached, f_least, f_greatest, f_sites, .ref fa_maybeNull, f_known, f_lanes, f_shortest, f_longest, f_leastAt, f_greatestAt])), (fa_maybeNull, .inl (cZ, 6, .inl fc_maybeNull))]) [0, 1, 2] rfl
  have hD9 := hD.sub (ws' := [(lh, .inr (1, [.ref fh, l_ahead, .int l_isOld, l_isReached, l_mayThrow, .int l_gatheredAny, .int l_gatheredLeast, .int l_gatheredGreatest])), (fh, .inr (0, [.int f_isReached, f_least, f_greatest, f_sites, .ref fa_maybeNull, f_known, f_lanes, f_shortest, f_longest, f_leastAt, f_greatestAt])), (fa_maybeNull, .inl (cZ, 6, .inl fc_maybeNull))]) [0, 1, 2] (by decide) rfl
  exact W.iret (v := r_2) hx hb hr (fun t ht hW => ⟨⟨r_2, (), rfl, trivial, by rw [ht]; exact hP9, va_K.moved hW.alike hK, hD9⟩, hS.F ht⟩) hS.2.2 dX1_nullBit_13

def v_X1_mayMiss : List Cond := .code yX1_mayMiss cX1_mayMiss 3 (some .boolean) :: ([.fieldLink RX1 12 "ArraySegments$Flow" "now" "LArraySegments$Facts;", .fieldLink RX1 91 "ArraySegments$Facts" "least" "[I", .fieldLink RX1 109 "ArraySegments$Facts" "sites" "[J", .fieldLink RX1 94 "ArraySegments$Facts" "greatest" "[I", .methodLink RX1 232 yX0_someMayHaveFewer, .instanceMethod yX0_someMayHaveFewer, .selects RX0 yX0_someMayHaveFewer yX0_someMayHaveFewer, .initialized RX0] ++ (wsX10 ++ (wsX00 ++ (v_X0_someMayHaveFewer))))
theorem inv_X1_mayMiss_X1 : ∀ w ∈ wsX10, w ∈ v_X1_mayMiss := fun _ h => List.mem_cons_of_mem _ (List.mem_append_right _ (List.mem_append_left _ h))
theorem inv_X1_mayMiss_X0 : ∀ w ∈ wsX00, w ∈ v_X1_mayMiss := fun _ h => List.mem_cons_of_mem _ (List.mem_append_right _ (List.mem_append_right _ (List.mem_append_left _ h)))
theorem im_X1_mayMiss_X0_someMayHaveFewer : ∀ w ∈ v_X0_someMayHaveFewer, w ∈ v_X1_mayMiss := fun _ h => List.mem_cons_of_mem _ (List.mem_append_right _ (List.mem_append_right _ (List.mem_append_right _ (h))))
set_option maxRecDepth 20000 in
theorem gd_X1_mayMiss : gdL v_X1_mayMiss := gdC (gdW (by decide +kernel)) (gdA (gdW (by decide +kernel)) (gdA gd_wsX10 (gdA gd_wsX00 gd_X0_someMayHaveFewer)))
set_option maxRecDepth 20000 in
theorem h_X1_mayMiss_X0_someMayHaveFewer_232 : GoodIn v_X1_mayMiss (wsV RX1 232 RX0 yX0_someMayHaveFewer v_X0_someMayHaveFewer) := gdI [5, 6, 7, 8] rfl (by decide +kernel) (im_X1_mayMiss_X0_someMayHaveFewer) gd_X0_someMayHaveFewer
abbrev sw_X1_mayMiss (cI cJ cZ : ClassId) (lh : Nat) (fh : Nat) (l_ahead : Value) (l_isOld : Int32) (l_isReached : Value) (l_mayThrow : Value) (l_gatheredAny : Int32) (l_gatheredLeast : Int32) (l_gatheredGreatest : Int32) (f_isReached : Int32) (fa_least : Nat) (fa_greatest : Nat) (fa_sites : Nat) (f_maybeNull : Value) (f_known : Value) (f_lanes : Value) (fa_shortest : Nat) (f_longest : Value) (f_leastAt : Value) (f_greatestAt : Value) (fc_least : Nat → Int32) (fc_greatest : Nat → Int32) (fc_sites : Nat → Int64) (fc_shortest : Nat → Int32) (ra : Int32) (xa : Int32) : va_W := [(lh, .inr (1, [.ref fh, l_ahead, .int l_isOld, l_isReached, l_mayThrow, .int l_gatheredAny, .int l_gatheredLeast, .int l_gatheredGreatest])), (fh, .inr (0, [.int f_isReached, .ref fa_least, .ref fa_greatest, .ref fa_sites, f_maybeNull, f_known, f_lanes, .ref fa_shortest, f_longest, f_leastAt, f_greatestAt])), (fa_least, .inl (cI, 6, .inl fc_least)), (fa_greatest, .inl (cI, 6, .inl fc_greatest)), (fa_sites, .inl (cJ, 6, .inr (.inl fc_sites))), (fa_shortest, .inl (cI, 40, .inl fc_shortest))]
set_option maxHeartbeats 8000000 in
set_option maxRecDepth 100000 in
theorem s_X1_mayMiss (l : Launch) (dC : Nat → ClassId) (dI : Nat → Nat → Nat) (cI cJ cZ : ClassId) (lh : Nat) (fh : Nat) (l_ahead : Value) (l_isOld : Int32) (l_isReached : Value) (l_mayThrow : Value) (l_gatheredAny : Int32) (l_gatheredLeast : Int32) (l_gatheredGreatest : Int32) (f_isReached : Int32) (fa_least : Nat) (fa_greatest : Nat) (fa_sites : Nat) (f_maybeNull : Value) (f_known : Value) (f_lanes : Value) (fa_shortest : Nat) (f_longest : Value) (f_leastAt : Value) (f_greatestAt : Value) (fc_least : Nat → Int32) (fc_greatest : Nat → Int32) (fc_sites : Nat → Int64) (fc_shortest : Nat → Int32) (ra : Int32) (xa : Int32) (sz : Nat) (q_l_isOld : kZ l_isOld) (q_l_gatheredAny : kZ l_gatheredAny) (q_f_isReached : kZ f_isReached) (hy_ra : V6 ra) (hy_xa : V6 xa) : Met l yX1_mayMiss v_X1_mayMiss ({ frames := 2, cells := 0, slots := 0, locals := 47 }) (va_Pc [.ref lh, .int ra, .int xa] (cPre dC dI cI cJ cZ sz (sw_X1_mayMiss cI cJ cZ lh fh l_ahead l_isOld l_isReached l_mayThrow l_gatheredAny l_gatheredLeast l_gatheredGreatest f_isReached fa_least fa_greatest fa_sites f_maybeNull f_known f_lanes fa_shortest f_longest f_leastAt f_greatestAt fc_least fc_greatest fc_sites fc_shortest ra xa))) (va_Qi (fun (r : Int32) (u : Unit) => (kZ r)) (fun (u : Unit) => cPost dC dI cI cJ cZ (va_A (sw_X1_mayMiss cI cJ cZ lh fh l_ahead l_isOld l_isReached l_mayThrow l_gatheredAny l_gatheredLeast l_gatheredGreatest f_isReached fa_least fa_greatest fa_sites f_maybeNull f_known f_lanes fa_shortest f_longest f_leastAt f_greatestAt fc_least fc_greatest fc_sites fc_shortest ra xa) sz) [(lh, .inr (1, [.ref fh, l_ahead, .int l_isOld, l_isReached, l_mayThrow, .int l_gatheredAny, .int l_gatheredLeast, .int l_gatheredGreatest])), (fh, .inr (0, [.int f_isReached, .ref fa_least, .ref fa_greatest, .ref fa_sites, f_maybeNull, f_known, f_lanes, .ref fa_shortest, f_longest, f_leastAt, f_greatestAt])), (fa_least, .inl (cI, 6, .inl fc_least)), (fa_greatest, .inl (cI, 6, .inl fc_greatest)), (fa_sites, .inl (cJ, 6, .inr (.inl fc_sites))), (fa_shortest, .inl (cI, 40, .inl fc_shortest))]) (va_A (sw_X1_mayMiss cI cJ cZ lh fh l_ahead l_isOld l_isReached l_mayThrow l_gatheredAny l_gatheredLeast l_gatheredGreatest f_isReached fa_least fa_greatest fa_sites f_maybeNull f_known f_lanes fa_shortest f_longest f_leastAt f_greatestAt fc_least fc_greatest fc_sites fc_shortest ra xa) sz)) 0 0 (va_A (sw_X1_mayMiss cI cJ cZ lh fh l_ahead l_isOld l_isReached l_mayThrow l_gatheredAny l_gatheredLeast l_gatheredGreatest f_isReached fa_least fa_greatest fa_sites f_maybeNull f_known f_lanes fa_shortest f_longest f_leastAt f_greatestAt fc_least fc_greatest fc_sites fc_shortest ra xa) sz) := by
  refine Met.ofW (cc := cX1_mayMiss) (maxL := 3) (ret := (some .boolean)) (by decide) rfl ?_
  intro p e s m args below meth c s₁ B hml hv
  obtain ⟨rfl, hsz, hP, hK, hD0, hN⟩ := hv
  have hx := B.exec
  have hb := B.bytes
  have hr := B.returns
  have hts := atoms_spec (ws := v_X1_mayMiss) B.pre
  have hown : s.vm.findClass RX1 = some m.cls := findClass_of_methodNamed B.named
  have hlocks := B.notSynchronized
  subst hsz
  have hD := hD0.self (sz := s.heap.size)
  generalize hAe : va_A (sw_X1_mayMiss cI cJ cZ lh fh l_ahead l_isOld l_isReached l_mayThrow l_gatheredAny l_gatheredLeast l_gatheredGreatest f_isReached fa_least fa_greatest fa_sites f_maybeNull f_known f_lanes fa_shortest f_longest f_leastAt f_greatestAt fc_least fc_greatest fc_sites fc_shortest ra xa) s.heap.size = A at hD ⊢
  have hA : ∀ q : Nat, s.heap.size ≤ q → A q := fun q h => by rw [← hAe]; exact Or.inr h
  clear hAe hD0
  have hS : va_S A s.heap s.heap [] := va_S.rf
  replace hP : va_P (dC, dI) vwCl [(lh, .inr (1, [.ref fh, l_ahead, .int l_isOld, l_isReached, l_mayThrow, .int l_gatheredAny, .int l_gatheredLeast, .int l_gatheredGreatest])), (fh, .inr (0, [.int f_isReached, .ref fa_least, .ref fa_greatest, .ref fa_sites, f_maybeNull, f_known, f_lanes, .ref fa_shortest, f_longest, f_leastAt, f_greatestAt])), (fa_least, .inl (cI, 6, .inl fc_least)), (fa_greatest, .inl (cI, 6, .inl fc_greatest)), (fa_sites, .inl (cJ, 6, .inr (.inl fc_sites))), (fa_shortest, .inl (cI, 40, .inl fc_shortest))] s.heap := hP
  replace hD : va_D A [(lh, .inr (1, [.ref fh, l_ahead, .int l_isOld, l_isReached, l_mayThrow, .int l_gatheredAny, .int l_gatheredLeast, .int l_gatheredGreatest])), (fh, .inr (0, [.int f_isReached, .ref fa_least, .ref fa_greatest, .ref fa_sites, f_maybeNull, f_known, f_lanes, .ref fa_shortest, f_longest, f_leastAt, f_greatestAt])), (fa_least, .inl (cI, 6, .inl fc_least)), (fa_greatest, .inl (cI, 6, .inl fc_greatest)), (fa_sites, .inl (cJ, 6, .inr (.inl fc_sites))), (fa_shortest, .inl (cI, 40, .inl fc_shortest))] := hD
  have hl := lv_entry ([.ref lh, .int ra, .int xa]) (n := 3) (Nat.le_of_ble_eq_true rfl)
  rw [lg_entry_eq]
  generalize (lg_sl ([.ref lh, .int ra, .int xa]) ++ List.replicate (3 - (lg_sl ([.ref lh, .int ra, .int xa])).length) Slot.unset).toArray = ls at hl ⊢
  replace hl : lv_has ls 3 [(0, .ref lh), (1, .int ra), (2, .int xa)] := hl
  have z_0 : (0 : Int32).toInt = 0 := by decide
  have z_1 : (1 : Int32).toInt = 1 := by decide
  have zl_1 : (1 : Int64).toInt = 1 := by decide
  refine lv_aload_n hx hb dX1_mayMiss_0 rfl (lv_at hl 0 rfl) ?_
  refine va_get (D := (dC, dI)) (ci := 1) (v := .ref fh) (C := RX1) (T := TX1) (N := 8) hx hb hts inv_X1_mayMiss_X1 hown hK hP 0 rfl rfl 0 (by decide) (hts (.fieldLink RX1 12 "ArraySegments$Flow" "now" "LArraySegments$Facts;") (List.mem_of_getElem? (i := 1) rfl)) (fun _ h9 => h9) rfl dX1_mayMiss_1 ?_
  refine va_get (D := (dC, dI)) (ci := 0) (v := .ref fa_least) (C := RX0) (T := TX0) (N := 11) hx hb hts inv_X1_mayMiss_X0 hown hK hP 1 rfl rfl 1 (by decide) (hts (.fieldLink RX1 91 "ArraySegments$Facts" "least" "[I") (List.mem_of_getElem? (i := 2) rfl)) (fun _ h9 => h9) rfl dX1_mayMiss_4 ?_
  refine lv_iload_n hx hb dX1_mayMiss_7 rfl (lv_at hl 2 rfl) ?_
  refine sf_iald kT hx hb hK hP 2 0 rfl rfl (fun _ => trivial) (vp_in_iff.mpr ⟨by omega, by omega⟩) dX1_mayMiss_8 (fun v_1 q_v_1 e_v_1 => ?_)
  refine my_join (S := Int32) (fun u => (kZ (u))) (fun u => [(lh, .inr (1, [.ref fh, l_ahead, .int l_isOld, l_isReached, l_mayThrow, .int l_gatheredAny, .int l_gatheredLeast, .int l_gatheredGreatest])), (fh, .inr (0, [.int f_isReached, .ref fa_least, .ref fa_greatest, .ref fa_sites, f_maybeNull, f_known, f_lanes, .ref fa_shortest, f_longest, f_leastAt, f_greatestAt])), (fa_least, .inl (cI, 6, .inl fc_least)), (fa_greatest, .inl (cI, 6, .inl fc_greatest)), (fa_sites, .inl (cJ, 6, .inr (.inl fc_sites))), (fa_shortest, .inl (cI, 40, .inl fc_shortest))]) (fun u => [(0, .ref lh), (1, .int ra), (2, .int xa)]) (fun u => [.int (u)]) (nL := 3) (H0 := s.heap) (A := A) (D := (dC, dI)) (cl := vwCl) 48 (fun u_3 hu_3 H_3 locs_3 ls1 hP1 hD1 hS1 hl1 => ?_) (fun jn_3 => ?_)
  · -- behind 48
    obtain ⟨v_4, rfl⟩ : ∃ z, z = u_3 := ⟨_, rfl⟩
    replace hu_3 : (kZ v_4) := hu_3
    have q_v_4 := hu_3
    replace hP : va_P (dC, dI) vwCl [(lh, .inr (1, [.ref fh, l_ahead, .int l_isOld, l_isReached, l_mayThrow, .int l_gatheredAny, .int l_gatheredLeast, .int l_gatheredGreatest])), (fh, .inr (0, [.int f_isReached, .ref fa_least, .ref fa_greatest, .ref fa_sites, f_maybeNull, f_known, f_lanes, .ref fa_shortest, f_longest, f_leastAt, f_greatestAt])), (fa_least, .inl (cI, 6, .inl fc_least)), (fa_greatest, .inl (cI, 6, .inl fc_greatest)), (fa_sites, .inl (cJ, 6, .inr (.inl fc_sites))), (fa_shortest, .inl (cI, 40, .inl fc_shortest))] H_3 := hP1
    replace hD : va_D A [(lh, .inr (1, [.ref fh, l_ahead, .int l_isOld, l_isReached, l_mayThrow, .int l_gatheredAny, .int l_gatheredLeast, .int l_gatheredGreatest])), (fh, .inr (0, [.int f_isReached, .ref fa_least, .ref fa_greatest, .ref fa_sites, f_maybeNull, f_known, f_lanes, .ref fa_shortest, f_longest, f_leastAt, f_greatestAt])), (fa_least, .inl (cI, 6, .inl fc_least)), (fa_greatest, .inl (cI, 6, .inl fc_greatest)), (fa_sites, .inl (cJ, 6, .inr (.inl fc_sites))), (fa_shortest, .inl (cI, 40, .inl fc_shortest))] := hD1
    replace hS := hS1
    clear hP1 hD1 hS1
    replace hl : lv_has ls1 3 [(0, .ref lh), (1, .int ra), (2, .int xa)] := hl1
    clear hl1
    have hP9 := hP.sub (ws' := [(lh, .inr (1, [.ref fh, l_ahead, .int l_isOld, l_isReached, l_mayThrow, .int l_gatheredAny, .int l_gatheredLeast, .int l_gatheredGreatest])), (fh, .inr (0, [.int f_isReached, .ref fa_least, .ref fa_greatest, .ref fa_sites, f_maybeNull, f_known, f_lanes, .ref fa_shortest, f_longest, f_leastAt, f_greatestAt])), (fa_least, .inl (cI, 6, .inl fc_least)), (fa_greatest, .inl (cI, 6, .inl fc_greatest)), (fa_sites, .inl (cJ, 6, .inr (.inl fc_sites))), (fa_shortest, .inl (cI, 40, .inl fc_shortest))]) [0, 1, 2, 3, 4, 5] rfl
    have hD9 := hD.sub (ws' := [(lh, .inr (1, [.ref fh, l_ahead, .int l_isOld, l_isReached, l_mayThrow, .int l_gatheredAny, .int l_gatheredLeast, .int l_gatheredGreatest])), (fh, .inr (0, [.int f_isReached, .ref fa_least, .ref fa_greatest, .ref fa_sites, f_maybeNull, f_known, f_lanes, .ref fa_shortest, f_longest, f_leastAt, f_greatestAt])), (fa_least, .inl (cI, 6, .inl fc_least)), (fa_greatest, .inl (cI, 6, .inl fc_greatest)), (fa_sites, .inl (cJ, 6, .inr (.inl fc_sites))), (fa_shortest, .inl (cI, 40, .inl fc_shortest))]) [0, 1, 2, 3, 4, 5] (by decide) rfl
    exact W.zret (v := v_4) (ty := .boolean) hx hb hr (nar01 q_v_4) (fun t ht hW => ⟨⟨v_4, (), rfl, (show kZ v_4 from q_v_4), by rw [ht]; exact hP9, va_K.moved hW.alike hK, hD9⟩, hS.F ht⟩) hS.2.2 dX1_mayMiss_48
  · -- ahead of 48
    refine lv_if_lt (tgt := 43) hx hb dX1_mayMiss_9 (by decide) (fun c_5 => ?_) (fun c_5 => ?_)
    · -- yes
      have k_5 : v_1.toInt < (0 : Int32).toInt := ci_lt c_5
      refine lv_iconst (v := 1) hx hb dX1_mayMiss_43 (by decide) ?_
      refine lv_goto (tgt := 48) hx hb dX1_mayMiss_44 (by decide) ?_
      exact jn_3 (1 : Int32) (show (kZ (1 : Int32)) from (by decide)) _ _ _ (hP.sub [0, 1, 2, 3, 4, 5] rfl) (hD.sub [0, 1, 2, 3, 4, 5] (by decide) rfl) hS (lv_sub hl [0, 1, 2] rfl)
    · -- no
      have k_5 : (0 : Int32).toInt ≤ v_1.toInt := ci_nlt c_5
      refine lv_aload_n hx hb dX1_mayMiss_12 rfl (lv_at hl 0 rfl) ?_
      refine va_get (D := (dC, dI)) (ci := 1) (v := .ref fh) (C := RX1) (T := TX1) (N := 8) hx hb hts inv_X1_mayMiss_X1 hown hK hP 0 rfl rfl 0 (by decide) (hts (.fieldLink RX1 12 "ArraySegments$Flow" "now" "LArraySegments$Facts;") (List.mem_of_getElem? (i := 1) rfl)) (fun _ h9 => h9) rfl dX1_mayMiss_13 ?_
      refine lv_aload_n hx hb dX1_mayMiss_16 rfl (lv_at hl 0 rfl) ?_
      refine va_get (D := (dC, dI)) (ci := 1) (v := .ref fh) (C := RX1) (T := TX1) (N := 8) hx hb hts inv_X1_mayMiss_X1 hown hK hP 0 rfl rfl 0 (by decide) (hts (.fieldLink RX1 12 "ArraySegments$Flow" "now" "LArraySegments$Facts;") (List.mem_of_getElem? (i := 1) rfl)) (fun _ h9 => h9) rfl dX1_mayMiss_17 ?_
      refine va_get (D := (dC, dI)) (ci := 0) (v := .ref fa_sites) (C := RX0) (T := TX0) (N := 11) hx hb hts inv_X1_mayMiss_X0 hown hK hP 1 rfl rfl 3 (by decide) (hts (.fieldLink RX1 109 "ArraySegments$Facts" "sites" "[J") (List.mem_of_getElem? (i := 3) rfl)) (fun _ h9 => h9) rfl dX1_mayMiss_20 ?_
      refine lv_iload_n hx hb dX1_mayMiss_23 rfl (lv_at hl 1 rfl) ?_
      refine sf_lald lT hx hb hK hP 4 1 rfl rfl (fun _ => trivial) (vp_in_iff.mpr ⟨by omega, by omega⟩) dX1_mayMiss_24 (fun v_6 q_v_6 e_v_6 => ?_)
      refine lv_aload_n hx hb dX1_mayMiss_25 rfl (lv_at hl 0 rfl) ?_
      refine va_get (D := (dC, dI)) (ci := 1) (v := .ref fh) (C := RX1) (T := TX1) (N := 8) hx hb hts inv_X1_mayMiss_X1 hown hK hP 0 rfl rfl 0 (by decide) (hts (.fieldLink RX1 12 "ArraySegments$Flow" "now" "LArraySegments$Facts;") (List.mem_of_getElem? (i := 1) rfl)) (fun _ h9 => h9) rfl dX1_mayMiss_26 ?_
      refine va_get (D := (dC, dI)) (ci := 0) (v := .ref fa_greatest) (C := RX0) (T := TX0) (N := 11) hx hb hts inv_X1_mayMiss_X0 hown hK hP 1 rfl rfl 2 (by decide) (hts (.fieldLink RX1 94 "ArraySegments$Facts" "greatest" "[I") (List.mem_of_getElem? (i := 4) rfl)) (fun _ h9 => h9) rfl dX1_mayMiss_29 ?_
      refine lv_iload_n hx hb dX1_mayMiss_32 rfl (lv_at hl 2 rfl) ?_
      refine sf_iald kT hx hb hK hP 3 0 rfl rfl (fun _ => trivial) (vp_in_iff.mpr ⟨by omega, by omega⟩) dX1_mayMiss_33 (fun v_7 q_v_7 e_v_7 => ?_)
      refine sf_i2l hx hb dX1_mayMiss_34 (fun v_8 q_v_8 => ?_)
      refine lv_lconst (v := 1) hx hb dX1_mayMiss_35 (by decide) ?_
      refine sf_ladd hx hb dX1_mayMiss_36 ⟨by omega, by omega⟩ (fun v_9 q_v_9 => ?_)
      have hPc := hP.sub (ws' := [(fh, .inr (0, [.int f_isReached, .ref fa_least, .ref fa_greatest, .ref fa_sites, f_maybeNull, f_known, f_lanes, .ref fa_shortest, f_longest, f_leastAt, f_greatestAt])), (fa_shortest, .inl (cI, 40, .inl fc_shortest))]) [1, 5] rfl
      have hDc := hD.sub (ws' := [(fh, .inr (0, [.int f_isReached, .ref fa_least, .ref fa_greatest, .ref fa_sites, f_maybeNull, f_known, f_lanes, .ref fa_shortest, f_longest, f_leastAt, f_greatestAt])), (fa_shortest, .inl (cI, 40, .inl fc_shortest))]) [1, 5] (by decide) rfl
      have hFc := va_free (wc := [(fh, .inr (0, [.int f_isReached, .ref fa_least, .ref fa_greatest, .ref fa_sites, f_maybeNull, f_known, f_lanes, .ref fa_shortest, f_longest, f_leastAt, f_greatestAt])), (fa_shortest, .inl (cI, 40, .inl fc_shortest))]) hD hS hA [1, 5] rfl
      refine va_calli (va_runV (As := [.long v_6, .long v_9]) (rest := []) ⟨hx, hb, hml, hown, hts⟩ (s_X0_someMayHaveFewer l dC dI cI cJ cZ fh f_isReached (.ref fa_least) (.ref fa_greatest) (.ref fa_sites) f_maybeNull f_known f_lanes fa_shortest f_longest f_leastAt f_greatestAt fc_shortest v_6 v_9 s.heap.size q_f_isReached) (cwV 2 hts h_X1_mayMiss_X0_someMayHaveFewer_232 rfl rfl rfl (by decide +kernel) ⟨Nat.le_of_ble_eq_true rfl, Nat.le_of_ble_eq_true rfl⟩) ⟨cPre_blind, va_recv hK hPc (ci := 0) (q0 := 0) rfl rfl, cPre_of hK hN hPc hDc⟩ rfl rfl hl.1 rfl (lv_room (Nat.le_of_ble_eq_true rfl)) dX1_mayMiss_37 ⟨Nat.le_of_ble_eq_true rfl, Nat.le_of_ble_eq_true rfl⟩) hS (fun q _ h => hFc q h) hFc (fun r_10 u_10 t_10 H_10 locs_10 ht hvm hw_10 hB hz1 hk1 hS1 => ?_)
      obtain ⟨hP1, hK1, hD1⟩ := hB
      rw [ht] at hP1
      obtain ⟨hP2, hD2⟩ := va_join (wr := [(lh, .inr (1, [.ref fh, l_ahead, .int l_isOld, l_isReached, l_mayThrow, .int l_gatheredAny, .int l_gatheredLeast, .int l_gatheredGreatest])), (fa_least, .inl (cI, 6, .inl fc_least)), (fa_greatest, .inl (cI, 6, .inl fc_greatest)), (fa_sites, .inl (cJ, 6, .inr (.inl fc_sites)))]) (w1 := [(fh, .inr (0, [.int f_isReached, .ref fa_least, .ref fa_greatest, .ref fa_sites, f_maybeNull, f_known, f_lanes, .ref fa_shortest, f_longest, f_leastAt, f_greatestAt])), (fa_shortest, .inl (cI, 40, .inl fc_shortest))]) hP hD [1, 5] [0, 2, 3, 4] rfl rfl (by decide) (by decide) hk1 hFc hP1 hD1
      clear hPc hDc hFc hP1 hD1 hK1 hk1 hz1 hvm ht
      replace hP : va_P (dC, dI) vwCl [(lh, .inr (1, [.ref fh, l_ahead, .int l_isOld, l_isReached, l_mayThrow, .int l_gatheredAny, .int l_gatheredLeast, .int l_gatheredGreatest])), (fa_least, .inl (cI, 6, .inl fc_least)), (fa_greatest, .inl (cI, 6, .inl fc_greatest)), (fa_sites, .inl (cJ, 6, .inr (.inl fc_sites))), (fh, .inr (0, [.int f_isReached, .ref fa_least, .ref fa_greatest, .ref fa_sites, f_maybeNull, f_known, f_lanes, .ref fa_shortest, f_longest, f_leastAt, f_greatestAt])), (fa_shortest, .inl (cI, 40, .inl fc_shortest))] H_10 := hP2
      replace hD : va_D A [(lh, .inr (1, [.ref fh, l_ahead, .int l_isOld, l_isReached, l_mayThrow, .int l_gatheredAny, .int l_gatheredLeast, .int l_gatheredGreatest])), (fa_least, .inl (cI, 6, .inl fc_least)), (fa_greatest, .inl (cI, 6, .inl fc_greatest)), (fa_sites, .inl (cJ, 6, .inr (.inl fc_sites))), (fh, .inr (0, [.int f_isReached, .ref fa_least, .ref fa_greatest, .ref fa_sites, f_maybeNull, f_known, f_lanes, .ref fa_shortest, f_longest, f_leastAt, f_greatestAt])), (fa_shortest, .inl (cI, 40, .inl fc_shortest))] := hD2
      replace hS := hS1
      clear hP2 hD2 hS1
      replace hw_10 : (kZ r_10) := hw_10
      have q_r_10 := hw_10
      refine lv_if_eq (tgt := 47) hx hb dX1_mayMiss_40 (by decide) (fun c_11 => ?_) (fun c_11 => ?_)
      · -- yes
        have k_11 : r_10.toInt = (0 : Int32).toInt := ci_eq c_11
        refine lv_iconst (v := 0) hx hb dX1_mayMiss_47 (by decide) ?_
        exact jn_3 (0 : Int32) (show (kZ (0 : Int32)) from (by decide)) _ _ _ (hP.sub [0, 4, 1, 2, 3, 5] rfl) (hD.sub [0, 4, 1, 2, 3, 5] (by decide) rfl) hS (lv_sub hl [0, 1, 2] rfl)
      · -- no
        have k_11 : ¬ r_10.toInt = (0 : Int32).toInt := ci_ne c_11
        refine lv_iconst (v := 1) hx hb dX1_mayMiss_43 (by decide) ?_
        refine lv_goto (tgt := 48) hx hb dX1_mayMiss_44 (by decide) ?_
        exact jn_3 (1 : Int32) (show (kZ (1 : Int32)) from (by decide)) _ _ _ (hP.sub [0, 4, 1, 2, 3, 5] rfl) (hD.sub [0, 4, 1, 2, 3, 5] (by decide) rfl) hS (lv_sub hl [0, 1, 2] rfl)

def v_X1_useThrows : List Cond := .code yX1_useThrows cX1_useThrows 5 (some .int) :: ([.fieldLink RX1 12 "ArraySegments$Flow" "now" "LArraySegments$Facts;", .fieldLink RX1 109 "ArraySegments$Facts" "sites" "[J", .methodLink RX1 236 yX0_lanesOf, .instanceMethod yX0_lanesOf, .selects RX0 yX0_lanesOf yX0_lanesOf, .initialized RX0, .methodLink RX1 148 yX1_nullBit, .instanceMethod yX1_nullBit, .selects RX1 yX1_nullBit yX1_nullBit, .initialized RX1, .methodLink RX1 137 yX1_bitIf, .static yX1_bitIf] ++ (wsX10 ++ (wsX00 ++ (v_X0_lanesOf ++ (v_X1_nullBit ++ (v_X1_bitIf))))))
theorem inv_X1_useThrows_X1 : ∀ w ∈ wsX10, w ∈ v_X1_useThrows := fun _ h => List.mem_cons_of_mem _ (List.mem_append_right _ (List.mem_append_left _ h))
theorem inv_X1_useThrows_X0 : ∀ w ∈ wsX00, w ∈ v_X1_useThrows := fun _ h => List.mem_cons_of_mem _ (List.mem_append_right _ (List.mem_append_right _ (List.mem_append_left _ h)))
theorem im_X1_useThrows_X0_lanesOf : ∀ w ∈ v_X0_lanesOf, w ∈ v_X1_useThrows := fun _ h => List.mem_cons_of_mem _ (List.mem_append_right _ (List.mem_append_right _ (List.mem_append_right _ (List.mem_append_left _ h))))
theorem im_X1_useThrows_X1_nullBit : ∀ w ∈ v_X1_nullBit, w ∈ v_X1_useThrows := fun _ h => List.mem_cons_of_mem _ (List.mem_append_right _ (List.mem_append_right _ (List.mem_append_right _ (List.mem_append_right _ (List.mem_append_left _ h)))))
theorem im_X1_useThrows_X1_bitIf : ∀ w ∈ v_X1_bitIf, w ∈ v_X1_useThrows := fun _ h => List.mem_cons_of_mem _ (List.mem_append_right _ (List.mem_append_right _ (List.mem_append_right _ (List.mem_append_right _ (List.mem_append_right _ (h))))))
set_option maxRecDepth 20000 in
theorem gd_X1_useThrows : gdL v_X1_useThrows := gdC (gdW (by decide +kernel)) (gdA (gdW (by decide +kernel)) (gdA gd_wsX10 (gdA gd_wsX00 (gdA gd_X0_lanesOf (gdA gd_X1_nullBit gd_X1_bitIf)))))
set_option maxRecDepth 20000 in
theorem h_X1_useThrows_X0_lanesOf_236 : GoodIn v_X1_useThrows (wsV RX1 236 RX0 yX0_lanesOf v_X0_lanesOf) := gdI [3, 4, 5, 6] rfl (by decide +kernel) (im_X1_useThrows_X0_lanesOf) gd_X0_lanesOf
set_option maxRecDepth 20000 in
theorem h_X1_useThrows_X1_nullBit_148 : GoodIn v_X1_useThrows (wsV RX1 148 RX1 yX1_nullBit v_X1_nullBit) := gdI [7, 8, 9, 10] rfl (by decide +kernel) (im_X1_useThrows_X1_nullBit) gd_X1_nullBit
set_option maxRecDepth 20000 in
theorem h_X1_useThrows_X1_bitIf_137 : GoodIn v_X1_useThrows (va_wsS RX1 137 yX1_bitIf v_X1_bitIf) := gdI [11, 12, 10] rfl (by decide +kernel) (im_X1_useThrows_X1_bitIf) gd_X1_bitIf
abbrev sw_X1_useThrows (cI cJ cZ : ClassId) (lh : Nat) (fh : Nat) (l_ahead : Value) (l_isOld : Int32) (l_isReached : Value) (l_mayThrow : Value) (l_gatheredAny : Int32) (l_gatheredLeast : Int32) (l_gatheredGreatest : Int32) (f_isReached : Int32) (f_least : Value) (f_greatest : Value) (fa_sites : Nat) (fa_maybeNull : Nat) (f_known : Value) (fa_lanes : Nat) (f_shortest : Value) (f_longest : Value) (f_leastAt : Value) (f_greatestAt : Value) (fc_sites : Nat → Int64) (fc_maybeNull : Nat → Int32) (fc_lanes : Nat → Int32) (ra : Int32) (la : Int32) (ba : Int32) : va_W := [(lh, .inr (1, [.ref fh, l_ahead, .int l_isOld, l_isReached, l_mayThrow, .int l_gatheredAny, .int l_gatheredLeast, .int l_gatheredGreatest])), (fh, .inr (0, [.int f_isReached, f_least, f_greatest, .ref fa_sites, .ref fa_maybeNull, f_known, .ref fa_lanes, f_shortest, f_longest, f_leastAt, f_greatestAt])), (fa_sites, .inl (cJ, 6, .inr (.inl fc_sites))), (fa_maybeNull, .inl (cZ, 6, .inl fc_maybeNull)), (fa_lanes, .inl (cI, 40, .inl fc_lanes))]
set_option maxHeartbeats 8000000 in
set_option maxRecDepth 100000 in
theorem s_X1_useThrows (l : Launch) (dC : Nat → ClassId) (dI : Nat → Nat → Nat) (cI cJ cZ : ClassId) (lh : Nat) (fh : Nat) (l_ahead : Value) (l_isOld : Int32) (l_isReached : Value) (l_mayThrow : Value) (l_gatheredAny : Int32) (l_gatheredLeast : Int32) (l_gatheredGreatest : Int32) (f_isReached : Int32) (f_least : Value) (f_greatest : Value) (fa_sites : Nat) (fa_maybeNull : Nat) (f_known : Value) (fa_lanes : Nat) (f_shortest : Value) (f_longest : Value) (f_leastAt : Value) (f_greatestAt : Value) (fc_sites : Nat → Int64) (fc_maybeNull : Nat → Int32) (fc_lanes : Nat → Int32) (ra : Int32) (la : Int32) (ba : Int32) (sz : Nat) (q_l_isOld : kZ l_isOld) (q_l_gatheredAny : kZ l_gatheredAny) (q_f_isReached : kZ f_isReached) (h_fc_maybeNull : ∀ j : Nat, kZ (fc_maybeNull j)) (hy_ra : V6 ra) : Met l yX1_useThrows v_X1_useThrows ({ frames := 2, cells := 0, slots := 0, locals := 46 }) (va_Pc [.ref lh, .int ra, .int la, .int ba] (cPre dC dI cI cJ cZ sz (sw_X1_useThrows cI cJ cZ lh fh l_ahead l_isOld l_isReached l_mayThrow l_gatheredAny l_gatheredLeast l_gatheredGreatest f_isReached f_least f_greatest fa_sites fa_maybeNull f_known fa_lanes f_shortest f_longest f_leastAt f_greatestAt fc_sites fc_maybeNull fc_lanes ra la ba))) (va_Qi (fun (r : Int32) (u : Unit) => True) (fun (u : Unit) => cPost dC dI cI cJ cZ (va_A (sw_X1_useThrows cI cJ cZ lh fh l_ahead l_isOld l_isReached l_mayThrow l_gatheredAny l_gatheredLeast l_gatheredGreatest f_isReached f_least f_greatest fa_sites fa_maybeNull f_known fa_lanes f_shortest f_longest f_leastAt f_greatestAt fc_sites fc_maybeNull fc_lanes ra la ba) sz) [(lh, .inr (1, [.ref fh, l_ahead, .int l_isOld, l_isReached, l_mayThrow, .int l_gatheredAny, .int l_gatheredLeast, .int l_gatheredGreatest])), (fh, .inr (0, [.int f_isReached, f_least, f_greatest, .ref fa_sites, .ref fa_maybeNull, f_known, .ref fa_lanes, f_shortest, f_longest, f_leastAt, f_greatestAt])), (fa_sites, .inl (cJ, 6, .inr (.inl fc_sites))), (fa_maybeNull, .inl (cZ, 6, .inl fc_maybeNull)), (fa_lanes, .inl (cI, 40, .inl fc_lanes))]) (va_A (sw_X1_useThrows cI cJ cZ lh fh l_ahead l_isOld l_isReached l_mayThrow l_gatheredAny l_gatheredLeast l_gatheredGreatest f_isReached f_least f_greatest fa_sites fa_maybeNull f_known fa_lanes f_shortest f_longest f_leastAt f_greatestAt fc_sites fc_maybeNull fc_lanes ra la ba) sz)) 0 0 (va_A (sw_X1_useThrows cI cJ cZ lh fh l_ahead l_isOld l_isReached l_mayThrow l_gatheredAny l_gatheredLeast l_gatheredGreatest f_isReached f_least f_greatest fa_sites fa_maybeNull f_known fa_lanes f_shortest f_longest f_leastAt f_greatestAt fc_sites fc_maybeNull fc_lanes ra la ba) sz) := by
  refine Met.ofW (cc := cX1_useThrows) (maxL := 5) (ret := (some .int)) (by decide) rfl ?_
  intro p e s m args below meth c s₁ B hml hv
  obtain ⟨rfl, hsz, hP, hK, hD0, hN⟩ := hv
  have hx := B.exec
  have hb := B.bytes
  have hr := B.returns
  have hts := atoms_spec (ws := v_X1_useThrows) B.pre
  have hown : s.vm.findClass RX1 = some m.cls := findClass_of_methodNamed B.named
  have hlocks := B.notSynchronized
  subst hsz
  have hD := hD0.self (sz := s.heap.size)
  generalize hAe : va_A (sw_X1_useThrows cI cJ cZ lh fh l_ahead l_isOld l_isReached l_mayThrow l_gatheredAny l_gatheredLeast l_gatheredGreatest f_isReached f_least f_greatest fa_sites fa_maybeNull f_known fa_lanes f_shortest f_longest f_leastAt f_greatestAt fc_sites fc_maybeNull fc_lanes ra la ba) s.heap.size = A at hD ⊢
  have hA : ∀ q : Nat, s.heap.size ≤ q → A q := fun q h => by rw [← hAe]; exact Or.inr h
  clear hAe hD0
  have hS : va_S A s.heap s.heap [] := va_S.rf
  replace hP : va_P (dC, dI) vwCl [(lh, .inr (1, [.ref fh, l_ahead, .int l_isOld, l_isReached, l_mayThrow, .int l_gatheredAny, .int l_gatheredLeast, .int l_gatheredGreatest])), (fh, .inr (0, [.int f_isReached, f_least, f_greatest, .ref fa_sites, .ref fa_maybeNull, f_known, .ref fa_lanes, f_shortest, f_longest, f_leastAt, f_greatestAt])), (fa_sites, .inl (cJ, 6, .inr (.inl fc_sites))), (fa_maybeNull, .inl (cZ, 6, .inl fc_maybeNull)), (fa_lanes, .inl (cI, 40, .inl fc_lanes))] s.heap := hP
  replace hD : va_D A [(lh, .inr (1, [.ref fh, l_ahead, .int l_isOld, l_isReached, l_mayThrow, .int l_gatheredAny, .int l_gatheredLeast, .int l_gatheredGreatest])), (fh, .inr (0, [.int f_isReached, f_least, f_greatest, .ref fa_sites, .ref fa_maybeNull, f_known, .ref fa_lanes, f_shortest, f_longest, f_leastAt, f_greatestAt])), (fa_sites, .inl (cJ, 6, .inr (.inl fc_sites))), (fa_maybeNull, .inl (cZ, 6, .inl fc_maybeNull)), (fa_lanes, .inl (cI, 40, .inl fc_lanes))] := hD
  have hl := lv_entry ([.ref lh, .int ra, .int la, .int ba]) (n := 5) (Nat.le_of_ble_eq_true rfl)
  rw [lg_entry_eq]
  generalize (lg_sl ([.ref lh, .int ra, .int la, .int ba]) ++ List.replicate (5 - (lg_sl ([.ref lh, .int ra, .int la, .int ba])).length) Slot.unset).toArray = ls at hl ⊢
  replace hl : lv_has ls 5 [(0, .ref lh), (1, .int ra), (2, .int la), (3, .int ba)] := hl
  have z_0 : (0 : Int32).toInt = 0 := by decide
  have z_1 : (1 : Int32).toInt = 1 := by decide
  have z_2 : (2 : Int32).toInt = 2 := by decide
  have z_5 : (5 : Int32).toInt = 5 := by decide
  refine lv_aload_n hx hb dX1_useThrows_0 rfl (lv_at hl 0 rfl) ?_
  refine va_get (D := (dC, dI)) (ci := 1) (v := .ref fh) (C := RX1) (T := TX1) (N := 8) hx hb hts inv_X1_useThrows_X1 hown hK hP 0 rfl rfl 0 (by decide) (hts (.fieldLink RX1 12 "ArraySegments$Flow" "now" "LArraySegments$Facts;") (List.mem_of_getElem? (i := 1) rfl)) (fun _ h9 => h9) rfl dX1_useThrows_1 ?_
  refine lv_aload_n hx hb dX1_useThrows_4 rfl (lv_at hl 0 rfl) ?_
  refine va_get (D := (dC, dI)) (ci := 1) (v := .ref fh) (C := RX1) (T := TX1) (N := 8) hx hb hts inv_X1_useThrows_X1 hown hK hP 0 rfl rfl 0 (by decide) (hts (.fieldLink RX1 12 "ArraySegments$Flow" "now" "LArraySegments$Facts;") (List.mem_of_getElem? (i := 1) rfl)) (fun _ h9 => h9) rfl dX1_useThrows_5 ?_
  refine va_get (D := (dC, dI)) (ci := 0) (v := .ref fa_sites) (C := RX0) (T := TX0) (N := 11) hx hb hts inv_X1_useThrows_X0 hown hK hP 1 rfl rfl 3 (by decide) (hts (.fieldLink RX1 109 "ArraySegments$Facts" "sites" "[J") (List.mem_of_getElem? (i := 2) rfl)) (fun _ h9 => h9) rfl dX1_useThrows_8 ?_
  refine lv_iload_n hx hb dX1_useThrows_11 rfl (lv_at hl 1 rfl) ?_
  refine sf_lald lT hx hb hK hP 2 1 rfl rfl (fun _ => trivial) (vp_in_iff.mpr ⟨by omega, by omega⟩) dX1_useThrows_12 (fun v_1 q_v_1 e_v_1 => ?_)
  have hPc := hP.sub (ws' := [(fh, .inr (0, [.int f_isReached, f_least, f_greatest, .ref fa_sites, .ref fa_maybeNull, f_known, .ref fa_lanes, f_shortest, f_longest, f_leastAt, f_greatestAt])), (fa_lanes, .inl (cI, 40, .inl fc_lanes))]) [1, 4] rfl
  have hDc := hD.sub (ws' := [(fh, .inr (0, [.int f_isReached, f_least, f_greatest, .ref fa_sites, .ref fa_maybeNull, f_known, .ref fa_lanes, f_shortest, f_longest, f_leastAt, f_greatestAt])), (fa_lanes, .inl (cI, 40, .inl fc_lanes))]) [1, 4] (by decide) rfl
  have hFc := va_free (wc := [(fh, .inr (0, [.int f_isReached, f_least, f_greatest, .ref fa_sites, .ref fa_maybeNull, f_known, .ref fa_lanes, f_shortest, f_longest, f_leastAt, f_greatestAt])), (fa_lanes, .inl (cI, 40, .inl fc_lanes))]) hD hS hA [1, 4] rfl
  refine va_calli (va_runV (As := [.long v_1]) (rest := []) ⟨hx, hb, hml, hown, hts⟩ (s_X0_lanesOf l dC dI cI cJ cZ fh f_isReached f_least f_greatest (.ref fa_sites) (.ref fa_maybeNull) f_known fa_lanes f_shortest f_longest f_leastAt f_greatestAt fc_lanes v_1 s.heap.size q_f_isReached) (cwV 1 hts h_X1_useThrows_X0_lanesOf_236 rfl rfl rfl (by decide +kernel) ⟨Nat.le_of_ble_eq_true rfl, Nat.le_of_ble_eq_true rfl⟩) ⟨cPre_blind, va_recv hK hPc (ci := 0) (q0 := 0) rfl rfl, cPre_of hK hN hPc hDc⟩ rfl rfl hl.1 rfl (lv_room (Nat.le_of_ble_eq_true rfl)) dX1_useThrows_13 ⟨Nat.le_of_ble_eq_true rfl, Nat.le_of_ble_eq_true rfl⟩) hS (fun q _ h => hFc q h) hFc (fun r_2 u_2 t_2 H_2 locs_2 ht hvm hw_2 hB hz1 hk1 hS1 => ?_)
  obtain ⟨hP1, hK1, hD1⟩ := hB
  rw [ht] at hP1
  obtain ⟨hP2, hD2⟩ := va_join (wr := [(lh, .inr (1, [.ref fh, l_ahead, .int l_isOld, l_isReached, l_mayThrow, .int l_gatheredAny, .int l_gatheredLeast, .int l_gatheredGreatest])), (fa_sites, .inl (cJ, 6, .inr (.inl fc_sites))), (fa_maybeNull, .inl (cZ, 6, .inl fc_maybeNull))]) (w1 := [(fh, .inr (0, [.int f_isReached, f_least, f_greatest, .ref fa_sites, .ref fa_maybeNull, f_known, .ref fa_lanes, f_shortest, f_longest, f_leastAt, f_greatestAt])), (fa_lanes, .inl (cI, 40, .inl fc_lanes))]) hP hD [1, 4] [0, 2, 3] rfl rfl (by decide) (by decide) hk1 hFc hP1 hD1
  clear hPc hDc hFc hP1 hD1 hK1 hk1 hz1 hvm ht
  replace hP : va_P (dC, dI) vwCl [(lh, .inr (1, [.ref fh, l_ahead, .int l_isOld, l_isReached, l_mayThrow, .int l_gatheredAny, .int l_gatheredLeast, .int l_gatheredGreatest])), (fa_sites, .inl (cJ, 6, .inr (.inl fc_sites))), (fa_maybeNull, .inl (cZ, 6, .inl fc_maybeNull)), (fh, .inr (0, [.int f_isReached, f_least, f_greatest, .ref fa_sites, .ref fa_maybeNull, f_known, .ref fa_lanes, f_shortest, f_longest, f_leastAt, f_greatestAt])), (fa_lanes, .inl (cI, 40, .inl fc_lanes))] H_2 := hP2
  replace hD : va_D A [(lh, .inr (1, [.ref fh, l_ahead, .int l_isOld, l_isReached, l_mayThrow, .int l_gatheredAny, .int l_gatheredLeast, .int l_gatheredGreatest])), (fa_sites, .inl (cJ, 6, .inr (.inl fc_sites))), (fa_maybeNull, .inl (cZ, 6, .inl fc_maybeNull)), (fh, .inr (0, [.int f_isReached, f_least, f_greatest, .ref fa_sites, .ref fa_maybeNull, f_known, .ref fa_lanes, f_shortest, f_longest, f_leastAt, f_greatestAt])), (fa_lanes, .inl (cI, 40, .inl fc_lanes))] := hD2
  replace hS := hS1
  clear hP2 hD2 hS1
  refine lv_iconst (v := 1) hx hb dX1_useThrows_16 (by decide) ?_
  refine lv_iload_n hx hb dX1_useThrows_17 rfl (lv_at hl 2 rfl) ?_
  refine lv_ishl hx hb dX1_useThrows_18 ?_
  refine lv_topi (fun v_3 e_v_3 => ?_)
  refine lv_iconst (v := (-1)) hx hb dX1_useThrows_19 (by decide) ?_
  refine lv_ixor hx hb dX1_useThrows_20 ?_
  refine lv_topi (fun v_4 e_v_4 => ?_)
  refine lv_iand hx hb dX1_useThrows_21 ?_
  refine lv_topi (fun v_5 e_v_5 => ?_)
  refine my_join (S := Int32) (fun u => (kZ (u))) (fun u => [(lh, .inr (1, [.ref fh, l_ahead, .int l_isOld, l_isReached, l_mayThrow, .int l_gatheredAny, .int l_gatheredLeast, .int l_gatheredGreatest])), (fa_sites, .inl (cJ, 6, .inr (.inl fc_sites))), (fa_maybeNull, .inl (cZ, 6, .inl fc_maybeNull)), (fh, .inr (0, [.int f_isReached, f_least, f_greatest, .ref fa_sites, .ref fa_maybeNull, f_known, .ref fa_lanes, f_shortest, f_longest, f_leastAt, f_greatestAt])), (fa_lanes, .inl (cI, 40, .inl fc_lanes))]) (fun u => [(0, .ref lh), (1, .int ra), (2, .int la), (3, .int ba)]) (fun u => [.int (u)]) (nL := 5) (H0 := s.heap) (A := A) (D := (dC, dI)) (cl := vwCl) 30 (fun u_7 hu_7 H_7 locs_7 ls1 hP1 hD1 hS1 hl1 => ?_) (fun jn_7 => ?_)
  · -- behind 30
    obtain ⟨v_8, rfl⟩ : ∃ z, z = u_7 := ⟨_, rfl⟩
    replace hu_7 : (kZ v_8) := hu_7
    have q_v_8 := hu_7
    replace hP : va_P (dC, dI) vwCl [(lh, .inr (1, [.ref fh, l_ahead, .int l_isOld, l_isReached, l_mayThrow, .int l_gatheredAny, .int l_gatheredLeast, .int l_gatheredGreatest])), (fa_sites, .inl (cJ, 6, .inr (.inl fc_sites))), (fa_maybeNull, .inl (cZ, 6, .inl fc_maybeNull)), (fh, .inr (0, [.int f_isReached, f_least, f_greatest, .ref fa_sites, .ref fa_maybeNull, f_known, .ref fa_lanes, f_shortest, f_longest, f_leastAt, f_greatestAt])), (fa_lanes, .inl (cI, 40, .inl fc_lanes))] H_7 := hP1
    replace hD : va_D A [(lh, .inr (1, [.ref fh, l_ahead, .int l_isOld, l_isReached, l_mayThrow, .int l_gatheredAny, .int l_gatheredLeast, .int l_gatheredGreatest])), (fa_sites, .inl (cJ, 6, .inr (.inl fc_sites))), (fa_maybeNull, .inl (cZ, 6, .inl fc_maybeNull)), (fh, .inr (0, [.int f_isReached, f_least, f_greatest, .ref fa_sites, .ref fa_maybeNull, f_known, .ref fa_lanes, f_shortest, f_longest, f_leastAt, f_greatestAt])), (fa_lanes, .inl (cI, 40, .inl fc_lanes))] := hD1
    replace hS := hS1
    clear hP1 hD1 hS1
    replace hl : lv_has ls1 5 [(0, .ref lh), (1, .int ra), (2, .int la), (3, .int ba)] := hl1
    clear hl1
    refine lv_istore (lv' := [(4, .int v_8), (0, .ref lh), (1, .int ra), (2, .int la), (3, .int ba)]) hx hb dX1_useThrows_30 hl (by decide) rfl (fun ls1 hl1 => ?_)
    replace hl := hl1; clear hl1
    refine lv_aload_n hx hb dX1_useThrows_32 rfl (lv_at hl 1 rfl) ?_
    refine lv_iload_n hx hb dX1_useThrows_33 rfl (lv_at hl 2 rfl) ?_
    have hPc := hP.sub (ws' := [(lh, .inr (1, [.ref fh, l_ahead, .int l_isOld, l_isReached, l_mayThrow, .int l_gatheredAny, .int l_gatheredLeast, .int l_gatheredGreatest])), (fh, .inr (0, [.int f_isReached, f_least, f_greatest, .ref fa_sites, .ref fa_maybeNull, f_known, .ref fa_lanes, f_shortest, f_longest, f_leastAt, f_greatestAt])), (fa_maybeNull, .inl (cZ, 6, .inl fc_maybeNull))]) [0, 3, 2] rfl
    have hDc := hD.sub (ws' := [(lh, .inr (1, [.ref fh, l_ahead, .int l_isOld, l_isReached, l_mayThrow, .int l_gatheredAny, .int l_gatheredLeast, .int l_gatheredGreatest])), (fh, .inr (0, [.int f_isReached, f_least, f_greatest, .ref fa_sites, .ref fa_maybeNull, f_known, .ref fa_lanes, f_shortest, f_longest, f_leastAt, f_greatestAt])), (fa_maybeNull, .inl (cZ, 6, .inl fc_maybeNull))]) [0, 3, 2] (by decide) rfl
    have hFc := va_free (wc := [(lh, .inr (1, [.ref fh, l_ahead, .int l_isOld, l_isReached, l_mayThrow, .int l_gatheredAny, .int l_gatheredLeast, .int l_gatheredGreatest])), (fh, .inr (0, [.int f_isReached, f_least, f_greatest, .ref fa_sites, .ref fa_maybeNull, f_known, .ref fa_lanes, f_shortest, f_longest, f_leastAt, f_greatestAt])), (fa_maybeNull, .inl (cZ, 6, .inl fc_maybeNull))]) hD hS hA [0, 3, 2] rfl
    refine va_calli (va_runV (As := [.int ra]) (rest := []) ⟨hx, hb, hml, hown, hts⟩ (s_X1_nullBit l dC dI cI cJ cZ lh fh l_ahead l_isOld l_isReached l_mayThrow l_gatheredAny l_gatheredLeast l_gatheredGreatest f_isReached f_least f_greatest (.ref fa_sites) fa_maybeNull f_known (.ref fa_lanes) f_shortest f_longest f_leastAt f_greatestAt fc_maybeNull ra H_7.size q_l_isOld q_l_gatheredAny q_f_isReached h_fc_maybeNull (by first | assumption | omega)) (cwV 1 hts h_X1_useThrows_X1_nullBit_148 rfl rfl rfl (by decide +kernel) ⟨Nat.le_of_ble_eq_true rfl, Nat.le_of_ble_eq_true rfl⟩) ⟨cPre_blind, va_recv hK hPc (ci := 1) (q0 := 0) rfl rfl, cPre_of hK hN hPc hDc⟩ rfl rfl hl.1 rfl (lv_room (Nat.le_of_ble_eq_true rfl)) dX1_useThrows_34 ⟨Nat.le_of_ble_eq_true rfl, Nat.le_of_ble_eq_true rfl⟩) hS (fun q _ h => hFc q h) hFc (fun r_9 u_9 t_9 H_9 locs_9 ht hvm hw_9 hB hz1 hk1 hS1 => ?_)
    obtain ⟨hP1, hK1, hD1⟩ := hB
    rw [ht] at hP1
    obtain ⟨hP2, hD2⟩ := va_join (wr := [(fa_sites, .inl (cJ, 6, .inr (.inl fc_sites))), (fa_lanes, .inl (cI, 40, .inl fc_lanes))]) (w1 := [(lh, .inr (1, [.ref fh, l_ahead, .int l_isOld, l_isReached, l_mayThrow, .int l_gatheredAny, .int l_gatheredLeast, .int l_gatheredGreatest])), (fh, .inr (0, [.int f_isReached, f_least, f_greatest, .ref fa_sites, .ref fa_maybeNull, f_known, .ref fa_lanes, f_shortest, f_longest, f_leastAt, f_greatestAt])), (fa_maybeNull, .inl (cZ, 6, .inl fc_maybeNull))]) hP hD [0, 3, 2] [1, 4] rfl rfl (by decide) (by decide) hk1 hFc hP1 hD1
    clear hPc hDc hFc hP1 hD1 hK1 hk1 hz1 hvm ht
    replace hP : va_P (dC, dI) vwCl [(fa_sites, .inl (cJ, 6, .inr (.inl fc_sites))), (fa_lanes, .inl (cI, 40, .inl fc_lanes)), (lh, .inr (1, [.ref fh, l_ahead, .int l_isOld, l_isReached, l_mayThrow, .int l_gatheredAny, .int l_gatheredLeast, .int l_gatheredGreatest])), (fh, .inr (0, [.int f_isReached, f_least, f_greatest, .ref fa_sites, .ref fa_maybeNull, f_known, .ref fa_lanes, f_shortest, f_longest, f_leastAt, f_greatestAt])), (fa_maybeNull, .inl (cZ, 6, .inl fc_maybeNull))] H_9 := hP2
    replace hD : va_D A [(fa_sites, .inl (cJ, 6, .inr (.inl fc_sites))), (fa_lanes, .inl (cI, 40, .inl fc_lanes)), (lh, .inr (1, [.ref fh, l_ahead, .int l_isOld, l_isReached, l_mayThrow, .int l_gatheredAny, .int l_gatheredLeast, .int l_gatheredGreatest])), (fh, .inr (0, [.int f_isReached, f_least, f_greatest, .ref fa_sites, .ref fa_maybeNull, f_known, .ref fa_lanes, f_shortest, f_longest, f_leastAt, f_greatestAt])), (fa_maybeNull, .inl (cZ, 6, .inl fc_maybeNull))] := hD2
    replace hS := hS1
    clear hP2 hD2 hS1
    refine lv_iload hx hb dX1_useThrows_37 (lv_at hl 0 rfl) ?_
    refine lv_iconst (v := 2) hx hb dX1_useThrows_39 (by decide) ?_
    refine vp_callSi (va_runS (As := [.int v_8, .int 2]) (rest := [.int r_9]) ⟨hx, hb, hml, hown, hts⟩ (s_X1_bitIf l v_8 2) (va_cwS 2 hts h_X1_useThrows_X1_bitIf_137 rfl rfl rfl (by decide +kernel) ⟨Nat.le_of_ble_eq_true rfl, Nat.le_of_ble_eq_true rfl⟩) ⟨fun _ _ _ _ q => q, fun _ _ _ => ⟨rfl, trivial⟩⟩ rfl rfl hl.1 rfl (lv_room (Nat.le_of_ble_eq_true rfl)) dX1_useThrows_40 ⟨Nat.le_of_ble_eq_true rfl, Nat.le_of_ble_eq_true rfl⟩).run (fun r_10 hw_10 => ?_)
    refine lv_ior hx hb dX1_useThrows_43 ?_
    refine lv_topi (fun v_11 e_v_11 => ?_)
    refine lv_iload_n hx hb dX1_useThrows_44 rfl (lv_at hl 4 rfl) ?_
    refine lv_iconst (v := 5) hx hb dX1_useThrows_45 (by decide) ?_
    refine vp_callSi (va_runS (As := [.int ba, .int 5]) (rest := [.int v_11]) ⟨hx, hb, hml, hown, hts⟩ (s_X1_bitIf l ba 5) (va_cwS 2 hts h_X1_useThrows_X1_bitIf_137 rfl rfl rfl (by decide +kernel) ⟨Nat.le_of_ble_eq_true rfl, Nat.le_of_ble_eq_true rfl⟩) ⟨fun _ _ _ _ q => q, fun _ _ _ => ⟨rfl, trivial⟩⟩ rfl rfl hl.1 rfl (lv_room (Nat.le_of_ble_eq_true rfl)) dX1_useThrows_46 ⟨Nat.le_of_ble_eq_true rfl, Nat.le_of_ble_eq_true rfl⟩).run (fun r_12 hw_12 => ?_)
    refine lv_ior hx hb dX1_useThrows_49 ?_
    refine lv_topi (fun v_13 e_v_13 => ?_)
    have hP9 := hP.sub (ws' := [(lh, .inr (1, [.ref fh, l_ahead, .int l_isOld, l_isReached, l_mayThrow, .int l_gatheredAny, .int l_gatheredLeast, .int l_gatheredGreatest])), (fh, .inr (0, [.int f_isReached, f_least, f_greatest, .ref fa_sites, .ref fa_maybeNull, f_known, .ref fa_lanes, f_shortest, f_longest, f_leastAt, f_greatestAt])), (fa_sites, .inl (cJ, 6, .inr (.inl fc_sites))), (fa_maybeNull, .inl (cZ, 6, .inl fc_maybeNull)), (fa_lanes, .inl (cI, 40, .inl fc_lanes))]) [2, 3, 0, 4, 1] rfl
    have hD9 := hD.sub (ws' := [(lh, .inr (1, [.ref fh, l_ahead, .int l_isOld, l_isReached, l_mayThrow, .int l_gatheredAny, .int l_gatheredLeast, .int l_gatheredGreatest])), (fh, .inr (0, [.int f_isReached, f_least, f_greatest, .ref fa_sites, .ref fa_maybeNull, f_known, .ref fa_lanes, f_shortest, f_longest, f_leastAt, f_greatestAt])), (fa_sites, .inl (cJ, 6, .inr (.inl fc_sites))), (fa_maybeNull, .inl (cZ, 6, .inl fc_maybeNull)), (fa_lanes, .inl (cI, 40, .inl fc_lanes))]) [2, 3, 0, 4, 1] (by decide) rfl
    exact W.iret (v := v_13) hx hb hr (fun t ht hW => ⟨⟨v_13, (), rfl, trivial, by rw [ht]; exact hP9, va_K.moved hW.alike hK, hD9⟩, hS.F ht⟩) hS.2.2 dX1_useThrows_50
  · -- ahead of 30
    refine lv_if_eq (tgt := 29) hx hb dX1_useThrows_22 (by decide) (fun c_14 => ?_) (fun c_14 => ?_)
    · -- yes
      have k_14 : v_5.toInt = (0 : Int32).toInt := ci_eq c_14
      refine lv_iconst (v := 0) hx hb dX1_useThrows_29 (by decide) ?_
      exact jn_7 (0 : Int32) (show (kZ (0 : Int32)) from (by decide)) _ _ _ (hP.sub [0, 1, 2, 3, 4] rfl) (hD.sub [0, 1, 2, 3, 4] (by decide) rfl) hS (lv_sub hl [0, 1, 2, 3] rfl)
    · -- no
      have k_14 : ¬ v_5.toInt = (0 : Int32).toInt := ci_ne c_14
      refine lv_iconst (v := 1) hx hb dX1_useThrows_25 (by decide) ?_
      refine lv_goto (tgt := 30) hx hb dX1_useThrows_26 (by decide) ?_
      exact jn_7 (1 : Int32) (show (kZ (1 : Int32)) from (by decide)) _ _ _ (hP.sub [0, 1, 2, 3, 4] rfl) (hD.sub [0, 1, 2, 3, 4] (by decide) rfl) hS (lv_sub hl [0, 1, 2, 3] rfl)

def v_X1_copyThrows : List Cond := .code yX1_copyThrows cX1_copyThrows 10 (some .int) :: ([.fieldLink RX1 12 "ArraySegments$Flow" "now" "LArraySegments$Facts;", .fieldLink RX1 109 "ArraySegments$Facts" "sites" "[J", .methodLink RX1 236 yX0_lanesOf, .instanceMethod yX0_lanesOf, .selects RX0 yX0_lanesOf yX0_lanesOf, .initialized RX0, .methodLink RX1 239 yJ6_bitCount_0f7a4, .static yJ6_bitCount_0f7a4, .initialized RJ6, .fieldLink RX1 91 "ArraySegments$Facts" "least" "[I", .fieldLink RX1 94 "ArraySegments$Facts" "greatest" "[I", .methodLink RX1 232 yX0_someMayHaveFewer, .instanceMethod yX0_someMayHaveFewer, .selects RX0 yX0_someMayHaveFewer yX0_someMayHaveFewer, .methodLink RX1 148 yX1_nullBit, .instanceMethod yX1_nullBit, .selects RX1 yX1_nullBit yX1_nullBit, .initialized RX1, .methodLink RX1 137 yX1_bitIf, .static yX1_bitIf] ++ (wsX10 ++ (wsX00 ++ (v_X0_lanesOf ++ (v_J6_bitCount_0f7a4 ++ (v_X0_someMayHaveFewer ++ (v_X1_nullBit ++ (v_X1_bitIf))))))))
theorem inv_X1_copyThrows_X1 : ∀ w ∈ wsX10, w ∈ v_X1_copyThrows := fun _ h => List.mem_cons_of_mem _ (List.mem_append_right _ (List.mem_append_left _ h))
theorem inv_X1_copyThrows_X0 : ∀ w ∈ wsX00, w ∈ v_X1_copyThrows := fun _ h => List.mem_cons_of_mem _ (List.mem_append_right _ (List.mem_append_right _ (List.mem_append_left _ h)))
theorem im_X1_copyThrows_X0_lanesOf : ∀ w ∈ v_X0_lanesOf, w ∈ v_X1_copyThrows := fun _ h => List.mem_cons_of_mem _ (List.mem_append_right _ (List.mem_append_right _ (List.mem_append_right _ (List.mem_append_left _ h))))
theorem im_X1_copyThrows_J6_bitCount_0f7a4 : ∀ w ∈ v_J6_bitCount_0f7a4, w ∈ v_X1_copyThrows := fun _ h => List.mem_cons_of_mem _ (List.mem_append_right _ (List.mem_append_right _ (List.mem_append_right _ (List.mem_append_right _ (List.mem_append_left _ h)))))
theorem im_X1_copyThrows_X0_someMayHaveFewer : ∀ w ∈ v_X0_someMayHaveFewer, w ∈ v_X1_copyThrows := fun _ h => List.mem_cons_of_mem _ (List.mem_append_right _ (List.mem_append_right _ (List.mem_append_right _ (List.mem_append_right _ (List.mem_append_right _ (List.mem_append_left _ h))))))
theorem im_X1_copyThrows_X1_nullBit : ∀ w ∈ v_X1_nullBit, w ∈ v_X1_copyThrows := fun _ h => List.mem_cons_of_mem _ (List.mem_append_right _ (List.mem_append_right _ (List.mem_append_right _ (List.mem_append_right _ (List.mem_append_right _ (List.mem_append_right _ (List.mem_append_left _ h)))))))
theorem im_X1_copyThrows_X1_bitIf : ∀ w ∈ v_X1_bitIf, w ∈ v_X1_copyThrows := fun _ h => List.mem_cons_of_mem _ (List.mem_append_right _ (List.mem_append_right _ (List.mem_append_right _ (List.mem_append_right _ (List.mem_append_right _ (List.mem_append_right _ (List.mem_append_right _ (h))))))))
set_option maxRecDepth 20000 in
theorem gd_X1_copyThrows : gdL v_X1_copyThrows := gdC (gdW (by decide +kernel)) (gdA (gdW (by decide +kernel)) (gdA gd_wsX10 (gdA gd_wsX00 (gdA gd_X0_lanesOf (gdA gd_J6_bitCount_0f7a4 (gdA gd_X0_someMayHaveFewer (gdA gd_X1_nullBit gd_X1_bitIf)))))))
set_option maxRecDepth 20000 in
theorem h_X1_copyThrows_X0_lanesOf_236 : GoodIn v_X1_copyThrows (wsV RX1 236 RX0 yX0_lanesOf v_X0_lanesOf) := gdI [3, 4, 5, 6] rfl (by decide +kernel) (im_X1_copyThrows_X0_lanesOf) gd_X0_lanesOf
set_option maxRecDepth 20000 in
theorem h_X1_copyThrows_J6_bitCount_0f7a4_239 : GoodIn v_X1_copyThrows (va_wsS RX1 239 yJ6_bitCount_0f7a4 v_J6_bitCount_0f7a4) := gdI [7, 8, 9] rfl (by decide +kernel) (im_X1_copyThrows_J6_bitCount_0f7a4) gd_J6_bitCount_0f7a4
set_option maxRecDepth 20000 in
theorem h_X1_copyThrows_X0_someMayHaveFewer_232 : GoodIn v_X1_copyThrows (wsV RX1 232 RX0 yX0_someMayHaveFewer v_X0_someMayHaveFewer) := gdI [12, 13, 14, 6] rfl (by decide +kernel) (im_X1_copyThrows_X0_someMayHaveFewer) gd_X0_someMayHaveFewer
set_option maxRecDepth 20000 in
theorem h_X1_copyThrows_X1_nullBit_148 : GoodIn v_X1_copyThrows (wsV RX1 148 RX1 yX1_nullBit v_X1_nullBit) := gdI [15, 16, 17, 18] rfl (by decide +kernel) (im_X1_copyThrows_X1_nullBit) gd_X1_nullBit
set_option maxRecDepth 20000 in
theorem h_X1_copyThrows_X1_bitIf_137 : GoodIn v_X1_copyThrows (va_wsS RX1 137 yX1_bitIf v_X1_bitIf) := gdI [19, 20, 18] rfl (by decide +kernel) (im_X1_copyThrows_X1_bitIf) gd_X1_bitIf
abbrev sw_X1_copyThrows (cI cJ cZ : ClassId) (lh : Nat) (fh : Nat) (l_ahead : Value) (l_isOld : Int32) (l_isReached : Value) (l_mayThrow : Value) (l_gatheredAny : Int32) (l_gatheredLeast : Int32) (l_gatheredGreatest : Int32) (f_isReached : Int32) (fa_least : Nat) (fa_greatest : Nat) (fa_sites : Nat) (fa_maybeNull : Nat) (f_known : Value) (fa_lanes : Nat) (fa_shortest : Nat) (f_longest : Value) (f_leastAt : Value) (f_greatestAt : Value) (fc_least : Nat → Int32) (fc_greatest : Nat → Int32) (fc_sites : Nat → Int64) (fc_maybeNull : Nat → Int32) (fc_lanes : Nat → Int32) (fc_shortest : Nat → Int32) (ra : Int32) (xa : Int32) (sa : Int32) (ya : Int32) (za : Int32) : va_W := [(lh, .inr (1, [.ref fh, l_ahead, .int l_isOld, l_isReached, l_mayThrow, .int l_gatheredAny, .int l_gatheredLeast, .int l_gatheredGreatest])), (fh, .inr (0, [.int f_isReached, .ref fa_least, .ref fa_greatest, .ref fa_sites, .ref fa_maybeNull, f_known, .ref fa_lanes, .ref fa_shortest, f_longest, f_leastAt, f_greatestAt])), (fa_least, .inl (cI, 6, .inl fc_least)), (fa_greatest, .inl (cI, 6, .inl fc_greatest)), (fa_sites, .inl (cJ, 6, .inr (.inl fc_sites))), (fa_maybeNull, .inl (cZ, 6, .inl fc_maybeNull)), (fa_lanes, .inl (cI, 40, .inl fc_lanes)), (fa_shortest, .inl (cI, 40, .inl fc_shortest))]
set_option maxHeartbeats 8000000 in
set_option maxRecDepth 100000 in
theorem s_X1_copyThrows (l : Launch) (dC : Nat → ClassId) (dI : Nat → Nat → Nat) (cI cJ cZ : ClassId) (lh : Nat) (fh : Nat) (l_ahead : Value) (l_isOld : Int32) (l_isReached : Value) (l_mayThrow : Value) (l_gatheredAny : Int32) (l_gatheredLeast : Int32) (l_gatheredGreatest : Int32) (f_isReached : Int32) (fa_least : Nat) (fa_greatest : Nat) (fa_sites : Nat) (fa_maybeNull : Nat) (f_known : Value) (fa_lanes : Nat) (fa_shortest : Nat) (f_longest : Value) (f_leastAt : Value) (f_greatestAt : Value) (fc_least : Nat → Int32) (fc_greatest : Nat → Int32) (fc_sites : Nat → Int64) (fc_maybeNull : Nat → Int32) (fc_lanes : Nat → Int32) (fc_shortest : Nat → Int32) (ra : Int32) (xa : Int32) (sa : Int32) (ya : Int32) (za : Int32) (sz : Nat) (q_l_isOld : kZ l_isOld) (q_l_gatheredAny : kZ l_gatheredAny) (q_f_isReached : kZ f_isReached) (h_fc_maybeNull : ∀ j : Nat, kZ (fc_maybeNull j)) (hy_ra : V6 ra) (hy_xa : V6 xa) (hy_sa : V6 sa) (hy_ya : V6 ya) (hy_za : V6 za) : Met l yX1_copyThrows v_X1_copyThrows ({ frames := 2, cells := 0, slots := 0, locals := 47 }) (va_Pc [.ref lh, .int ra, .int xa, .int sa, .int ya, .int za] (cPre dC dI cI cJ cZ sz (sw_X1_copyThrows cI cJ cZ lh fh l_ahead l_isOld l_isReached l_mayThrow l_gatheredAny l_gatheredLeast l_gatheredGreatest f_isReached fa_least fa_greatest fa_sites fa_maybeNull f_known fa_lanes fa_shortest f_longest f_leastAt f_greatestAt fc_least fc_greatest fc_sites fc_maybeNull fc_lanes fc_shortest ra xa sa ya za))) (va_Qi (fun (r : Int32) (u : Unit) => True) (fun (u : Unit) => cPost dC dI cI cJ cZ (va_A (sw_X1_copyThrows cI cJ cZ lh fh l_ahead l_isOld l_isReached l_mayThrow l_gatheredAny l_gatheredLeast l_gatheredGreatest f_isReached fa_least fa_greatest fa_sites fa_maybeNull f_known fa_lanes fa_shortest f_longest f_leastAt f_greatestAt fc_least fc_greatest fc_sites fc_maybeNull fc_lanes fc_shortest ra xa sa ya za) sz) [(lh, .inr (1, [.ref fh, l_ahead, .int l_isOld, l_isReached, l_mayThrow, .int l_gatheredAny, .int l_gatheredLeast, .int l_gatheredGreatest])), (fh, .inr (0, [.int f_isReached, .ref fa_least, .ref fa_greatest, .ref fa_sites, .ref fa_maybeNull, f_known, .ref fa_lanes, .ref fa_shortest, f_longest, f_leastAt, f_greatestAt])), (fa_least, .inl (cI, 6, .inl fc_least)), (fa_greatest, .inl (cI, 6, .inl fc_greatest)), (fa_sites, .inl (cJ, 6, .inr (.inl fc_sites))), (fa_maybeNull, .inl (cZ, 6, .inl fc_maybeNull)), (fa_lanes, .inl (cI, 40, .inl fc_lanes)), (fa_shortest, .inl (cI, 40, .inl fc_shortest))]) (va_A (sw_X1_copyThrows cI cJ cZ lh fh l_ahead l_isOld l_isReached l_mayThrow l_gatheredAny l_gatheredLeast l_gatheredGreatest f_isReached fa_least fa_greatest fa_sites fa_maybeNull f_known fa_lanes fa_shortest f_longest f_leastAt f_greatestAt fc_least fc_greatest fc_sites fc_maybeNull fc_lanes fc_shortest ra xa sa ya za) sz)) 0 0 (va_A (sw_X1_copyThrows cI cJ cZ lh fh l_ahead l_isOld l_isReached l_mayThrow l_gatheredAny l_gatheredLeast l_gatheredGreatest f_isReached fa_least fa_greatest fa_sites fa_maybeNull f_known fa_lanes fa_shortest f_longest f_leastAt f_greatestAt fc_least fc_greatest fc_sites fc_maybeNull fc_lanes fc_shortest ra xa sa ya za) sz) := by
  refine Met.ofW (cc := cX1_copyThrows) (maxL := 10) (ret := (some .int)) (by decide) rfl ?_
  intro p e s m args below meth c s₁ B hml hv
  obtain ⟨rfl, hsz, hP, hK, hD0, hN⟩ := hv
  have hx := B.exec
  have hb := B.bytes
  have hr := B.returns
  have hts := atoms_spec (ws := v_X1_copyThrows) B.pre
  have hown : s.vm.findClass RX1 = some m.cls := findClass_of_methodNamed B.named
  have hlocks := B.notSynchronized
  subst hsz
  have hD := hD0.self (sz := s.heap.size)
  generalize hAe : va_A (sw_X1_copyThrows cI cJ cZ lh fh l_ahead l_isOld l_isReached l_mayThrow l_gatheredAny l_gatheredLeast l_gatheredGreatest f_isReached fa_least fa_greatest fa_sites fa_maybeNull f_known fa_lanes fa_shortest f_longest f_leastAt f_greatestAt fc_least fc_greatest fc_sites fc_maybeNull fc_lanes fc_shortest ra xa sa ya za) s.heap.size = A at hD ⊢
  have hA : ∀ q : Nat, s.heap.size ≤ q → A q := fun q h => by rw [← hAe]; exact Or.inr h
  clear hAe hD0
  have hS : va_S A s.heap s.heap [] := va_S.rf
  replace hP : va_P (dC, dI) vwCl [(lh, .inr (1, [.ref fh, l_ahead, .int l_isOld, l_isReached, l_mayThrow, .int l_gatheredAny, .int l_gatheredLeast, .int l_gatheredGreatest])), (fh, .inr (0, [.int f_isReached, .ref fa_least, .ref fa_greatest, .ref fa_sites, .ref fa_maybeNull, f_known, .ref fa_lanes, .ref fa_shortest, f_longest, f_leastAt, f_greatestAt])), (fa_least, .inl (cI, 6, .inl fc_least)), (fa_greatest, .inl (cI, 6, .inl fc_greatest)), (fa_sites, .inl (cJ, 6, .inr (.inl fc_sites))), (fa_maybeNull, .inl (cZ, 6, .inl fc_maybeNull)), (fa_lanes, .inl (cI, 40, .inl fc_lanes)), (fa_shortest, .inl (cI, 40, .inl fc_shortest))] s.heap := hP
  replace hD : va_D A [(lh, .inr (1, [.ref fh, l_ahead, .int l_isOld, l_isReached, l_mayThrow, .int l_gatheredAny, .int l_gatheredLeast, .int l_gatheredGreatest])), (fh, .inr (0, [.int f_isReached, .ref fa_least, .ref fa_greatest, .ref fa_sites, .ref fa_maybeNull, f_known, .ref fa_lanes, .ref fa_shortest, f_longest, f_leastAt, f_greatestAt])), (fa_least, .inl (cI, 6, .inl fc_least)), (fa_greatest, .inl (cI, 6, .inl fc_greatest)), (fa_sites, .inl (cJ, 6, .inr (.inl fc_sites))), (fa_maybeNull, .inl (cZ, 6, .inl fc_maybeNull)), (fa_lanes, .inl (cI, 40, .inl fc_lanes)), (fa_shortest, .inl (cI, 40, .inl fc_shortest))] := hD
  have hl := lv_entry ([.ref lh, .int ra, .int xa, .int sa, .int ya, .int za]) (n := 10) (Nat.le_of_ble_eq_true rfl)
  rw [lg_entry_eq]
  generalize (lg_sl ([.ref lh, .int ra, .int xa, .int sa, .int ya, .int za]) ++ List.replicate (10 - (lg_sl ([.ref lh, .int ra, .int xa, .int sa, .int ya, .int za])).length) Slot.unset).toArray = ls at hl ⊢
  replace hl : lv_has ls 10 [(0, .ref lh), (1, .int ra), (2, .int xa), (3, .int sa), (4, .int ya), (5, .int za)] := hl
  have z_0 : (0 : Int32).toInt = 0 := by decide
  have z_1 : (1 : Int32).toInt = 1 := by decide
  have z_4 : (4 : Int32).toInt = 4 := by decide
  have z_5 : (5 : Int32).toInt = 5 := by decide
  refine lv_aload_n hx hb dX1_copyThrows_0 rfl (lv_at hl 0 rfl) ?_
  refine va_get (D := (dC, dI)) (ci := 1) (v := .ref fh) (C := RX1) (T := TX1) (N := 8) hx hb hts inv_X1_copyThrows_X1 hown hK hP 0 rfl rfl 0 (by decide) (hts (.fieldLink RX1 12 "ArraySegments$Flow" "now" "LArraySegments$Facts;") (List.mem_of_getElem? (i := 1) rfl)) (fun _ h9 => h9) rfl dX1_copyThrows_1 ?_
  refine lv_aload_n hx hb dX1_copyThrows_4 rfl (lv_at hl 0 rfl) ?_
  refine va_get (D := (dC, dI)) (ci := 1) (v := .ref fh) (C := RX1) (T := TX1) (N := 8) hx hb hts inv_X1_copyThrows_X1 hown hK hP 0 rfl rfl 0 (by decide) (hts (.fieldLink RX1 12 "ArraySegments$Flow" "now" "LArraySegments$Facts;") (List.mem_of_getElem? (i := 1) rfl)) (fun _ h9 => h9) rfl dX1_copyThrows_5 ?_
  refine va_get (D := (dC, dI)) (ci := 0) (v := .ref fa_sites) (C := RX0) (T := TX0) (N := 11) hx hb hts inv_X1_copyThrows_X0 hown hK hP 1 rfl rfl 3 (by decide) (hts (.fieldLink RX1 109 "ArraySegments$Facts" "sites" "[J") (List.mem_of_getElem? (i := 2) rfl)) (fun _ h9 => h9) rfl dX1_copyThrows_8 ?_
  refine lv_iload_n hx hb dX1_copyThrows_11 rfl (lv_at hl 1 rfl) ?_
  refine sf_lald lT hx hb hK hP 4 1 rfl rfl (fun _ => trivial) (vp_in_iff.mpr ⟨by omega, by omega⟩) dX1_copyThrows_12 (fun v_1 q_v_1 e_v_1 => ?_)
  have hPc := hP.sub (ws' := [(fh, .inr (0, [.int f_isReached, .ref fa_least, .ref fa_greatest, .ref fa_sites, .ref fa_maybeNull, f_known, .ref fa_lanes, .ref fa_shortest, f_longest, f_leastAt, f_greatestAt])), (fa_lanes, .inl (cI, 40, .inl fc_lanes))]) [1, 6] rfl
  have hDc := hD.sub (ws' := [(fh, .inr (0, [.int f_isReached, .ref fa_least, .ref fa_greatest, .ref fa_sites, .ref fa_maybeNull, f_known, .ref fa_lanes, .ref fa_shortest, f_longest, f_leastAt, f_greatestAt])), (fa_lanes, .inl (cI, 40, .inl fc_lanes))]) [1, 6] (by decide) rfl
  have hFc := va_free (wc := [(fh, .inr (0, [.int f_isReached, .ref fa_least, .ref fa_greatest, .ref fa_sites, .ref fa_maybeNull, f_known, .ref fa_lanes, .ref fa_shortest, f_longest, f_leastAt, f_greatestAt])), (fa_lanes, .inl (cI, 40, .inl fc_lanes))]) hD hS hA [1, 6] rfl
  refine va_calli (va_runV (As := [.long v_1]) (rest := []) ⟨hx, hb, hml, hown, hts⟩ (s_X0_lanesOf l dC dI cI cJ cZ fh f_isReached (.ref fa_least) (.ref fa_greatest) (.ref fa_sites) (.ref fa_maybeNull) f_known fa_lanes (.ref fa_shortest) f_longest f_leastAt f_greatestAt fc_lanes v_1 s.heap.size q_f_isReached) (cwV 1 hts h_X1_copyThrows_X0_lanesOf_236 rfl rfl rfl (by decide +kernel) ⟨Nat.le_of_ble_eq_true rfl, Nat.le_of_ble_eq_true rfl⟩) ⟨cPre_blind, va_recv hK hPc (ci := 0) (q0 := 0) rfl rfl, cPre_of hK hN hPc hDc⟩ rfl rfl hl.1 rfl (lv_room (Nat.le_of_ble_eq_true rfl)) dX1_copyThrows_13 ⟨Nat.le_of_ble_eq_true rfl, Nat.le_of_ble_eq_true rfl⟩) hS (fun q _ h => hFc q h) hFc (fun r_2 u_2 t_2 H_2 locs_2 ht hvm hw_2 hB hz1 hk1 hS1 => ?_)
  obtain ⟨hP1, hK1, hD1⟩ := hB
  rw [ht] at hP1
  obtain ⟨hP2, hD2⟩ := va_join (wr := [(lh, .inr (1, [.ref fh, l_ahead, .int l_isOld, l_isReached, l_mayThrow, .int l_gatheredAny, .int l_gatheredLeast, .int l_gatheredGreatest])), (fa_least, .inl (cI, 6, .inl fc_least)), (fa_greatest, .inl (cI, 6, .inl fc_greatest)), (fa_sites, .inl (cJ, 6, .inr (.inl fc_sites))), (fa_maybeNull, .inl (cZ, 6, .inl fc_maybeNull)), (fa_shortest, .inl (cI, 40, .inl fc_shortest))]) (w1 := [(fh, .inr (0, [.int f_isReached, .ref fa_least, .ref fa_greatest, .ref fa_sites, .ref fa_maybeNull, f_known, .ref fa_lanes, .ref fa_shortest, f_longest, f_leastAt, f_greatestAt])), (fa_lanes, .inl (cI, 40, .inl fc_lanes))]) hP hD [1, 6] [0, 2, 3, 4, 5, 7] rfl rfl (by decide) (by decide) hk1 hFc hP1 hD1
  clear hPc hDc hFc hP1 hD1 hK1 hk1 hz1 hvm ht
  replace hP : va_P (dC, dI) vwCl [(lh, .inr (1, [.ref fh, l_ahead, .int l_isOld, l_isReached, l_mayThrow, .int l_gatheredAny, .int l_gatheredLeast, .int l_gatheredGreatest])), (fa_least, .inl (cI, 6, .inl fc_least)), (fa_greatest, .inl (cI, 6, .inl fc_greatest)), (fa_sites, .inl (cJ, 6, .inr (.inl fc_sites))), (fa_maybeNull, .inl (cZ, 6, .inl fc_maybeNull)), (fa_shortest, .inl (cI, 40, .inl fc_shortest)), (fh, .inr (0, [.int f_isReached, .ref fa_least, .ref fa_greatest, .ref fa_sites, .ref fa_maybeNull, f_known, .ref fa_lanes, .ref fa_shortest, f_longest, f_leastAt, f_greatestAt])), (fa_lanes, .inl (cI, 40, .inl fc_lanes))] H_2 := hP2
  replace hD : va_D A [(lh, .inr (1, [.ref fh, l_ahead, .int l_isOld, l_isReached, l_mayThrow, .int l_gatheredAny, .int l_gatheredLeast, .int l_gatheredGreatest])), (fa_least, .inl (cI, 6, .inl fc_least)), (fa_greatest, .inl (cI, 6, .inl fc_greatest)), (fa_sites, .inl (cJ, 6, .inr (.inl fc_sites))), (fa_maybeNull, .inl (cZ, 6, .inl fc_maybeNull)), (fa_shortest, .inl (cI, 40, .inl fc_shortest)), (fh, .inr (0, [.int f_isReached, .ref fa_least, .ref fa_greatest, .ref fa_sites, .ref fa_maybeNull, f_known, .ref fa_lanes, .ref fa_shortest, f_longest, f_leastAt, f_greatestAt])), (fa_lanes, .inl (cI, 40, .inl fc_lanes))] := hD2
  replace hS := hS1
  clear hP2 hD2 hS1
  refine lv_istore (lv' := [(6, .int r_2), (0, .ref lh), (1, .int ra), (2, .int xa), (3, .int sa), (4, .int ya), (5, .int za)]) hx hb dX1_copyThrows_16 hl (by decide) rfl (fun ls1 hl1 => ?_)
  replace hl := hl1; clear hl1
  refine lv_aload_n hx hb dX1_copyThrows_18 rfl (lv_at hl 1 rfl) ?_
  refine va_get (D := (dC, dI)) (ci := 1) (v := .ref fh) (C := RX1) (T := TX1) (N := 8) hx hb hts inv_X1_copyThrows_X1 hown hK hP 0 rfl rfl 0 (by decide) (hts (.fieldLink RX1 12 "ArraySegments$Flow" "now" "LArraySegments$Facts;") (List.mem_of_getElem? (i := 1) rfl)) (fun _ h9 => h9) rfl dX1_copyThrows_19 ?_
  refine lv_aload_n hx hb dX1_copyThrows_22 rfl (lv_at hl 1 rfl) ?_
  refine va_get (D := (dC, dI)) (ci := 1) (v := .ref fh) (C := RX1) (T := TX1) (N := 8) hx hb hts inv_X1_copyThrows_X1 hown hK hP 0 rfl rfl 0 (by decide) (hts (.fieldLink RX1 12 "ArraySegments$Flow" "now" "LArraySegments$Facts;") (List.mem_of_getElem? (i := 1) rfl)) (fun _ h9 => h9) rfl dX1_copyThrows_23 ?_
  refine va_get (D := (dC, dI)) (ci := 0) (v := .ref fa_sites) (C := RX0) (T := TX0) (N := 11) hx hb hts inv_X1_copyThrows_X0 hown hK hP 6 rfl rfl 3 (by decide) (hts (.fieldLink RX1 109 "ArraySegments$Facts" "sites" "[J") (List.mem_of_getElem? (i := 2) rfl)) (fun _ h9 => h9) rfl dX1_copyThrows_26 ?_
  refine lv_iload_n hx hb dX1_copyThrows_29 rfl (lv_at hl 4 rfl) ?_
  refine sf_lald lT hx hb hK hP 3 1 rfl rfl (fun _ => trivial) (vp_in_iff.mpr ⟨by omega, by omega⟩) dX1_copyThrows_30 (fun v_3 q_v_3 e_v_3 => ?_)
  have hPc := hP.sub (ws' := [(fh, .inr (0, [.int f_isReached, .ref fa_least, .ref fa_greatest, .ref fa_sites, .ref fa_maybeNull, f_known, .ref fa_lanes, .ref fa_shortest, f_longest, f_leastAt, f_greatestAt])), (fa_lanes, .inl (cI, 40, .inl fc_lanes))]) [6, 7] rfl
  have hDc := hD.sub (ws' := [(fh, .inr (0, [.int f_isReached, .ref fa_least, .ref fa_greatest, .ref fa_sites, .ref fa_maybeNull, f_known, .ref fa_lanes, .ref fa_shortest, f_longest, f_leastAt, f_greatestAt])), (fa_lanes, .inl (cI, 40, .inl fc_lanes))]) [6, 7] (by decide) rfl
  have hFc := va_free (wc := [(fh, .inr (0, [.int f_isReached, .ref fa_least, .ref fa_greatest, .ref fa_sites, .ref fa_maybeNull, f_known, .ref fa_lanes, .ref fa_shortest, f_longest, f_leastAt, f_greatestAt])), (fa_lanes, .inl (cI, 40, .inl fc_lanes))]) hD hS hA [6, 7] rfl
  refine va_calli (va_runV (As := [.long v_3]) (rest := []) ⟨hx, hb, hml, hown, hts⟩ (s_X0_lanesOf l dC dI cI cJ cZ fh f_isReached (.ref fa_least) (.ref fa_greatest) (.ref fa_sites) (.ref fa_maybeNull) f_known fa_lanes (.ref fa_shortest) f_longest f_leastAt f_greatestAt fc_lanes v_3 H_2.size q_f_isReached) (cwV 1 hts h_X1_copyThrows_X0_lanesOf_236 rfl rfl rfl (by decide +kernel) ⟨Nat.le_of_ble_eq_true rfl, Nat.le_of_ble_eq_true rfl⟩) ⟨cPre_blind, va_recv hK hPc (ci := 0) (q0 := 0) rfl rfl, cPre_of hK hN hPc hDc⟩ rfl rfl hl.1 rfl (lv_room (Nat.le_of_ble_eq_true rfl)) dX1_copyThrows_31 ⟨Nat.le_of_ble_eq_true rfl, Nat.le_of_ble_eq_true rfl⟩) hS (fun q _ h => hFc q h) hFc (fun r_4 u_4 t_4 H_4 locs_4 ht hvm hw_4 hB hz1 hk1 hS1 => ?_)
  obtain ⟨hP1, hK1, hD1⟩ := hB
  rw [ht] at hP1
  obtain ⟨hP2, hD2⟩ := va_join (wr := [(lh, .inr (1, [.ref fh, l_ahead, .int l_isOld, l_isReached, l_mayThrow, .int l_gatheredAny, .int l_gatheredLeast, .int l_gatheredGreatest])), (fa_least, .inl (cI, 6, .inl fc_least)), (fa_greatest, .inl (cI, 6, .inl fc_greatest)), (fa_sites, .inl (cJ, 6, .inr (.inl fc_sites))), (fa_maybeNull, .inl (cZ, 6, .inl fc_maybeNull)), (fa_shortest, .inl (cI, 40, .inl fc_shortest))]) (w1 := [(fh, .inr (0, [.int f_isReached, .ref fa_least, .ref fa_greatest, .ref fa_sites, .ref fa_maybeNull, f_known, .ref fa_lanes, .ref fa_shortest, f_longest, f_leastAt, f_greatestAt])), (fa_lanes, .inl (cI, 40, .inl fc_lanes))]) hP hD [6, 7] [0, 1, 2, 3, 4, 5] rfl rfl (by decide) (by decide) hk1 hFc hP1 hD1
  clear hPc hDc hFc hP1 hD1 hK1 hk1 hz1 hvm ht
  replace hP : va_P (dC, dI) vwCl [(lh, .inr (1, [.ref fh, l_ahead, .int l_isOld, l_isReached, l_mayThrow, .int l_gatheredAny, .int l_gatheredLeast, .int l_gatheredGreatest])), (fa_least, .inl (cI, 6, .inl fc_least)), (fa_greatest, .inl (cI, 6, .inl fc_greatest)), (fa_sites, .inl (cJ, 6, .inr (.inl fc_sites))), (fa_maybeNull, .inl (cZ, 6, .inl fc_maybeNull)), (fa_shortest, .inl (cI, 40, .inl fc_shortest)), (fh, .inr (0, [.int f_isReached, .ref fa_least, .ref fa_greatest, .ref fa_sites, .ref fa_maybeNull, f_known, .ref fa_lanes, .ref fa_shortest, f_longest, f_leastAt, f_greatestAt])), (fa_lanes, .inl (cI, 40, .inl fc_lanes))] H_4 := hP2
  replace hD : va_D A [(lh, .inr (1, [.ref fh, l_ahead, .int l_isOld, l_isReached, l_mayThrow, .int l_gatheredAny, .int l_gatheredLeast, .int l_gatheredGreatest])), (fa_least, .inl (cI, 6, .inl fc_least)), (fa_greatest, .inl (cI, 6, .inl fc_greatest)), (fa_sites, .inl (cJ, 6, .inr (.inl fc_sites))), (fa_maybeNull, .inl (cZ, 6, .inl fc_maybeNull)), (fa_shortest, .inl (cI, 40, .inl fc_shortest)), (fh, .inr (0, [.int f_isReached, .ref fa_least, .ref fa_greatest, .ref fa_sites, .ref fa_maybeNull, f_known, .ref fa_lanes, .ref fa_shortest, f_longest, f_leastAt, f_greatestAt])), (fa_lanes, .inl (cI, 40, .inl fc_lanes))] := hD2
  replace hS := hS1
  clear hP2 hD2 hS1
  refine lv_istore (lv' := [(7, .int r_4), (6, .int r_2), (0, .ref lh), (1, .int ra), (2, .int xa), (3, .int sa), (4, .int ya), (5, .int za)]) hx hb dX1_copyThrows_34 hl (by decide) rfl (fun ls1 hl1 => ?_)
  replace hl := hl1; clear hl1
  refine lv_iload hx hb dX1_copyThrows_36 (lv_at hl 1 rfl) ?_
  refine my_join (S := Int32) (fun u => (kZ (u))) (fun u => [(lh, .inr (1, [.ref fh, l_ahead, .int l_isOld, l_isReached, l_mayThrow, .int l_gatheredAny, .int l_gatheredLeast, .int l_gatheredGreatest])), (fa_least, .inl (cI, 6, .inl fc_least)), (fa_greatest, .inl (cI, 6, .inl fc_greatest)), (fa_sites, .inl (cJ, 6, .inr (.inl fc_sites))), (fa_maybeNull, .inl (cZ, 6, .inl fc_maybeNull)), (fa_shortest, .inl (cI, 40, .inl fc_shortest)), (fh, .inr (0, [.int f_isReached, .ref fa_least, .ref fa_greatest, .ref fa_sites, .ref fa_maybeNull, f_known, .ref fa_lanes, .ref fa_shortest, f_longest, f_leastAt, f_greatestAt])), (fa_lanes, .inl (cI, 40, .inl fc_lanes))]) (fun u => [(7, .int r_4), (6, .int r_2), (0, .ref lh), (1, .int ra), (2, .int xa), (3, .int sa), (4, .int ya), (5, .int za)]) (fun u => [.int (u)]) (nL := 10) (H0 := s.heap) (A := A) (D := (dC, dI)) (cl := vwCl) 63 (fun u_6 hu_6 H_6 locs_6 ls1 hP1 hD1 hS1 hl1 => ?_) (fun jn_6 => ?_)
  · -- behind 63
    obtain ⟨v_7, rfl⟩ : ∃ z, z = u_6 := ⟨_, rfl⟩
    replace hu_6 : (kZ v_7) := hu_6
    have q_v_7 := hu_6
    replace hP : va_P (dC, dI) vwCl [(lh, .inr (1, [.ref fh, l_ahead, .int l_isOld, l_isReached, l_mayThrow, .int l_gatheredAny, .int l_gatheredLeast, .int l_gatheredGreatest])), (fa_least, .inl (cI, 6, .inl fc_least)), (fa_greatest, .inl (cI, 6, .inl fc_greatest)), (fa_sites, .inl (cJ, 6, .inr (.inl fc_sites))), (fa_maybeNull, .inl (cZ, 6, .inl fc_maybeNull)), (fa_shortest, .inl (cI, 40, .inl fc_shortest)), (fh, .inr (0, [.int f_isReached, .ref fa_least, .ref fa_greatest, .ref fa_sites, .ref fa_maybeNull, f_known, .ref fa_lanes, .ref fa_shortest, f_longest, f_leastAt, f_greatestAt])), (fa_lanes, .inl (cI, 40, .inl fc_lanes))] H_6 := hP1
    replace hD : va_D A [(lh, .inr (1, [.ref fh, l_ahead, .int l_isOld, l_isReached, l_mayThrow, .int l_gatheredAny, .int l_gatheredLeast, .int l_gatheredGreatest])), (fa_least, .inl (cI, 6, .inl fc_least)), (fa_greatest, .inl (cI, 6, .inl fc_greatest)), (fa_sites, .inl (cJ, 6, .inr (.inl fc_sites))), (fa_maybeNull, .inl (cZ, 6, .inl fc_maybeNull)), (fa_shortest, .inl (cI, 40, .inl fc_shortest)), (fh, .inr (0, [.int f_isReached, .ref fa_least, .ref fa_greatest, .ref fa_sites, .ref fa_maybeNull, f_known, .ref fa_lanes, .ref fa_shortest, f_longest, f_leastAt, f_greatestAt])), (fa_lanes, .inl (cI, 40, .inl fc_lanes))] := hD1
    replace hS := hS1
    clear hP1 hD1 hS1
    replace hl : lv_has ls1 10 [(7, .int r_4), (6, .int r_2), (0, .ref lh), (1, .int ra), (2, .int xa), (3, .int sa), (4, .int ya), (5, .int za)] := hl1
    clear hl1
    refine lv_istore (lv' := [(8, .int v_7), (7, .int r_4), (6, .int r_2), (0, .ref lh), (1, .int ra), (2, .int xa), (3, .int sa), (4, .int ya), (5, .int za)]) hx hb dX1_copyThrows_63 hl (by decide) rfl (fun ls1 hl1 => ?_)
    replace hl := hl1; clear hl1
    refine lv_aload_n hx hb dX1_copyThrows_65 rfl (lv_at hl 3 rfl) ?_
    refine va_get (D := (dC, dI)) (ci := 1) (v := .ref fh) (C := RX1) (T := TX1) (N := 8) hx hb hts inv_X1_copyThrows_X1 hown hK hP 0 rfl rfl 0 (by decide) (hts (.fieldLink RX1 12 "ArraySegments$Flow" "now" "LArraySegments$Facts;") (List.mem_of_getElem? (i := 1) rfl)) (fun _ h9 => h9) rfl dX1_copyThrows_66 ?_
    refine va_get (D := (dC, dI)) (ci := 0) (v := .ref fa_least) (C := RX0) (T := TX0) (N := 11) hx hb hts inv_X1_copyThrows_X0 hown hK hP 6 rfl rfl 1 (by decide) (hts (.fieldLink RX1 91 "ArraySegments$Facts" "least" "[I") (List.mem_of_getElem? (i := 10) rfl)) (fun _ h9 => h9) rfl dX1_copyThrows_69 ?_
    refine lv_iload_n hx hb dX1_copyThrows_72 rfl (lv_at hl 5 rfl) ?_
    refine sf_iald kT hx hb hK hP 1 0 rfl rfl (fun _ => trivial) (vp_in_iff.mpr ⟨by omega, by omega⟩) dX1_copyThrows_73 (fun v_8 q_v_8 e_v_8 => ?_)
    refine my_join (S := Int32) (fun u => (kZ (u))) (fun u => [(lh, .inr (1, [.ref fh, l_ahead, .int l_isOld, l_isReached, l_mayThrow, .int l_gatheredAny, .int l_gatheredLeast, .int l_gatheredGreatest])), (fa_least, .inl (cI, 6, .inl fc_least)), (fa_greatest, .inl (cI, 6, .inl fc_greatest)), (fa_sites, .inl (cJ, 6, .inr (.inl fc_sites))), (fa_maybeNull, .inl (cZ, 6, .inl fc_maybeNull)), (fa_shortest, .inl (cI, 40, .inl fc_shortest)), (fh, .inr (0, [.int f_isReached, .ref fa_least, .ref fa_greatest, .ref fa_sites, .ref fa_maybeNull, f_known, .ref fa_lanes, .ref fa_shortest, f_longest, f_leastAt, f_greatestAt])), (fa_lanes, .inl (cI, 40, .inl fc_lanes))]) (fun u => [(8, .int v_7), (7, .int r_4), (6, .int r_2), (0, .ref lh), (1, .int ra), (2, .int xa), (3, .int sa), (4, .int ya), (5, .int za)]) (fun u => [.int (u)]) (nL := 10) (H0 := s.heap) (A := A) (D := (dC, dI)) (cl := vwCl) 191 (fun u_10 hu_10 H_10 locs_10 ls1 hP1 hD1 hS1 hl1 => ?_) (fun jn_10 => ?_)
    · -- behind 191
      obtain ⟨v_11, rfl⟩ : ∃ z, z = u_10 := ⟨_, rfl⟩
      replace hu_10 : (kZ v_11) := hu_10
      have q_v_11 := hu_10
      replace hP : va_P (dC, dI) vwCl [(lh, .inr (1, [.ref fh, l_ahead, .int l_isOld, l_isReached, l_mayThrow, .int l_gatheredAny, .int l_gatheredLeast, .int l_gatheredGreatest])), (fa_least, .inl (cI, 6, .inl fc_least)), (fa_greatest, .inl (cI, 6, .inl fc_greatest)), (fa_sites, .inl (cJ, 6, .inr (.inl fc_sites))), (fa_maybeNull, .inl (cZ, 6, .inl fc_maybeNull)), (fa_shortest, .inl (cI, 40, .inl fc_shortest)), (fh, .inr (0, [.int f_isReached, .ref fa_least, .ref fa_greatest, .ref fa_sites, .ref fa_maybeNull, f_known, .ref fa_lanes, .ref fa_shortest, f_longest, f_leastAt, f_greatestAt])), (fa_lanes, .inl (cI, 40, .inl fc_lanes))] H_10 := hP1
      replace hD : va_D A [(lh, .inr (1, [.ref fh, l_ahead, .int l_isOld, l_isReached, l_mayThrow, .int l_gatheredAny, .int l_gatheredLeast, .int l_gatheredGreatest])), (fa_least, .inl (cI, 6, .inl fc_least)), (fa_greatest, .inl (cI, 6, .inl fc_greatest)), (fa_sites, .inl (cJ, 6, .inr (.inl fc_sites))), (fa_maybeNull, .inl (cZ, 6, .inl fc_maybeNull)), (fa_shortest, .inl (cI, 40, .inl fc_shortest)), (fh, .inr (0, [.int f_isReached, .ref fa_least, .ref fa_greatest, .ref fa_sites, .ref fa_maybeNull, f_known, .ref fa_lanes, .ref fa_shortest, f_longest, f_leastAt, f_greatestAt])), (fa_lanes, .inl (cI, 40, .inl fc_lanes))] := hD1
      replace hS := hS1
      clear hP1 hD1 hS1
      replace hl : lv_has ls1 10 [(8, .int v_7), (7, .int r_4), (6, .int r_2), (0, .ref lh), (1, .int ra), (2, .int xa), (3, .int sa), (4, .int ya), (5, .int za)] := hl1
      clear hl1
      refine lv_istore (lv' := [(9, .int v_11), (8, .int v_7), (7, .int r_4), (6, .int r_2), (0, .ref lh), (1, .int ra), (2, .int xa), (3, .int sa), (4, .int ya), (5, .int za)]) hx hb dX1_copyThrows_191 hl (by decide) rfl (fun ls1 hl1 => ?_)
      replace hl := hl1; clear hl1
      refine lv_aload_n hx hb dX1_copyThrows_193 rfl (lv_at hl 4 rfl) ?_
      refine lv_iload_n hx hb dX1_copyThrows_194 rfl (lv_at hl 5 rfl) ?_
      have hPc := hP.sub (ws' := [(lh, .inr (1, [.ref fh, l_ahead, .int l_isOld, l_isReached, l_mayThrow, .int l_gatheredAny, .int l_gatheredLeast, .int l_gatheredGreatest])), (fh, .inr (0, [.int f_isReached, .ref fa_least, .ref fa_greatest, .ref fa_sites, .ref fa_maybeNull, f_known, .ref fa_lanes, .ref fa_shortest, f_longest, f_leastAt, f_greatestAt])), (fa_maybeNull, .inl (cZ, 6, .inl fc_maybeNull))]) [0, 6, 4] rfl
      have hDc := hD.sub (ws' := [(lh, .inr (1, [.ref fh, l_ahead, .int l_isOld, l_isReached, l_mayThrow, .int l_gatheredAny, .int l_gatheredLeast, .int l_gatheredGreatest])), (fh, .inr (0, [.int f_isReached, .ref fa_least, .ref fa_greatest, .ref fa_sites, .ref fa_maybeNull, f_known, .ref fa_lanes, .ref fa_shortest, f_longest, f_leastAt, f_greatestAt])), (fa_maybeNull, .inl (cZ, 6, .inl fc_maybeNull))]) [0, 6, 4] (by decide) rfl
      have hFc := va_free (wc := [(lh, .inr (1, [.ref fh, l_ahead, .int l_isOld, l_isReached, l_mayThrow, .int l_gatheredAny, .int l_gatheredLeast, .int l_gatheredGreatest])), (fh, .inr (0, [.int f_isReached, .ref fa_least, .ref fa_greatest, .ref fa_sites, .ref fa_maybeNull, f_known, .ref fa_lanes, .ref fa_shortest, f_longest, f_leastAt, f_greatestAt])), (fa_maybeNull, .inl (cZ, 6, .inl fc_maybeNull))]) hD hS hA [0, 6, 4] rfl
      refine va_calli (va_runV (As := [.int ra]) (rest := []) ⟨hx, hb, hml, hown, hts⟩ (s_X1_nullBit l dC dI cI cJ cZ lh fh l_ahead l_isOld l_isReached l_mayThrow l_gatheredAny l_gatheredLeast l_gatheredGreatest f_isReached (.ref fa_least) (.ref fa_greatest) (.ref fa_sites) fa_maybeNull f_known (.ref fa_lanes) (.ref fa_shortest) f_longest f_leastAt f_greatestAt fc_maybeNull ra H_10.size q_l_isOld q_l_gatheredAny q_f_isReached h_fc_maybeNull (by first | assumption | omega)) (cwV 1 hts h_X1_copyThrows_X1_nullBit_148 rfl rfl rfl (by decide +kernel) ⟨Nat.le_of_ble_eq_true rfl, Nat.le_of_ble_eq_true rfl⟩) ⟨cPre_blind, va_recv hK hPc (ci := 1) (q0 := 0) rfl rfl, cPre_of hK hN hPc hDc⟩ rfl rfl hl.1 rfl (lv_room (Nat.le_of_ble_eq_true rfl)) dX1_copyThrows_195 ⟨Nat.le_of_ble_eq_true rfl, Nat.le_of_ble_eq_true rfl⟩) hS (fun q _ h => hFc q h) hFc (fun r_12 u_12 t_12 H_12 locs_12 ht hvm hw_12 hB hz1 hk1 hS1 => ?_)
      obtain ⟨hP1, hK1, hD1⟩ := hB
      rw [ht] at hP1
      obtain ⟨hP2, hD2⟩ := va_join (wr := [(fa_least, .inl (cI, 6, .inl fc_least)), (fa_greatest, .inl (cI, 6, .inl fc_greatest)), (fa_sites, .inl (cJ, 6, .inr (.inl fc_sites))), (fa_shortest, .inl (cI, 40, .inl fc_shortest)), (fa_lanes, .inl (cI, 40, .inl fc_lanes))]) (w1 := [(lh, .inr (1, [.ref fh, l_ahead, .int l_isOld, l_isReached, l_mayThrow, .int l_gatheredAny, .int l_gatheredLeast, .int l_gatheredGreatest])), (fh, .inr (0, [.int f_isReached, .ref fa_least, .ref fa_greatest, .ref fa_sites, .ref fa_maybeNull, f_known, .ref fa_lanes, .ref fa_shortest, f_longest, f_leastAt, f_greatestAt])), (fa_maybeNull, .inl (cZ, 6, .inl fc_maybeNull))]) hP hD [0, 6, 4] [1, 2, 3, 5, 7] rfl rfl (by decide) (by decide) hk1 hFc hP1 hD1
      clear hPc hDc hFc hP1 hD1 hK1 hk1 hz1 hvm ht
      replace hP : va_P (dC, dI) vwCl [(fa_least, .inl (cI, 6, .inl fc_least)), (fa_greatest, .inl (cI, 6, .inl fc_greatest)), (fa_sites, .inl (cJ, 6, .inr (.inl fc_sites))), (fa_shortest, .inl (cI, 40, .inl fc_shortest)), (fa_lanes, .inl (cI, 40, .inl fc_lanes)), (lh, .inr (1, [.ref fh, l_ahead, .int l_isOld, l_isReached, l_mayThrow, .int l_gatheredAny, .int l_gatheredLeast, .int l_gatheredGreatest])), (fh, .inr (0, [.int f_isReached, .ref fa_least, .ref fa_greatest, .ref fa_sites, .ref fa_maybeNull, f_known, .ref fa_lanes, .ref fa_shortest, f_longest, f_leastAt, f_greatestAt])), (fa_maybeNull, .inl (cZ, 6, .inl fc_maybeNull))] H_12 := hP2
      replace hD : va_D A [(fa_least, .inl (cI, 6, .inl fc_least)), (fa_greatest, .inl (cI, 6, .inl fc_greatest)), (fa_sites, .inl (cJ, 6, .inr (.inl fc_sites))), (fa_shortest, .inl (cI, 40, .inl fc_shortest)), (fa_lanes, .inl (cI, 40, .inl fc_lanes)), (lh, .inr (1, [.ref fh, l_ahead, .int l_isOld, l_isReached, l_mayThrow, .int l_gatheredAny, .int l_gatheredLeast, .int l_gatheredGreatest])), (fh, .inr (0, [.int f_isReached, .ref fa_least, .ref fa_greatest, .ref fa_sites, .ref fa_maybeNull, f_known, .ref fa_lanes, .ref fa_shortest, f_longest, f_leastAt, f_greatestAt])), (fa_maybeNull, .inl (cZ, 6, .inl fc_maybeNull))] := hD2
      replace hS := hS1
      clear hP2 hD2 hS1
      refine lv_aload_n hx hb dX1_copyThrows_198 rfl (lv_at hl 4 rfl) ?_
      refine lv_iload_n hx hb dX1_copyThrows_199 rfl (lv_at hl 7 rfl) ?_
      have hPc := hP.sub (ws' := [(lh, .inr (1, [.ref fh, l_ahead, .int l_isOld, l_isReached, l_mayThrow, .int l_gatheredAny, .int l_gatheredLeast, .int l_gatheredGreatest])), (fh, .inr (0, [.int f_isReached, .ref fa_least, .ref fa_greatest, .ref fa_sites, .ref fa_maybeNull, f_known, .ref fa_lanes, .ref fa_shortest, f_longest, f_leastAt, f_greatestAt])), (fa_maybeNull, .inl (cZ, 6, .inl fc_maybeNull))]) [5, 6, 7] rfl
      have hDc := hD.sub (ws' := [(lh, .inr (1, [.ref fh, l_ahead, .int l_isOld, l_isReached, l_mayThrow, .int l_gatheredAny, .int l_gatheredLeast, .int l_gatheredGreatest])), (fh, .inr (0, [.int f_isReached, .ref fa_least, .ref fa_greatest, .ref fa_sites, .ref fa_maybeNull, f_known, .ref fa_lanes, .ref fa_shortest, f_longest, f_leastAt, f_greatestAt])), (fa_maybeNull, .inl (cZ, 6, .inl fc_maybeNull))]) [5, 6, 7] (by decide) rfl
      have hFc := va_free (wc := [(lh, .inr (1, [.ref fh, l_ahead, .int l_isOld, l_isReached, l_mayThrow, .int l_gatheredAny, .int l_gatheredLeast, .int l_gatheredGreatest])), (fh, .inr (0, [.int f_isReached, .ref fa_least, .ref fa_greatest, .ref fa_sites, .ref fa_maybeNull, f_known, .ref fa_lanes, .ref fa_shortest, f_longest, f_leastAt, f_greatestAt])), (fa_maybeNull, .inl (cZ, 6, .inl fc_maybeNull))]) hD hS hA [5, 6, 7] rfl
      refine va_calli (va_runV (As := [.int sa]) (rest := [.int r_12]) ⟨hx, hb, hml, hown, hts⟩ (s_X1_nullBit l dC dI cI cJ cZ lh fh l_ahead l_isOld l_isReached l_mayThrow l_gatheredAny l_gatheredLeast l_gatheredGreatest f_isReached (.ref fa_least) (.ref fa_greatest) (.ref fa_sites) fa_maybeNull f_known (.ref fa_lanes) (.ref fa_shortest) f_longest f_leastAt f_greatestAt fc_maybeNull sa H_12.size q_l_isOld q_l_gatheredAny q_f_isReached h_fc_maybeNull (by first | assumption | omega)) (cwV 1 hts h_X1_copyThrows_X1_nullBit_148 rfl rfl rfl (by decide +kernel) ⟨Nat.le_of_ble_eq_true rfl, Nat.le_of_ble_eq_true rfl⟩) ⟨cPre_blind, va_recv hK hPc (ci := 1) (q0 := 0) rfl rfl, cPre_of hK hN hPc hDc⟩ rfl rfl hl.1 rfl (lv_room (Nat.le_of_ble_eq_true rfl)) dX1_copyThrows_200 ⟨Nat.le_of_ble_eq_true rfl, Nat.le_of_ble_eq_true rfl⟩) hS (fun q _ h => hFc q h) hFc (fun r_13 u_13 t_13 H_13 locs_13 ht hvm hw_13 hB hz1 hk1 hS1 => ?_)
      obtain ⟨hP1, hK1, hD1⟩ := hB
      rw [ht] at hP1
      obtain ⟨hP2, hD2⟩ := va_join (wr := [(fa_least, .inl (cI, 6, .inl fc_least)), (fa_greatest, .inl (cI, 6, .inl fc_greatest)), (fa_sites, .inl (cJ, 6, .inr (.inl fc_sites))), (fa_shortest, .inl (cI, 40, .inl fc_shortest)), (fa_lanes, .inl (cI, 40, .inl fc_lanes))]) (w1 := [(lh, .inr (1, [.ref fh, l_ahead, .int l_isOld, l_isReached, l_mayThrow, .int l_gatheredAny, .int l_gatheredLeast, .int l_gatheredGreatest])), (fh, .inr (0, [.int f_isReached, .ref fa_least, .ref fa_greatest, .ref fa_sites, .ref fa_maybeNull, f_known, .ref fa_lanes, .ref fa_shortest, f_longest, f_leastAt, f_greatestAt])), (fa_maybeNull, .inl (cZ, 6, .inl fc_maybeNull))]) hP hD [5, 6, 7] [0, 1, 2, 3, 4] rfl rfl (by decide) (by decide) hk1 hFc hP1 hD1
      clear hPc hDc hFc hP1 hD1 hK1 hk1 hz1 hvm ht
      replace hP : va_P (dC, dI) vwCl [(fa_least, .inl (cI, 6, .inl fc_least)), (fa_greatest, .inl (cI, 6, .inl fc_greatest)), (fa_sites, .inl (cJ, 6, .inr (.inl fc_sites))), (fa_shortest, .inl (cI, 40, .inl fc_shortest)), (fa_lanes, .inl (cI, 40, .inl fc_lanes)), (lh, .inr (1, [.ref fh, l_ahead, .int l_isOld, l_isReached, l_mayThrow, .int l_gatheredAny, .int l_gatheredLeast, .int l_gatheredGreatest])), (fh, .inr (0, [.int f_isReached, .ref fa_least, .ref fa_greatest, .ref fa_sites, .ref fa_maybeNull, f_known, .ref fa_lanes, .ref fa_shortest, f_longest, f_leastAt, f_greatestAt])), (fa_maybeNull, .inl (cZ, 6, .inl fc_maybeNull))] H_13 := hP2
      replace hD : va_D A [(fa_least, .inl (cI, 6, .inl fc_least)), (fa_greatest, .inl (cI, 6, .inl fc_greatest)), (fa_sites, .inl (cJ, 6, .inr (.inl fc_sites))), (fa_shortest, .inl (cI, 40, .inl fc_shortest)), (fa_lanes, .inl (cI, 40, .inl fc_lanes)), (lh, .inr (1, [.ref fh, l_ahead, .int l_isOld, l_isReached, l_mayThrow, .int l_gatheredAny, .int l_gatheredLeast, .int l_gatheredGreatest])), (fh, .inr (0, [.int f_isReached, .ref fa_least, .ref fa_greatest, .ref fa_sites, .ref fa_maybeNull, f_known, .ref fa_lanes, .ref fa_shortest, f_longest, f_leastAt, f_greatestAt])), (fa_maybeNull, .inl (cZ, 6, .inl fc_maybeNull))] := hD2
      replace hS := hS1
      clear hP2 hD2 hS1
      refine lv_ior hx hb dX1_copyThrows_203 ?_
      refine lv_topi (fun v_14 e_v_14 => ?_)
      refine lv_iload hx hb dX1_copyThrows_204 (lv_at hl 1 rfl) ?_
      refine lv_iconst (v := 4) hx hb dX1_copyThrows_206 (by decide) ?_
      refine vp_callSi (va_runS (As := [.int v_7, .int 4]) (rest := [.int v_14]) ⟨hx, hb, hml, hown, hts⟩ (s_X1_bitIf l v_7 4) (va_cwS 2 hts h_X1_copyThrows_X1_bitIf_137 rfl rfl rfl (by decide +kernel) ⟨Nat.le_of_ble_eq_true rfl, Nat.le_of_ble_eq_true rfl⟩) ⟨fun _ _ _ _ q => q, fun _ _ _ => ⟨rfl, trivial⟩⟩ rfl rfl hl.1 rfl (lv_room (Nat.le_of_ble_eq_true rfl)) dX1_copyThrows_207 ⟨Nat.le_of_ble_eq_true rfl, Nat.le_of_ble_eq_true rfl⟩).run (fun r_15 hw_15 => ?_)
      refine lv_ior hx hb dX1_copyThrows_210 ?_
      refine lv_topi (fun v_16 e_v_16 => ?_)
      refine lv_iload hx hb dX1_copyThrows_211 (lv_at hl 0 rfl) ?_
      refine lv_iconst (v := 5) hx hb dX1_copyThrows_213 (by decide) ?_
      refine vp_callSi (va_runS (As := [.int v_11, .int 5]) (rest := [.int v_16]) ⟨hx, hb, hml, hown, hts⟩ (s_X1_bitIf l v_11 5) (va_cwS 2 hts h_X1_copyThrows_X1_bitIf_137 rfl rfl rfl (by decide +kernel) ⟨Nat.le_of_ble_eq_true rfl, Nat.le_of_ble_eq_true rfl⟩) ⟨fun _ _ _ _ q => q, fun _ _ _ => ⟨rfl, trivial⟩⟩ rfl rfl hl.1 rfl (lv_room (Nat.le_of_ble_eq_true rfl)) dX1_copyThrows_214 ⟨Nat.le_of_ble_eq_true rfl, Nat.le_of_ble_eq_true rfl⟩).run (fun r_17 hw_17 => ?_)
      refine lv_ior hx hb dX1_copyThrows_217 ?_
      refine lv_topi (fun v_18 e_v_18 => ?_)
      have hP9 := hP.sub (ws' := [(lh, .inr (1, [.ref fh, l_ahead, .int l_isOld, l_isReached, l_mayThrow, .int l_gatheredAny, .int l_gatheredLeast, .int l_gatheredGreatest])), (fh, .inr (0, [.int f_isReached, .ref fa_least, .ref fa_greatest, .ref fa_sites, .ref fa_maybeNull, f_known, .ref fa_lanes, .ref fa_shortest, f_longest, f_leastAt, f_greatestAt])), (fa_least, .inl (cI, 6, .inl fc_least)), (fa_greatest, .inl (cI, 6, .inl fc_greatest)), (fa_sites, .inl (cJ, 6, .inr (.inl fc_sites))), (fa_maybeNull, .inl (cZ, 6, .inl fc_maybeNull)), (fa_lanes, .inl (cI, 40, .inl fc_lanes)), (fa_shortest, .inl (cI, 40, .inl fc_shortest))]) [5, 6, 0, 1, 2, 7, 4, 3] rfl
      have hD9 := hD.sub (ws' := [(lh, .inr (1, [.ref fh, l_ahead, .int l_isOld, l_isReached, l_mayThrow, .int l_gatheredAny, .int l_gatheredLeast, .int l_gatheredGreatest])), (fh, .inr (0, [.int f_isReached, .ref fa_least, .ref fa_greatest, .ref fa_sites, .ref fa_maybeNull, f_known, .ref fa_lanes, .ref fa_shortest, f_longest, f_leastAt, f_greatestAt])), (fa_least, .inl (cI, 6, .inl fc_least)), (fa_greatest, .inl (cI, 6, .inl fc_greatest)), (fa_sites, .inl (cJ, 6, .inr (.inl fc_sites))), (fa_maybeNull, .inl (cZ, 6, .inl fc_maybeNull)), (fa_lanes, .inl (cI, 40, .inl fc_lanes)), (fa_shortest, .inl (cI, 40, .inl fc_shortest))]) [5, 6, 0, 1, 2, 7, 4, 3] (by decide) rfl
      exact W.iret (v := v_18) hx hb hr (fun t ht hW => ⟨⟨v_18, (), rfl, trivial, by rw [ht]; exact hP9, va_K.moved hW.alike hK, hD9⟩, hS.F ht⟩) hS.2.2 dX1_copyThrows_218
    · -- ahead of 191
      refine lv_if_lt (tgt := 186) hx hb dX1_copyThrows_74 (by decide) (fun c_19 => ?_) (fun c_19 => ?_)
      · -- yes
        have k_19 : v_8.toInt < (0 : Int32).toInt := ci_lt c_19
        refine lv_iconst (v := 1) hx hb dX1_copyThrows_186 (by decide) ?_
        refine lv_goto (tgt := 191) hx hb dX1_copyThrows_187 (by decide) ?_
        exact jn_10 (1 : Int32) (show (kZ (1 : Int32)) from (by decide)) _ _ _ (hP.sub [0, 1, 2, 3, 4, 5, 6, 7] rfl) (hD.sub [0, 1, 2, 3, 4, 5, 6, 7] (by decide) rfl) hS (lv_sub hl [0, 1, 2, 3, 4, 5, 6, 7, 8] rfl)
      · -- no
        have k_19 : (0 : Int32).toInt ≤ v_8.toInt := ci_nlt c_19
        refine lv_aload_n hx hb dX1_copyThrows_77 rfl (lv_at hl 3 rfl) ?_
        refine va_get (D := (dC, dI)) (ci := 1) (v := .ref fh) (C := RX1) (T := TX1) (N := 8) hx hb hts inv_X1_copyThrows_X1 hown hK hP 0 rfl rfl 0 (by decide) (hts (.fieldLink RX1 12 "ArraySegments$Flow" "now" "LArraySegments$Facts;") (List.mem_of_getElem? (i := 1) rfl)) (fun _ h9 => h9) rfl dX1_copyThrows_78 ?_
        refine va_get (D := (dC, dI)) (ci := 0) (v := .ref fa_least) (C := RX0) (T := TX0) (N := 11) hx hb hts inv_X1_copyThrows_X0 hown hK hP 6 rfl rfl 1 (by decide) (hts (.fieldLink RX1 91 "ArraySegments$Facts" "least" "[I") (List.mem_of_getElem? (i := 10) rfl)) (fun _ h9 => h9) rfl dX1_copyThrows_81 ?_
        refine lv_iload hx hb dX1_copyThrows_84 (lv_at hl 7 rfl) ?_
        refine sf_iald kT hx hb hK hP 1 0 rfl rfl (fun _ => trivial) (vp_in_iff.mpr ⟨by omega, by omega⟩) dX1_copyThrows_86 (fun v_20 q_v_20 e_v_20 => ?_)
        refine lv_if_lt (tgt := 186) hx hb dX1_copyThrows_87 (by decide) (fun c_21 => ?_) (fun c_21 => ?_)
        · -- yes
          have k_21 : v_20.toInt < (0 : Int32).toInt := ci_lt c_21
          refine lv_iconst (v := 1) hx hb dX1_copyThrows_186 (by decide) ?_
          refine lv_goto (tgt := 191) hx hb dX1_copyThrows_187 (by decide) ?_
          exact jn_10 (1 : Int32) (show (kZ (1 : Int32)) from (by decide)) _ _ _ (hP.sub [0, 1, 2, 3, 4, 5, 6, 7] rfl) (hD.sub [0, 1, 2, 3, 4, 5, 6, 7] (by decide) rfl) hS (lv_sub hl [0, 1, 2, 3, 4, 5, 6, 7, 8] rfl)
        · -- no
          have k_21 : (0 : Int32).toInt ≤ v_20.toInt := ci_nlt c_21
          refine lv_aload_n hx hb dX1_copyThrows_90 rfl (lv_at hl 3 rfl) ?_
          refine va_get (D := (dC, dI)) (ci := 1) (v := .ref fh) (C := RX1) (T := TX1) (N := 8) hx hb hts inv_X1_copyThrows_X1 hown hK hP 0 rfl rfl 0 (by decide) (hts (.fieldLink RX1 12 "ArraySegments$Flow" "now" "LArraySegments$Facts;") (List.mem_of_getElem? (i := 1) rfl)) (fun _ h9 => h9) rfl dX1_copyThrows_91 ?_
          refine va_get (D := (dC, dI)) (ci := 0) (v := .ref fa_least) (C := RX0) (T := TX0) (N := 11) hx hb hts inv_X1_copyThrows_X0 hown hK hP 6 rfl rfl 1 (by decide) (hts (.fieldLink RX1 91 "ArraySegments$Facts" "least" "[I") (List.mem_of_getElem? (i := 10) rfl)) (fun _ h9 => h9) rfl dX1_copyThrows_94 ?_
          refine lv_iload hx hb dX1_copyThrows_97 (lv_at hl 8 rfl) ?_
          refine sf_iald kT hx hb hK hP 1 0 rfl rfl (fun _ => trivial) (vp_in_iff.mpr ⟨by omega, by omega⟩) dX1_copyThrows_99 (fun v_22 q_v_22 e_v_22 => ?_)
          refine lv_if_lt (tgt := 186) hx hb dX1_copyThrows_100 (by decide) (fun c_23 => ?_) (fun c_23 => ?_)
          · -- yes
            have k_23 : v_22.toInt < (0 : Int32).toInt := ci_lt c_23
            refine lv_iconst (v := 1) hx hb dX1_copyThrows_186 (by decide) ?_
            refine lv_goto (tgt := 191) hx hb dX1_copyThrows_187 (by decide) ?_
            exact jn_10 (1 : Int32) (show (kZ (1 : Int32)) from (by decide)) _ _ _ (hP.sub [0, 1, 2, 3, 4, 5, 6, 7] rfl) (hD.sub [0, 1, 2, 3, 4, 5, 6, 7] (by decide) rfl) hS (lv_sub hl [0, 1, 2, 3, 4, 5, 6, 7, 8] rfl)
          · -- no
            have k_23 : (0 : Int32).toInt ≤ v_22.toInt := ci_nlt c_23
            refine lv_aload_n hx hb dX1_copyThrows_103 rfl (lv_at hl 3 rfl) ?_
            refine va_get (D := (dC, dI)) (ci := 1) (v := .ref fh) (C := RX1) (T := TX1) (N := 8) hx hb hts inv_X1_copyThrows_X1 hown hK hP 0 rfl rfl 0 (by decide) (hts (.fieldLink RX1 12 "ArraySegments$Flow" "now" "LArraySegments$Facts;") (List.mem_of_getElem? (i := 1) rfl)) (fun _ h9 => h9) rfl dX1_copyThrows_104 ?_
            refine lv_aload_n hx hb dX1_copyThrows_107 rfl (lv_at hl 3 rfl) ?_
            refine va_get (D := (dC, dI)) (ci := 1) (v := .ref fh) (C := RX1) (T := TX1) (N := 8) hx hb hts inv_X1_copyThrows_X1 hown hK hP 0 rfl rfl 0 (by decide) (hts (.fieldLink RX1 12 "ArraySegments$Flow" "now" "LArraySegments$Facts;") (List.mem_of_getElem? (i := 1) rfl)) (fun _ h9 => h9) rfl dX1_copyThrows_108 ?_
            refine va_get (D := (dC, dI)) (ci := 0) (v := .ref fa_sites) (C := RX0) (T := TX0) (N := 11) hx hb hts inv_X1_copyThrows_X0 hown hK hP 6 rfl rfl 3 (by decide) (hts (.fieldLink RX1 109 "ArraySegments$Facts" "sites" "[J") (List.mem_of_getElem? (i := 2) rfl)) (fun _ h9 => h9) rfl dX1_copyThrows_111 ?_
            refine lv_iload_n hx hb dX1_copyThrows_114 rfl (lv_at hl 4 rfl) ?_
            refine sf_lald lT hx hb hK hP 3 1 rfl rfl (fun _ => trivial) (vp_in_iff.mpr ⟨by omega, by omega⟩) dX1_copyThrows_115 (fun v_24 q_v_24 e_v_24 => ?_)
            refine lv_aload_n hx hb dX1_copyThrows_116 rfl (lv_at hl 3 rfl) ?_
            refine va_get (D := (dC, dI)) (ci := 1) (v := .ref fh) (C := RX1) (T := TX1) (N := 8) hx hb hts inv_X1_copyThrows_X1 hown hK hP 0 rfl rfl 0 (by decide) (hts (.fieldLink RX1 12 "ArraySegments$Flow" "now" "LArraySegments$Facts;") (List.mem_of_getElem? (i := 1) rfl)) (fun _ h9 => h9) rfl dX1_copyThrows_117 ?_
            refine va_get (D := (dC, dI)) (ci := 0) (v := .ref fa_greatest) (C := RX0) (T := TX0) (N := 11) hx hb hts inv_X1_copyThrows_X0 hown hK hP 6 rfl rfl 2 (by decide) (hts (.fieldLink RX1 94 "ArraySegments$Facts" "greatest" "[I") (List.mem_of_getElem? (i := 11) rfl)) (fun _ h9 => h9) rfl dX1_copyThrows_120 ?_
            refine lv_iload_n hx hb dX1_copyThrows_123 rfl (lv_at hl 5 rfl) ?_
            refine sf_iald kT hx hb hK hP 2 0 rfl rfl (fun _ => trivial) (vp_in_iff.mpr ⟨by omega, by omega⟩) dX1_copyThrows_124 (fun v_25 q_v_25 e_v_25 => ?_)
            refine sf_i2l hx hb dX1_copyThrows_125 (fun v_26 q_v_26 => ?_)
            refine lv_aload_n hx hb dX1_copyThrows_126 rfl (lv_at hl 3 rfl) ?_
            refine va_get (D := (dC, dI)) (ci := 1) (v := .ref fh) (C := RX1) (T := TX1) (N := 8) hx hb hts inv_X1_copyThrows_X1 hown hK hP 0 rfl rfl 0 (by decide) (hts (.fieldLink RX1 12 "ArraySegments$Flow" "now" "LArraySegments$Facts;") (List.mem_of_getElem? (i := 1) rfl)) (fun _ h9 => h9) rfl dX1_copyThrows_127 ?_
            refine va_get (D := (dC, dI)) (ci := 0) (v := .ref fa_greatest) (C := RX0) (T := TX0) (N := 11) hx hb hts inv_X1_copyThrows_X0 hown hK hP 6 rfl rfl 2 (by decide) (hts (.fieldLink RX1 94 "ArraySegments$Facts" "greatest" "[I") (List.mem_of_getElem? (i := 11) rfl)) (fun _ h9 => h9) rfl dX1_copyThrows_130 ?_
            refine lv_iload hx hb dX1_copyThrows_133 (lv_at hl 8 rfl) ?_
            refine sf_iald kT hx hb hK hP 2 0 rfl rfl (fun _ => trivial) (vp_in_iff.mpr ⟨by omega, by omega⟩) dX1_copyThrows_135 (fun v_27 q_v_27 e_v_27 => ?_)
            refine sf_i2l hx hb dX1_copyThrows_136 (fun v_28 q_v_28 => ?_)
            refine sf_ladd hx hb dX1_copyThrows_137 ⟨by omega, by omega⟩ (fun v_29 q_v_29 => ?_)
            have hPc := hP.sub (ws' := [(fh, .inr (0, [.int f_isReached, .ref fa_least, .ref fa_greatest, .ref fa_sites, .ref fa_maybeNull, f_known, .ref fa_lanes, .ref fa_shortest, f_longest, f_leastAt, f_greatestAt])), (fa_shortest, .inl (cI, 40, .inl fc_shortest))]) [6, 5] rfl
            have hDc := hD.sub (ws' := [(fh, .inr (0, [.int f_isReached, .ref fa_least, .ref fa_greatest, .ref fa_sites, .ref fa_maybeNull, f_known, .ref fa_lanes, .ref fa_shortest, f_longest, f_leastAt, f_greatestAt])), (fa_shortest, .inl (cI, 40, .inl fc_shortest))]) [6, 5] (by decide) rfl
            have hFc := va_free (wc := [(fh, .inr (0, [.int f_isReached, .ref fa_least, .ref fa_greatest, .ref fa_sites, .ref fa_maybeNull, f_known, .ref fa_lanes, .ref fa_shortest, f_longest, f_leastAt, f_greatestAt])), (fa_shortest, .inl (cI, 40, .inl fc_shortest))]) hD hS hA [6, 5] rfl
            refine va_calli (va_runV (As := [.long v_24, .long v_29]) (rest := []) ⟨hx, hb, hml, hown, hts⟩ (s_X0_someMayHaveFewer l dC dI cI cJ cZ fh f_isReached (.ref fa_least) (.ref fa_greatest) (.ref fa_sites) (.ref fa_maybeNull) f_known (.ref fa_lanes) fa_shortest f_longest f_leastAt f_greatestAt fc_shortest v_24 v_29 H_6.size q_f_isReached) (cwV 2 hts h_X1_copyThrows_X0_someMayHaveFewer_232 rfl rfl rfl (by decide +kernel) ⟨Nat.le_of_ble_eq_true rfl, Nat.le_of_ble_eq_true rfl⟩) ⟨cPre_blind, va_recv hK hPc (ci := 0) (q0 := 0) rfl rfl, cPre_of hK hN hPc hDc⟩ rfl rfl hl.1 rfl (lv_room (Nat.le_of_ble_eq_true rfl)) dX1_copyThrows_138 ⟨Nat.le_of_ble_eq_true rfl, Nat.le_of_ble_eq_true rfl⟩) hS (fun q _ h => hFc q h) hFc (fun r_30 u_30 t_30 H_30 locs_30 ht hvm hw_30 hB hz1 hk1 hS1 => ?_)
            obtain ⟨hP1, hK1, hD1⟩ := hB
            rw [ht] at hP1
            obtain ⟨hP2, hD2⟩ := va_join (wr := [(lh, .inr (1, [.ref fh, l_ahead, .int l_isOld, l_isReached, l_mayThrow, .int l_gatheredAny, .int l_gatheredLeast, .int l_gatheredGreatest])), (fa_least, .inl (cI, 6, .inl fc_least)), (fa_greatest, .inl (cI, 6, .inl fc_greatest)), (fa_sites, .inl (cJ, 6, .inr (.inl fc_sites))), (fa_maybeNull, .inl (cZ, 6, .inl fc_maybeNull)), (fa_lanes, .inl (cI, 40, .inl fc_lanes))]) (w1 := [(fh, .inr (0, [.int f_isReached, .ref fa_least, .ref fa_greatest, .ref fa_sites, .ref fa_maybeNull, f_known, .ref fa_lanes, .ref fa_shortest, f_longest, f_leastAt, f_greatestAt])), (fa_shortest, .inl (cI, 40, .inl fc_shortest))]) hP hD [6, 5] [0, 1, 2, 3, 4, 7] rfl rfl (by decide) (by decide) hk1 hFc hP1 hD1
            clear hPc hDc hFc hP1 hD1 hK1 hk1 hz1 hvm ht
            replace hP : va_P (dC, dI) vwCl [(lh, .inr (1, [.ref fh, l_ahead, .int l_isOld, l_isReached, l_mayThrow, .int l_gatheredAny, .int l_gatheredLeast, .int l_gatheredGreatest])), (fa_least, .inl (cI, 6, .inl fc_least)), (fa_greatest, .inl (cI, 6, .inl fc_greatest)), (fa_sites, .inl (cJ, 6, .inr (.inl fc_sites))), (fa_maybeNull, .inl (cZ, 6, .inl fc_maybeNull)), (fa_lanes, .inl (cI, 40, .inl fc_lanes)), (fh, .inr (0, [.int f_isReached, .ref fa_least, .ref fa_greatest, .ref fa_sites, .ref fa_maybeNull, f_known, .ref fa_lanes, .ref fa_shortest, f_longest, f_leastAt, f_greatestAt])), (fa_shortest, .inl (cI, 40, .inl fc_shortest))] H_30 := hP2
            replace hD : va_D A [(lh, .inr (1, [.ref fh, l_ahead, .int l_isOld, l_isReached, l_mayThrow, .int l_gatheredAny, .int l_gatheredLeast, .int l_gatheredGreatest])), (fa_least, .inl (cI, 6, .inl fc_least)), (fa_greatest, .inl (cI, 6, .inl fc_greatest)), (fa_sites, .inl (cJ, 6, .inr (.inl fc_sites))), (fa_maybeNull, .inl (cZ, 6, .inl fc_maybeNull)), (fa_lanes, .inl (cI, 40, .inl fc_lanes)), (fh, .inr (0, [.int f_isReached, .ref fa_least, .ref fa_greatest, .ref fa_sites, .ref fa_maybeNull, f_known, .ref fa_lanes, .ref fa_shortest, f_longest, f_leastAt, f_greatestAt])), (fa_shortest, .inl (cI, 40, .inl fc_shortest))] := hD2
            replace hS := hS1
            clear hP2 hD2 hS1
            replace hw_30 : (kZ r_30) := hw_30
            have q_r_30 := hw_30
            refine lv_if_ne (tgt := 186) hx hb dX1_copyThrows_141 (by decide) (fun c_31 => ?_) (fun c_31 => ?_)
            · -- yes
              have k_31 : ¬ r_30.toInt = (0 : Int32).toInt := ci_ne c_31
              refine lv_iconst (v := 1) hx hb dX1_copyThrows_186 (by decide) ?_
              refine lv_goto (tgt := 191) hx hb dX1_copyThrows_187 (by decide) ?_
              exact jn_10 (1 : Int32) (show (kZ (1 : Int32)) from (by decide)) _ _ _ (hP.sub [0, 1, 2, 3, 4, 7, 6, 5] rfl) (hD.sub [0, 1, 2, 3, 4, 7, 6, 5] (by decide) rfl) hS (lv_sub hl [0, 1, 2, 3, 4, 5, 6, 7, 8] rfl)
            · -- no
              have k_31 : r_30.toInt = (0 : Int32).toInt := ci_eq c_31
              refine lv_aload_n hx hb dX1_copyThrows_144 rfl (lv_at hl 3 rfl) ?_
              refine va_get (D := (dC, dI)) (ci := 1) (v := .ref fh) (C := RX1) (T := TX1) (N := 8) hx hb hts inv_X1_copyThrows_X1 hown hK hP 0 rfl rfl 0 (by decide) (hts (.fieldLink RX1 12 "ArraySegments$Flow" "now" "LArraySegments$Facts;") (List.mem_of_getElem? (i := 1) rfl)) (fun _ h9 => h9) rfl dX1_copyThrows_145 ?_
              refine lv_aload_n hx hb dX1_copyThrows_148 rfl (lv_at hl 3 rfl) ?_
              refine va_get (D := (dC, dI)) (ci := 1) (v := .ref fh) (C := RX1) (T := TX1) (N := 8) hx hb hts inv_X1_copyThrows_X1 hown hK hP 0 rfl rfl 0 (by decide) (hts (.fieldLink RX1 12 "ArraySegments$Flow" "now" "LArraySegments$Facts;") (List.mem_of_getElem? (i := 1) rfl)) (fun _ h9 => h9) rfl dX1_copyThrows_149 ?_
              refine va_get (D := (dC, dI)) (ci := 0) (v := .ref fa_sites) (C := RX0) (T := TX0) (N := 11) hx hb hts inv_X1_copyThrows_X0 hown hK hP 6 rfl rfl 3 (by decide) (hts (.fieldLink RX1 109 "ArraySegments$Facts" "sites" "[J") (List.mem_of_getElem? (i := 2) rfl)) (fun _ h9 => h9) rfl dX1_copyThrows_152 ?_
              refine lv_iload_n hx hb dX1_copyThrows_155 rfl (lv_at hl 6 rfl) ?_
              refine sf_lald lT hx hb hK hP 3 1 rfl rfl (fun _ => trivial) (vp_in_iff.mpr ⟨by omega, by omega⟩) dX1_copyThrows_156 (fun v_32 q_v_32 e_v_32 => ?_)
              refine lv_aload_n hx hb dX1_copyThrows_157 rfl (lv_at hl 3 rfl) ?_
              refine va_get (D := (dC, dI)) (ci := 1) (v := .ref fh) (C := RX1) (T := TX1) (N := 8) hx hb hts inv_X1_copyThrows_X1 hown hK hP 0 rfl rfl 0 (by decide) (hts (.fieldLink RX1 12 "ArraySegments$Flow" "now" "LArraySegments$Facts;") (List.mem_of_getElem? (i := 1) rfl)) (fun _ h9 => h9) rfl dX1_copyThrows_158 ?_
              refine va_get (D := (dC, dI)) (ci := 0) (v := .ref fa_greatest) (C := RX0) (T := TX0) (N := 11) hx hb hts inv_X1_copyThrows_X0 hown hK hP 6 rfl rfl 2 (by decide) (hts (.fieldLink RX1 94 "ArraySegments$Facts" "greatest" "[I") (List.mem_of_getElem? (i := 11) rfl)) (fun _ h9 => h9) rfl dX1_copyThrows_161 ?_
              refine lv_iload hx hb dX1_copyThrows_164 (lv_at hl 7 rfl) ?_
              refine sf_iald kT hx hb hK hP 2 0 rfl rfl (fun _ => trivial) (vp_in_iff.mpr ⟨by omega, by omega⟩) dX1_copyThrows_166 (fun v_33 q_v_33 e_v_33 => ?_)
              refine sf_i2l hx hb dX1_copyThrows_167 (fun v_34 q_v_34 => ?_)
              refine lv_aload_n hx hb dX1_copyThrows_168 rfl (lv_at hl 3 rfl) ?_
              refine va_get (D := (dC, dI)) (ci := 1) (v := .ref fh) (C := RX1) (T := TX1) (N := 8) hx hb hts inv_X1_copyThrows_X1 hown hK hP 0 rfl rfl 0 (by decide) (hts (.fieldLink RX1 12 "ArraySegments$Flow" "now" "LArraySegments$Facts;") (List.mem_of_getElem? (i := 1) rfl)) (fun _ h9 => h9) rfl dX1_copyThrows_169 ?_
              refine va_get (D := (dC, dI)) (ci := 0) (v := .ref fa_greatest) (C := RX0) (T := TX0) (N := 11) hx hb hts inv_X1_copyThrows_X0 hown hK hP 6 rfl rfl 2 (by decide) (hts (.fieldLink RX1 94 "ArraySegments$Facts" "greatest" "[I") (List.mem_of_getElem? (i := 11) rfl)) (fun _ h9 => h9) rfl dX1_copyThrows_172 ?_
              refine lv_iload hx hb dX1_copyThrows_175 (lv_at hl 8 rfl) ?_
              refine sf_iald kT hx hb hK hP 2 0 rfl rfl (fun _ => trivial) (vp_in_iff.mpr ⟨by omega, by omega⟩) dX1_copyThrows_177 (fun v_35 q_v_35 e_v_35 => ?_)
              refine sf_i2l hx hb dX1_copyThrows_178 (fun v_36 q_v_36 => ?_)
              refine sf_ladd hx hb dX1_copyThrows_179 ⟨by omega, by omega⟩ (fun v_37 q_v_37 => ?_)
              have hPc := hP.sub (ws' := [(fh, .inr (0, [.int f_isReached, .ref fa_least, .ref fa_greatest, .ref fa_sites, .ref fa_maybeNull, f_known, .ref fa_lanes, .ref fa_shortest, f_longest, f_leastAt, f_greatestAt])), (fa_shortest, .inl (cI, 40, .inl fc_shortest))]) [6, 7] rfl
              have hDc := hD.sub (ws' := [(fh, .inr (0, [.int f_isReached, .ref fa_least, .ref fa_greatest, .ref fa_sites, .ref fa_maybeNull, f_known, .ref fa_lanes, .ref fa_shortest, f_longest, f_leastAt, f_greatestAt])), (fa_shortest, .inl (cI, 40, .inl fc_shortest))]) [6, 7] (by decide) rfl
              have hFc := va_free (wc := [(fh, .inr (0, [.int f_isReached, .ref fa_least, .ref fa_greatest, .ref fa_sites, .ref fa_maybeNull, f_known, .ref fa_lanes, .ref fa_shortest, f_longest, f_leastAt, f_greatestAt])), (fa_shortest, .inl (cI, 40, .inl fc_shortest))]) hD hS hA [6, 7] rfl
              refine va_calli (va_runV (As := [.long v_32, .long v_37]) (rest := []) ⟨hx, hb, hml, hown, hts⟩ (s_X0_someMayHaveFewer l dC dI cI cJ cZ fh f_isReached (.ref fa_least) (.ref fa_greatest) (.ref fa_sites) (.ref fa_maybeNull) f_known (.ref fa_lanes) fa_shortest f_longest f_leastAt f_greatestAt fc_shortest v_32 v_37 H_30.size q_f_isReached) (cwV 2 hts h_X1_copyThrows_X0_someMayHaveFewer_232 rfl rfl rfl (by decide +kernel) ⟨Nat.le_of_ble_eq_true rfl, Nat.le_of_ble_eq_true rfl⟩) ⟨cPre_blind, va_recv hK hPc (ci := 0) (q0 := 0) rfl rfl, cPre_of hK hN hPc hDc⟩ rfl rfl hl.1 rfl (lv_room (Nat.le_of_ble_eq_true rfl)) dX1_copyThrows_180 ⟨Nat.le_of_ble_eq_true rfl, Nat.le_of_ble_eq_true rfl⟩) hS (fun q _ h => hFc q h) hFc (fun r_38 u_38 t_38 H_38 locs_38 ht hvm hw_38 hB hz1 hk1 hS1 => ?_)
              obtain ⟨hP1, hK1, hD1⟩ := hB
              rw [ht] at hP1
              obtain ⟨hP2, hD2⟩ := va_join (wr := [(lh, .inr (1, [.ref fh, l_ahead, .int l_isOld, l_isReached, l_mayThrow, .int l_gatheredAny, .int l_gatheredLeast, .int l_gatheredGreatest])), (fa_least, .inl (cI, 6, .inl fc_least)), (fa_greatest, .inl (cI, 6, .inl fc_greatest)), (fa_sites, .inl (cJ, 6, .inr (.inl fc_sites))), (fa_maybeNull, .inl (cZ, 6, .inl fc_maybeNull)), (fa_lanes, .inl (cI, 40, .inl fc_lanes))]) (w1 := [(fh, .inr (0, [.int f_isReached, .ref fa_least, .ref fa_greatest, .ref fa_sites, .ref fa_maybeNull, f_known, .ref fa_lanes, .ref fa_shortest, f_longest, f_leastAt, f_greatestAt])), (fa_shortest, .inl (cI, 40, .inl fc_shortest))]) hP hD [6, 7] [0, 1, 2, 3, 4, 5] rfl rfl (by decide) (by decide) hk1 hFc hP1 hD1
              clear hPc hDc hFc hP1 hD1 hK1 hk1 hz1 hvm ht
              replace hP : va_P (dC, dI) vwCl [(lh, .inr (1, [.ref fh, l_ahead, .int l_isOld, l_isReached, l_mayThrow, .int l_gatheredAny, .int l_gatheredLeast, .int l_gatheredGreatest])), (fa_least, .inl (cI, 6, .inl fc_least)), (fa_greatest, .inl (cI, 6, .inl fc_greatest)), (fa_sites, .inl (cJ, 6, .inr (.inl fc_sites))), (fa_maybeNull, .inl (cZ, 6, .inl fc_maybeNull)), (fa_lanes, .inl (cI, 40, .inl fc_lanes)), (fh, .inr (0, [.int f_isReached, .ref fa_least, .ref fa_greatest, .ref fa_sites, .ref fa_maybeNull, f_known, .ref fa_lanes, .ref fa_shortest, f_longest, f_leastAt, f_greatestAt])), (fa_shortest, .inl (cI, 40, .inl fc_shortest))] H_38 := hP2
              replace hD : va_D A [(lh, .inr (1, [.ref fh, l_ahead, .int l_isOld, l_isReached, l_mayThrow, .int l_gatheredAny, .int l_gatheredLeast, .int l_gatheredGreatest])), (fa_least, .inl (cI, 6, .inl fc_least)), (fa_greatest, .inl (cI, 6, .inl fc_greatest)), (fa_sites, .inl (cJ, 6, .inr (.inl fc_sites))), (fa_maybeNull, .inl (cZ, 6, .inl fc_maybeNull)), (fa_lanes, .inl (cI, 40, .inl fc_lanes)), (fh, .inr (0, [.int f_isReached, .ref fa_least, .ref fa_greatest, .ref fa_sites, .ref fa_maybeNull, f_known, .ref fa_lanes, .ref fa_shortest, f_longest, f_leastAt, f_greatestAt])), (fa_shortest, .inl (cI, 40, .inl fc_shortest))] := hD2
              replace hS := hS1
              clear hP2 hD2 hS1
              replace hw_38 : (kZ r_38) := hw_38
              have q_r_38 := hw_38
              refine lv_if_eq (tgt := 190) hx hb dX1_copyThrows_183 (by decide) (fun c_39 => ?_) (fun c_39 => ?_)
              · -- yes
                have k_39 : r_38.toInt = (0 : Int32).toInt := ci_eq c_39
                refine lv_iconst (v := 0) hx hb dX1_copyThrows_190 (by decide) ?_
                exact jn_10 (0 : Int32) (show (kZ (0 : Int32)) from (by decide)) _ _ _ (hP.sub [0, 1, 2, 3, 4, 7, 6, 5] rfl) (hD.sub [0, 1, 2, 3, 4, 7, 6, 5] (by decide) rfl) hS (lv_sub hl [0, 1, 2, 3, 4, 5, 6, 7, 8] rfl)
              · -- no
                have k_39 : ¬ r_38.toInt = (0 : Int32).toInt := ci_ne c_39
                refine lv_iconst (v := 1) hx hb dX1_copyThrows_186 (by decide) ?_
                refine lv_goto (tgt := 191) hx hb dX1_copyThrows_187 (by decide) ?_
                exact jn_10 (1 : Int32) (show (kZ (1 : Int32)) from (by decide)) _ _ _ (hP.sub [0, 1, 2, 3, 4, 7, 6, 5] rfl) (hD.sub [0, 1, 2, 3, 4, 7, 6, 5] (by decide) rfl) hS (lv_sub hl [0, 1, 2, 3, 4, 5, 6, 7, 8] rfl)
  · -- ahead of 63
    refine lv_if_eq (tgt := 62) hx hb dX1_copyThrows_38 (by decide) (fun c_40 => ?_) (fun c_40 => ?_)
    · -- yes
      have k_40 : r_2.toInt = (0 : Int32).toInt := ci_eq c_40
      refine lv_iconst (v := 0) hx hb dX1_copyThrows_62 (by decide) ?_
      exact jn_6 (0 : Int32) (show (kZ (0 : Int32)) from (by decide)) _ _ _ (hP.sub [0, 1, 2, 3, 4, 5, 6, 7] rfl) (hD.sub [0, 1, 2, 3, 4, 5, 6, 7] (by decide) rfl) hS (lv_sub hl [0, 1, 2, 3, 4, 5, 6, 7] rfl)
    · -- no
      have k_40 : ¬ r_2.toInt = (0 : Int32).toInt := ci_ne c_40
      refine lv_iload hx hb dX1_copyThrows_41 (lv_at hl 0 rfl) ?_
      refine lv_if_eq (tgt := 62) hx hb dX1_copyThrows_43 (by decide) (fun c_41 => ?_) (fun c_41 => ?_)
      · -- yes
        have k_41 : r_4.toInt = (0 : Int32).toInt := ci_eq c_41
        refine lv_iconst (v := 0) hx hb dX1_copyThrows_62 (by decide) ?_
        exact jn_6 (0 : Int32) (show (kZ (0 : Int32)) from (by decide)) _ _ _ (hP.sub [0, 1, 2, 3, 4, 5, 6, 7] rfl) (hD.sub [0, 1, 2, 3, 4, 5, 6, 7] (by decide) rfl) hS (lv_sub hl [0, 1, 2, 3, 4, 5, 6, 7] rfl)
      · -- no
        have k_41 : ¬ r_4.toInt = (0 : Int32).toInt := ci_ne c_41
        refine lv_iload hx hb dX1_copyThrows_46 (lv_at hl 1 rfl) ?_
        refine lv_iload hx hb dX1_copyThrows_48 (lv_at hl 0 rfl) ?_
        refine lv_ior hx hb dX1_copyThrows_50 ?_
        refine lv_topi (fun v_42 e_v_42 => ?_)
        refine vp_callSi (va_runS (As := [.int v_42]) (rest := []) ⟨hx, hb, hml, hown, hts⟩ (s_J6_bitCount_0f7a4 l v_42) (va_cwS 1 hts h_X1_copyThrows_J6_bitCount_0f7a4_239 rfl rfl rfl (by decide +kernel) ⟨Nat.le_of_ble_eq_true rfl, Nat.le_of_ble_eq_true rfl⟩) ⟨fun _ _ _ _ q => q, fun _ _ _ => ⟨rfl, trivial⟩⟩ rfl rfl hl.1 rfl (lv_room (Nat.le_of_ble_eq_true rfl)) dX1_copyThrows_51 ⟨Nat.le_of_ble_eq_true rfl, Nat.le_of_ble_eq_true rfl⟩).run (fun r_43 hw_43 => ?_)
        refine lv_iconst (v := 1) hx hb dX1_copyThrows_54 (by decide) ?_
        refine lv_icmp_le (tgt := 62) hx hb dX1_copyThrows_55 (by decide) (fun c_44 => ?_) (fun c_44 => ?_)
        · -- yes
          have k_44 : r_43.toInt ≤ (1 : Int32).toInt := ci_le c_44
          refine lv_iconst (v := 0) hx hb dX1_copyThrows_62 (by decide) ?_
          exact jn_6 (0 : Int32) (show (kZ (0 : Int32)) from (by decide)) _ _ _ (hP.sub [0, 1, 2, 3, 4, 5, 6, 7] rfl) (hD.sub [0, 1, 2, 3, 4, 5, 6, 7] (by decide) rfl) hS (lv_sub hl [0, 1, 2, 3, 4, 5, 6, 7] rfl)
        · -- no
          have k_44 : (1 : Int32).toInt < r_43.toInt := ci_nle c_44
          refine lv_iconst (v := 1) hx hb dX1_copyThrows_58 (by decide) ?_
          refine lv_goto (tgt := 63) hx hb dX1_copyThrows_59 (by decide) ?_
          exact jn_6 (1 : Int32) (show (kZ (1 : Int32)) from (by decide)) _ _ _ (hP.sub [0, 1, 2, 3, 4, 5, 6, 7] rfl) (hD.sub [0, 1, 2, 3, 4, 5, 6, 7] (by decide) rfl) hS (lv_sub hl [0, 1, 2, 3, 4, 5, 6, 7] rfl)

def v_X1_narrowPlace : List Cond := .code yX1_narrowPlace cX1_narrowPlace 4 none :: ([.fieldLink RX1 12 "ArraySegments$Flow" "now" "LArraySegments$Facts;", .fieldLink RX1 109 "ArraySegments$Facts" "sites" "[J", .methodLink RX1 228 yX0_withLane, .instanceMethod yX0_withLane, .selects RX0 yX0_withLane yX0_withLane, .initialized RX0, .methodLink RX1 151 yX0_narrowReference, .instanceMethod yX0_narrowReference, .selects RX0 yX0_narrowReference yX0_narrowReference, .methodLink RX1 171 yX0_longestOf, .instanceMethod yX0_longestOf, .selects RX0 yX0_longestOf yX0_longestOf, .methodLink RX1 141 yX0_narrow, .instanceMethod yX0_narrow, .selects RX0 yX0_narrow yX0_narrow] ++ (wsX10 ++ (wsX00 ++ (v_X0_withLane ++ (v_X0_narrowReference ++ (v_X0_longestOf ++ (v_X0_narrow)))))))
theorem inv_X1_narrowPlace_X1 : ∀ w ∈ wsX10, w ∈ v_X1_narrowPlace := fun _ h => List.mem_cons_of_mem _ (List.mem_append_right _ (List.mem_append_left _ h))
theorem inv_X1_narrowPlace_X0 : ∀ w ∈ wsX00, w ∈ v_X1_narrowPlace := fun _ h => List.mem_cons_of_mem _ (List.mem_append_right _ (List.mem_append_right _ (List.mem_append_left _ h)))
theorem im_X1_narrowPlace_X0_withLane : ∀ w ∈ v_X0_withLane, w ∈ v_X1_narrowPlace := fun _ h => List.mem_cons_of_mem _ (List.mem_append_right _ (List.mem_append_right _ (List.mem_append_right _ (List.mem_append_left _ h))))
theorem im_X1_narrowPlace_X0_narrowReference : ∀ w ∈ v_X0_narrowReference, w ∈ v_X1_narrowPlace := fun _ h => List.mem_cons_of_mem _ (List.mem_append_right _ (List.mem_append_right _ (List.mem_append_right _ (List.mem_append_right _ (List.mem_append_left _ h)))))
theorem im_X1_narrowPlace_X0_longestOf : ∀ w ∈ v_X0_longestOf, w ∈ v_X1_narrowPlace := fun _ h => List.mem_cons_of_mem _ (List.mem_append_right _ (List.mem_append_right _ (List.mem_append_right _ (List.mem_append_right _ (List.mem_append_right _ (List.mem_append_left _ h))))))
theorem im_X1_narrowPlace_X0_narrow : ∀ w ∈ v_X0_narrow, w ∈ v_X1_narrowPlace := fun _ h => List.mem_cons_of_mem _ (List.mem_append_right _ (List.mem_append_right _ (List.mem_append_right _ (List.mem_append_right _ (List.mem_append_right _ (List.mem_append_right _ (h)))))))
set_option maxRecDepth 20000 in
theorem gd_X1_narrowPlace : gdL v_X1_narrowPlace := gdC (gdW (by decide +kernel)) (gdA (gdW (by decide +kernel)) (gdA gd_wsX10 (gdA gd_wsX00 (gdA gd_X0_withLane (gdA gd_X0_narrowReference (gdA gd_X0_longestOf gd_X0_narrow))))))
set_option maxRecDepth 20000 in
theorem h_X1_narrowPlace_X0_withLane_228 : GoodIn v_X1_narrowPlace (wsV RX1 228 RX0 yX0_withLane v_X0_withLane) := gdI [3, 4, 5, 6] rfl (by decide +kernel) (im_X1_narrowPlace_X0_withLane) gd_X0_withLane
set_option maxRecDepth 20000 in
theorem h_X1_narrowPlace_X0_narrowReference_151 : GoodIn v_X1_narrowPlace (wsV RX1 151 RX0 yX0_narrowReference v_X0_narrowReference) := gdI [7, 8, 9, 6] rfl (by decide +kernel) (im_X1_narrowPlace_X0_narrowReference) gd_X0_narrowReference
set_option maxRecDepth 20000 in
theorem h_X1_narrowPlace_X0_longestOf_171 : GoodIn v_X1_narrowPlace (wsV RX1 171 RX0 yX0_longestOf v_X0_longestOf) := gdI [10, 11, 12, 6] rfl (by decide +kernel) (im_X1_narrowPlace_X0_longestOf) gd_X0_longestOf
set_option maxRecDepth 20000 in
theorem h_X1_narrowPlace_X0_narrow_141 : GoodIn v_X1_narrowPlace (wsV RX1 141 RX0 yX0_narrow v_X0_narrow) := gdI [13, 14, 15, 6] rfl (by decide +kernel) (im_X1_narrowPlace_X0_narrow) gd_X0_narrow
abbrev sw_X1_narrowPlace (cI cJ cZ : ClassId) (lh : Nat) (fh : Nat) (l_ahead : Value) (l_isOld : Int32) (l_isReached : Value) (l_mayThrow : Value) (l_gatheredAny : Int32) (l_gatheredLeast : Int32) (l_gatheredGreatest : Int32) (f_isReached : Int32) (fa_least : Nat) (fa_greatest : Nat) (fa_sites : Nat) (fa_maybeNull : Nat) (f_known : Value) (fa_lanes : Nat) (f_shortest : Value) (fa_longest : Nat) (f_leastAt : Value) (f_greatestAt : Value) (fc_least : Nat → Int32) (fc_greatest : Nat → Int32) (fc_sites : Nat → Int64) (fc_maybeNull : Nat → Int32) (fc_lanes : Nat → Int32) (fc_longest : Nat → Int32) (ra : Int32) (la : Int32) (xa : Int32) : va_W := [(lh, .inr (1, [.ref fh, l_ahead, .int l_isOld, l_isReached, l_mayThrow, .int l_gatheredAny, .int l_gatheredLeast, .int l_gatheredGreatest])), (fh, .inr (0, [.int f_isReached, .ref fa_least, .ref fa_greatest, .ref fa_sites, .ref fa_maybeNull, f_known, .ref fa_lanes, f_shortest, .ref fa_longest, f_leastAt, f_greatestAt])), (fa_least, .inl (cI, 6, .inl fc_least)), (fa_greatest, .inl (cI, 6, .inl fc_greatest)), (fa_sites, .inl (cJ, 6, .inr (.inl fc_sites))), (fa_maybeNull, .inl (cZ, 6, .inl fc_maybeNull)), (fa_lanes, .inl (cI, 40, .inl fc_lanes)), (fa_longest, .inl (cI, 40, .inl fc_longest))]
set_option maxHeartbeats 8000000 in
set_option maxRecDepth 100000 in
theorem s_X1_narrowPlace (l : Launch) (dC : Nat → ClassId) (dI : Nat → Nat → Nat) (cI cJ cZ : ClassId) (lh : Nat) (fh : Nat) (l_ahead : Value) (l_isOld : Int32) (l_isReached : Value) (l_mayThrow : Value) (l_gatheredAny : Int32) (l_gatheredLeast : Int32) (l_gatheredGreatest : Int32) (f_isReached : Int32) (fa_least : Nat) (fa_greatest : Nat) (fa_sites : Nat) (fa_maybeNull : Nat) (f_known : Value) (fa_lanes : Nat) (f_shortest : Value) (fa_longest : Nat) (f_leastAt : Value) (f_greatestAt : Value) (fc_least : Nat → Int32) (fc_greatest : Nat → Int32) (fc_sites : Nat → Int64) (fc_maybeNull : Nat → Int32) (fc_lanes : Nat → Int32) (fc_longest : Nat → Int32) (ra : Int32) (la : Int32) (xa : Int32) (sz : Nat) (q_l_isOld : kZ l_isOld) (q_l_gatheredAny : kZ l_gatheredAny) (q_f_isReached : kZ f_isReached) (h_fc_maybeNull : ∀ j : Nat, kZ (fc_maybeNull j)) (h_fc_longest : ∀ j : Nat, kLE12 (fc_longest j)) (hy_ra : V6 ra) (hy_xa : V6 xa) : Met l yX1_narrowPlace v_X1_narrowPlace ({ frames := 2, cells := 0, slots := 0, locals := 48 }) (va_Pc [.ref lh, .int ra, .int la, .int xa] (cPre dC dI cI cJ cZ sz (sw_X1_narrowPlace cI cJ cZ lh fh l_ahead l_isOld l_isReached l_mayThrow l_gatheredAny l_gatheredLeast l_gatheredGreatest f_isReached fa_least fa_greatest fa_sites fa_maybeNull f_known fa_lanes f_shortest fa_longest f_leastAt f_greatestAt fc_least fc_greatest fc_sites fc_maybeNull fc_lanes fc_longest ra la xa))) (va_Qv (fun (u : Int32 × (Nat → Int32) × (Nat → Int32) × (Nat → Int64) × (Nat → Int32)) => (kZ (u.1)) ∧ (∀ j : Nat, kZ ((u.2.2.2.2) j))) (fun (u : Int32 × (Nat → Int32) × (Nat → Int32) × (Nat → Int64) × (Nat → Int32)) => cPost dC dI cI cJ cZ (va_A (sw_X1_narrowPlace cI cJ cZ lh fh l_ahead l_isOld l_isReached l_mayThrow l_gatheredAny l_gatheredLeast l_gatheredGreatest f_isReached fa_least fa_greatest fa_sites fa_maybeNull f_known fa_lanes f_shortest fa_longest f_leastAt f_greatestAt fc_least fc_greatest fc_sites fc_maybeNull fc_lanes fc_longest ra la xa) sz) [(lh, .inr (1, [.ref fh, l_ahead, .int l_isOld, l_isReached, l_mayThrow, .int l_gatheredAny, .int l_gatheredLeast, .int l_gatheredGreatest])), (fh, .inr (0, [.int (u.1), .ref fa_least, .ref fa_greatest, .ref fa_sites, .ref fa_maybeNull, f_known, .ref fa_lanes, f_shortest, .ref fa_longest, f_leastAt, f_greatestAt])), (fa_least, .inl (cI, 6, .inl (u.2.1))), (fa_greatest, .inl (cI, 6, .inl (u.2.2.1))), (fa_sites, .inl (cJ, 6, .inr (.inl (u.2.2.2.1)))), (fa_maybeNull, .inl (cZ, 6, .inl (u.2.2.2.2))), (fa_lanes, .inl (cI, 40, .inl fc_lanes)), (fa_longest, .inl (cI, 40, .inl fc_longest))]) (va_A (sw_X1_narrowPlace cI cJ cZ lh fh l_ahead l_isOld l_isReached l_mayThrow l_gatheredAny l_gatheredLeast l_gatheredGreatest f_isReached fa_least fa_greatest fa_sites fa_maybeNull f_known fa_lanes f_shortest fa_longest f_leastAt f_greatestAt fc_least fc_greatest fc_sites fc_maybeNull fc_lanes fc_longest ra la xa) sz)) 0 0 (va_A (sw_X1_narrowPlace cI cJ cZ lh fh l_ahead l_isOld l_isReached l_mayThrow l_gatheredAny l_gatheredLeast l_gatheredGreatest f_isReached fa_least fa_greatest fa_sites fa_maybeNull f_known fa_lanes f_shortest fa_longest f_leastAt f_greatestAt fc_least fc_greatest fc_sites fc_maybeNull fc_lanes fc_longest ra la xa) sz) := by
  refine Met.ofW (cc := cX1_narrowPlace) (maxL := 4) (ret := none) (by decide) rfl ?_
  intro p e s m args below meth c s₁ B hml hv
  obtain ⟨rfl, hsz, hP, hK, hD0, hN⟩ := hv
  have hx := B.exec
  have hb := B.bytes
  have hr := B.returns
  have hts := atoms_spec (ws := v_X1_narrowPlace) B.pre
  have hown : s.vm.findClass RX1 = some m.cls := findClass_of_methodNamed B.named
  have hlocks := B.notSynchronized
  subst hsz
  have hD := hD0.self (sz := s.heap.size)
  generalize hAe : va_A (sw_X1_narrowPlace cI cJ cZ lh fh l_ahead l_isOld l_isReached l_mayThrow l_gatheredAny l_gatheredLeast l_gatheredGreatest f_isReached fa_least fa_greatest fa_sites fa_maybeNull f_known fa_lanes f_shortest fa_longest f_leastAt f_greatestAt fc_least fc_greatest fc_sites fc_maybeNull fc_lanes fc_longest ra la xa) s.heap.size = A at hD ⊢
  have hA : ∀ q : Nat, s.heap.size ≤ q → A q := fun q h => by rw [← hAe]; exact Or.inr h
  clear hAe hD0
  have hS : va_S A s.heap s.heap [] := va_S.rf
  replace hP : va_P (dC, dI) vwCl [(lh, .inr (1, [.ref fh, l_ahead, .int l_isOld, l_isReached, l_mayThrow, .int l_gatheredAny, .int l_gatheredLeast, .int l_gatheredGreatest])), (fh, .inr (0, [.int f_isReached, .ref fa_least, .ref fa_greatest, .ref fa_sites, .ref fa_maybeNull, f_known, .ref fa_lanes, f_shortest, .ref fa_longest, f_leastAt, f_greatestAt])), (fa_least, .inl (cI, 6, .inl fc_least)), (fa_greatest, .inl (cI, 6, .inl fc_greatest)), (fa_sites, .inl (cJ, 6, .inr (.inl fc_sites))), (fa_maybeNull, .inl (cZ, 6, .inl fc_maybeNull)), (fa_lanes, .inl (cI, 40, .inl fc_lanes)), (fa_longest, .inl (cI, 40, .inl fc_longest))] s.heap := hP
  replace hD : va_D A [(lh, .inr (1, [.ref fh, l_ahead, .int l_isOld, l_isReached, l_mayThrow, .int l_gatheredAny, .int l_gatheredLeast, .int l_gatheredGreatest])), (fh, .inr (0, [.int f_isReached, .ref fa_least, .ref fa_greatest, .ref fa_sites, .ref fa_maybeNull, f_known, .ref fa_lanes, f_shortest, .ref fa_longest, f_leastAt, f_greatestAt])), (fa_least, .inl (cI, 6, .inl fc_least)), (fa_greatest, .inl (cI, 6, .inl fc_greatest)), (fa_sites, .inl (cJ, 6, .inr (.inl fc_sites))), (fa_maybeNull, .inl (cZ, 6, .inl fc_maybeNull)), (fa_lanes, .inl (cI, 40, .inl fc_lanes)), (fa_longest, .inl (cI, 40, .inl fc_longest))] := hD
  have hl := lv_entry ([.ref lh, .int ra, .int la, .int xa]) (n := 4) (Nat.le_of_ble_eq_true rfl)
  rw [lg_entry_eq]
  generalize (lg_sl ([.ref lh, .int ra, .int la, .int xa]) ++ List.replicate (4 - (lg_sl ([.ref lh, .int ra, .int la, .int xa])).length) Slot.unset).toArray = ls at hl ⊢
  replace hl : lv_has ls 4 [(0, .ref lh), (1, .int ra), (2, .int la), (3, .int xa)] := hl
  have z_0 : (0 : Int32).toInt = 0 := by decide
  have z_1 : (1 : Int32).toInt = 1 := by decide
  refine lv_aload_n hx hb dX1_narrowPlace_0 rfl (lv_at hl 0 rfl) ?_
  refine va_get (D := (dC, dI)) (ci := 1) (v := .ref fh) (C := RX1) (T := TX1) (N := 8) hx hb hts inv_X1_narrowPlace_X1 hown hK hP 0 rfl rfl 0 (by decide) (hts (.fieldLink RX1 12 "ArraySegments$Flow" "now" "LArraySegments$Facts;") (List.mem_of_getElem? (i := 1) rfl)) (fun _ h9 => h9) rfl dX1_narrowPlace_1 ?_
  refine lv_iload_n hx hb dX1_narrowPlace_4 rfl (lv_at hl 1 rfl) ?_
  refine lv_aload_n hx hb dX1_narrowPlace_5 rfl (lv_at hl 0 rfl) ?_
  refine va_get (D := (dC, dI)) (ci := 1) (v := .ref fh) (C := RX1) (T := TX1) (N := 8) hx hb hts inv_X1_narrowPlace_X1 hown hK hP 0 rfl rfl 0 (by decide) (hts (.fieldLink RX1 12 "ArraySegments$Flow" "now" "LArraySegments$Facts;") (List.mem_of_getElem? (i := 1) rfl)) (fun _ h9 => h9) rfl dX1_narrowPlace_6 ?_
  refine lv_aload_n hx hb dX1_narrowPlace_9 rfl (lv_at hl 0 rfl) ?_
  refine va_get (D := (dC, dI)) (ci := 1) (v := .ref fh) (C := RX1) (T := TX1) (N := 8) hx hb hts inv_X1_narrowPlace_X1 hown hK hP 0 rfl rfl 0 (by decide) (hts (.fieldLink RX1 12 "ArraySegments$Flow" "now" "LArraySegments$Facts;") (List.mem_of_getElem? (i := 1) rfl)) (fun _ h9 => h9) rfl dX1_narrowPlace_10 ?_
  refine va_get (D := (dC, dI)) (ci := 0) (v := .ref fa_sites) (C := RX0) (T := TX0) (N := 11) hx hb hts inv_X1_narrowPlace_X0 hown hK hP 1 rfl rfl 3 (by decide) (hts (.fieldLink RX1 109 "ArraySegments$Facts" "sites" "[J") (List.mem_of_getElem? (i := 2) rfl)) (fun _ h9 => h9) rfl dX1_narrowPlace_13 ?_
  refine lv_iload_n hx hb dX1_narrowPlace_16 rfl (lv_at hl 1 rfl) ?_
  refine sf_lald lT hx hb hK hP 4 1 rfl rfl (fun _ => trivial) (vp_in_iff.mpr ⟨by omega, by omega⟩) dX1_narrowPlace_17 (fun v_1 q_v_1 e_v_1 => ?_)
  refine lv_iload_n hx hb dX1_narrowPlace_18 rfl (lv_at hl 2 rfl) ?_
  have hPc := hP.sub (ws' := [(fh, .inr (0, [.int f_isReached, .ref fa_least, .ref fa_greatest, .ref fa_sites, .ref fa_maybeNull, f_known, .ref fa_lanes, f_shortest, .ref fa_longest, f_leastAt, f_greatestAt])), (fa_lanes, .inl (cI, 40, .inl fc_lanes))]) [1, 6] rfl
  have hDc := hD.sub (ws' := [(fh, .inr (0, [.int f_isReached, .ref fa_least, .ref fa_greatest, .ref fa_sites, .ref fa_maybeNull, f_known, .ref fa_lanes, f_shortest, .ref fa_longest, f_leastAt, f_greatestAt])), (fa_lanes, .inl (cI, 40, .inl fc_lanes))]) [1, 6] (by decide) rfl
  have hFc := va_free (wc := [(fh, .inr (0, [.int f_isReached, .ref fa_least, .ref fa_greatest, .ref fa_sites, .ref fa_maybeNull, f_known, .ref fa_lanes, f_shortest, .ref fa_longest, f_leastAt, f_greatestAt])), (fa_lanes, .inl (cI, 40, .inl fc_lanes))]) hD hS hA [1, 6] rfl
  refine va_calll (va_runV (As := [.long v_1, .int la]) (rest := [.int ra, .ref fh]) ⟨hx, hb, hml, hown, hts⟩ (s_X0_withLane l dC dI cI cJ cZ fh f_isReached (.ref fa_least) (.ref fa_greatest) (.ref fa_sites) (.ref fa_maybeNull) f_known fa_lanes f_shortest (.ref fa_longest) f_leastAt f_greatestAt fc_lanes v_1 la s.heap.size q_f_isReached) (cwV 2 hts h_X1_narrowPlace_X0_withLane_228 rfl rfl rfl (by decide +kernel) ⟨Nat.le_of_ble_eq_true rfl, Nat.le_of_ble_eq_true rfl⟩) ⟨cPre_blind, va_recv hK hPc (ci := 0) (q0 := 0) rfl rfl, cPre_of hK hN hPc hDc⟩ rfl rfl hl.1 rfl (lv_room (Nat.le_of_ble_eq_true rfl)) dX1_narrowPlace_19 ⟨Nat.le_of_ble_eq_true rfl, Nat.le_of_ble_eq_true rfl⟩) hS (fun q _ h => hFc q h) hFc (fun r_2 u_2 t_2 H_2 locs_2 ht hvm hw_2 hB hz1 hk1 hS1 => ?_)
  obtain ⟨hP1, hK1, hD1⟩ := hB
  rw [ht] at hP1
  obtain ⟨hP2, hD2⟩ := va_join (wr := [(lh, .inr (1, [.ref fh, l_ahead, .int l_isOld, l_isReached, l_mayThrow, .int l_gatheredAny, .int l_gatheredLeast, .int l_gatheredGreatest])), (fa_least, .inl (cI, 6, .inl fc_least)), (fa_greatest, .inl (cI, 6, .inl fc_greatest)), (fa_sites, .inl (cJ, 6, .inr (.inl fc_sites))), (fa_maybeNull, .inl (cZ, 6, .inl fc_maybeNull)), (fa_longest, .inl (cI, 40, .inl fc_longest))]) (w1 := [(fh, .inr (0, [.int f_isReached, .ref fa_least, .ref fa_greatest, .ref fa_sites, .ref fa_maybeNull, f_known, .ref fa_lanes, f_shortest, .ref fa_longest, f_leastAt, f_greatestAt])), (fa_lanes, .inl (cI, 40, .inl fc_lanes))]) hP hD [1, 6] [0, 2, 3, 4, 5, 7] rfl rfl (by decide) (by decide) hk1 hFc hP1 hD1
  clear hPc hDc hFc hP1 hD1 hK1 hk1 hz1 hvm ht
  replace hP : va_P (dC, dI) vwCl [(lh, .inr (1, [.ref fh, l_ahead, .int l_isOld, l_isReached, l_mayThrow, .int l_gatheredAny, .int l_gatheredLeast, .int l_gatheredGreatest])), (fa_least, .inl (cI, 6, .inl fc_least)), (fa_greatest, .inl (cI, 6, .inl fc_greatest)), (fa_sites, .inl (cJ, 6, .inr (.inl fc_sites))), (fa_maybeNull, .inl (cZ, 6, .inl fc_maybeNull)), (fa_longest, .inl (cI, 40, .inl fc_longest)), (fh, .inr (0, [.int f_isReached, .ref fa_least, .ref fa_greatest, .ref fa_sites, .ref fa_maybeNull, f_known, .ref fa_lanes, f_shortest, .ref fa_longest, f_leastAt, f_greatestAt])), (fa_lanes, .inl (cI, 40, .inl fc_lanes))] H_2 := hP2
  replace hD : va_D A [(lh, .inr (1, [.ref fh, l_ahead, .int l_isOld, l_isReached, l_mayThrow, .int l_gatheredAny, .int l_gatheredLeast, .int l_gatheredGreatest])), (fa_least, .inl (cI, 6, .inl fc_least)), (fa_greatest, .inl (cI, 6, .inl fc_greatest)), (fa_sites, .inl (cJ, 6, .inr (.inl fc_sites))), (fa_maybeNull, .inl (cZ, 6, .inl fc_maybeNull)), (fa_longest, .inl (cI, 40, .inl fc_longest)), (fh, .inr (0, [.int f_isReached, .ref fa_least, .ref fa_greatest, .ref fa_sites, .ref fa_maybeNull, f_known, .ref fa_lanes, f_shortest, .ref fa_longest, f_leastAt, f_greatestAt])), (fa_lanes, .inl (cI, 40, .inl fc_lanes))] := hD2
  replace hS := hS1
  clear hP2 hD2 hS1
  have hPc := hP.sub (ws' := [(fh, .inr (0, [.int f_isReached, .ref fa_least, .ref fa_greatest, .ref fa_sites, .ref fa_maybeNull, f_known, .ref fa_lanes, f_shortest, .ref fa_longest, f_leastAt, f_greatestAt])), (fa_sites, .inl (cJ, 6, .inr (.inl fc_sites))), (fa_maybeNull, .inl (cZ, 6, .inl fc_maybeNull))]) [6, 3, 4] rfl
  have hDc := hD.sub (ws' := [(fh, .inr (0, [.int f_isReached, .ref fa_least, .ref fa_greatest, .ref fa_sites, .ref fa_maybeNull, f_known, .ref fa_lanes, f_shortest, .ref fa_longest, f_leastAt, f_greatestAt])), (fa_sites, .inl (cJ, 6, .inr (.inl fc_sites))), (fa_maybeNull, .inl (cZ, 6, .inl fc_maybeNull))]) [6, 3, 4] (by decide) rfl
  have hFc := va_free (wc := [(fh, .inr (0, [.int f_isReached, .ref fa_least, .ref fa_greatest, .ref fa_sites, .ref fa_maybeNull, f_known, .ref fa_lanes, f_shortest, .ref fa_longest, f_leastAt, f_greatestAt])), (fa_sites, .inl (cJ, 6, .inr (.inl fc_sites))), (fa_maybeNull, .inl (cZ, 6, .inl fc_maybeNull))]) hD hS hA [6, 3, 4] rfl
  refine va_callv (va_runV (As := [.int ra, .long r_2]) (rest := []) ⟨hx, hb, hml, hown, hts⟩ (s_X0_narrowReference l dC dI cI cJ cZ fh f_isReached (.ref fa_least) (.ref fa_greatest) fa_sites fa_maybeNull f_known (.ref fa_lanes) f_shortest (.ref fa_longest) f_leastAt f_greatestAt fc_sites fc_maybeNull ra r_2 H_2.size q_f_isReached h_fc_maybeNull (by first | assumption | omega)) (cwV 2 hts h_X1_narrowPlace_X0_narrowReference_151 rfl rfl rfl (by decide +kernel) ⟨Nat.le_of_ble_eq_true rfl, Nat.le_of_ble_eq_true rfl⟩) ⟨cPre_blind, va_recv hK hPc (ci := 0) (q0 := 0) rfl rfl, cPre_of hK hN hPc hDc⟩ rfl rfl hl.1 rfl (lv_room (Nat.le_of_ble_eq_true rfl)) dX1_narrowPlace_22 ⟨Nat.le_of_ble_eq_true rfl, Nat.le_of_ble_eq_true rfl⟩) hS (fun q _ h => hFc q h) hFc (fun u_3 t_3 H_3 locs_3 ht hvm hw_3 hB hz1 hk1 hS1 => ?_)
  obtain ⟨v_4, f_5, f_6⟩ := u_3
  obtain ⟨hP1, hK1, hD1⟩ := hB
  rw [ht] at hP1
  obtain ⟨hP2, hD2⟩ := va_join (wr := [(lh, .inr (1, [.ref fh, l_ahead, .int l_isOld, l_isReached, l_mayThrow, .int l_gatheredAny, .int l_gatheredLeast, .int l_gatheredGreatest])), (fa_least, .inl (cI, 6, .inl fc_least)), (fa_greatest, .inl (cI, 6, .inl fc_greatest)), (fa_longest, .inl (cI, 40, .inl fc_longest)), (fa_lanes, .inl (cI, 40, .inl fc_lanes))]) (w1 := [(fh, .inr (0, [.int v_4, .ref fa_least, .ref fa_greatest, .ref fa_sites, .ref fa_maybeNull, f_known, .ref fa_lanes, f_shortest, .ref fa_longest, f_leastAt, f_greatestAt])), (fa_sites, .inl (cJ, 6, .inr (.inl f_5))), (fa_maybeNull, .inl (cZ, 6, .inl f_6))]) hP hD [6, 3, 4] [0, 1, 2, 5, 7] rfl rfl (by decide) (by decide) hk1 hFc hP1 hD1
  clear hPc hDc hFc hP1 hD1 hK1 hk1 hz1 hvm ht
  replace hP : va_P (dC, dI) vwCl [(lh, .inr (1, [.ref fh, l_ahead, .int l_isOld, l_isReached, l_mayThrow, .int l_gatheredAny, .int l_gatheredLeast, .int l_gatheredGreatest])), (fa_least, .inl (cI, 6, .inl fc_least)), (fa_greatest, .inl (cI, 6, .inl fc_greatest)), (fa_longest, .inl (cI, 40, .inl fc_longest)), (fa_lanes, .inl (cI, 40, .inl fc_lanes)), (fh, .inr (0, [.int v_4, .ref fa_least, .ref fa_greatest, .ref fa_sites, .ref fa_maybeNull, f_known, .ref fa_lanes, f_shortest, .ref fa_longest, f_leastAt, f_greatestAt])), (fa_sites, .inl (cJ, 6, .inr (.inl f_5))), (fa_maybeNull, .inl (cZ, 6, .inl f_6))] H_3 := hP2
  replace hD : va_D A [(lh, .inr (1, [.ref fh, l_ahead, .int l_isOld, l_isReached, l_mayThrow, .int l_gatheredAny, .int l_gatheredLeast, .int l_gatheredGreatest])), (fa_least, .inl (cI, 6, .inl fc_least)), (fa_greatest, .inl (cI, 6, .inl fc_greatest)), (fa_longest, .inl (cI, 40, .inl fc_longest)), (fa_lanes, .inl (cI, 40, .inl fc_lanes)), (fh, .inr (0, [.int v_4, .ref fa_least, .ref fa_greatest, .ref fa_sites, .ref fa_maybeNull, f_known, .ref fa_lanes, f_shortest, .ref fa_longest, f_leastAt, f_greatestAt])), (fa_sites, .inl (cJ, 6, .inr (.inl f_5))), (fa_maybeNull, .inl (cZ, 6, .inl f_6))] := hD2
  replace hS := hS1
  clear hP2 hD2 hS1
  replace hw_3 : (kZ v_4) ∧ (∀ j : Nat, kZ (f_6 j)) := hw_3
  obtain ⟨q_v_4, h_f_6⟩ := hw_3
  refine lv_aload_n hx hb dX1_narrowPlace_25 rfl (lv_at hl 0 rfl) ?_
  refine va_get (D := (dC, dI)) (ci := 1) (v := .ref fh) (C := RX1) (T := TX1) (N := 8) hx hb hts inv_X1_narrowPlace_X1 hown hK hP 0 rfl rfl 0 (by decide) (hts (.fieldLink RX1 12 "ArraySegments$Flow" "now" "LArraySegments$Facts;") (List.mem_of_getElem? (i := 1) rfl)) (fun _ h9 => h9) rfl dX1_narrowPlace_26 ?_
  refine lv_iload_n hx hb dX1_narrowPlace_29 rfl (lv_at hl 3 rfl) ?_
  refine lv_iconst (v := 0) hx hb dX1_narrowPlace_30 (by decide) ?_
  refine lv_aload_n hx hb dX1_narrowPlace_31 rfl (lv_at hl 0 rfl) ?_
  refine va_get (D := (dC, dI)) (ci := 1) (v := .ref fh) (C := RX1) (T := TX1) (N := 8) hx hb hts inv_X1_narrowPlace_X1 hown hK hP 0 rfl rfl 0 (by decide) (hts (.fieldLink RX1 12 "ArraySegments$Flow" "now" "LArraySegments$Facts;") (List.mem_of_getElem? (i := 1) rfl)) (fun _ h9 => h9) rfl dX1_narrowPlace_32 ?_
  refine lv_aload_n hx hb dX1_narrowPlace_35 rfl (lv_at hl 0 rfl) ?_
  refine va_get (D := (dC, dI)) (ci := 1) (v := .ref fh) (C := RX1) (T := TX1) (N := 8) hx hb hts inv_X1_narrowPlace_X1 hown hK hP 0 rfl rfl 0 (by decide) (hts (.fieldLink RX1 12 "ArraySegments$Flow" "now" "LArraySegments$Facts;") (List.mem_of_getElem? (i := 1) rfl)) (fun _ h9 => h9) rfl dX1_narrowPlace_36 ?_
  refine va_get (D := (dC, dI)) (ci := 0) (v := .ref fa_sites) (C := RX0) (T := TX0) (N := 11) hx hb hts inv_X1_narrowPlace_X0 hown hK hP 5 rfl rfl 3 (by decide) (hts (.fieldLink RX1 109 "ArraySegments$Facts" "sites" "[J") (List.mem_of_getElem? (i := 2) rfl)) (fun _ h9 => h9) rfl dX1_narrowPlace_39 ?_
  refine lv_iload_n hx hb dX1_narrowPlace_42 rfl (lv_at hl 1 rfl) ?_
  refine sf_lald lT hx hb hK hP 6 1 rfl rfl (fun _ => trivial) (vp_in_iff.mpr ⟨by omega, by omega⟩) dX1_narrowPlace_43 (fun v_7 q_v_7 e_v_7 => ?_)
  have hPc := hP.sub (ws' := [(fh, .inr (0, [.int v_4, .ref fa_least, .ref fa_greatest, .ref fa_sites, .ref fa_maybeNull, f_known, .ref fa_lanes, f_shortest, .ref fa_longest, f_leastAt, f_greatestAt])), (fa_longest, .inl (cI, 40, .inl fc_longest))]) [5, 3] rfl
  have hDc := hD.sub (ws' := [(fh, .inr (0, [.int v_4, .ref fa_least, .ref fa_greatest, .ref fa_sites, .ref fa_maybeNull, f_known, .ref fa_lanes, f_shortest, .ref fa_longest, f_leastAt, f_greatestAt])), (fa_longest, .inl (cI, 40, .inl fc_longest))]) [5, 3] (by decide) rfl
  have hFc := va_free (wc := [(fh, .inr (0, [.int v_4, .ref fa_least, .ref fa_greatest, .ref fa_sites, .ref fa_maybeNull, f_known, .ref fa_lanes, f_shortest, .ref fa_longest, f_leastAt, f_greatestAt])), (fa_longest, .inl (cI, 40, .inl fc_longest))]) hD hS hA [5, 3] rfl
  refine va_calli (va_runV (As := [.long v_7]) (rest := [.int 0, .int xa, .ref fh]) ⟨hx, hb, hml, hown, hts⟩ (s_X0_longestOf l dC dI cI cJ cZ fh v_4 (.ref fa_least) (.ref fa_greatest) (.ref fa_sites) (.ref fa_maybeNull) f_known (.ref fa_lanes) f_shortest fa_longest f_leastAt f_greatestAt fc_longest v_7 H_3.size q_v_4 h_fc_longest) (cwV 1 hts h_X1_narrowPlace_X0_longestOf_171 rfl rfl rfl (by decide +kernel) ⟨Nat.le_of_ble_eq_true rfl, Nat.le_of_ble_eq_true rfl⟩) ⟨cPre_blind, va_recv hK hPc (ci := 0) (q0 := 0) rfl rfl, cPre_of hK hN hPc hDc⟩ rfl rfl hl.1 rfl (lv_room (Nat.le_of_ble_eq_true rfl)) dX1_narrowPlace_44 ⟨Nat.le_of_ble_eq_true rfl, Nat.le_of_ble_eq_true rfl⟩) hS (fun q _ h => hFc q h) hFc (fun r_8 u_8 t_8 H_8 locs_8 ht hvm hw_8 hB hz1 hk1 hS1 => ?_)
  obtain ⟨hP1, hK1, hD1⟩ := hB
  rw [ht] at hP1
  obtain ⟨hP2, hD2⟩ := va_join (wr := [(lh, .inr (1, [.ref fh, l_ahead, .int l_isOld, l_isReached, l_mayThrow, .int l_gatheredAny, .int l_gatheredLeast, .int l_gatheredGreatest])), (fa_least, .inl (cI, 6, .inl fc_least)), (fa_greatest, .inl (cI, 6, .inl fc_greatest)), (fa_lanes, .inl (cI, 40, .inl fc_lanes)), (fa_sites, .inl (cJ, 6, .inr (.inl f_5))), (fa_maybeNull, .inl (cZ, 6, .inl f_6))]) (w1 := [(fh, .inr (0, [.int v_4, .ref fa_least, .ref fa_greatest, .ref fa_sites, .ref fa_maybeNull, f_known, .ref fa_lanes, f_shortest, .ref fa_longest, f_leastAt, f_greatestAt])), (fa_longest, .inl (cI, 40, .inl fc_longest))]) hP hD [5, 3] [0, 1, 2, 4, 6, 7] rfl rfl (by decide) (by decide) hk1 hFc hP1 hD1
  clear hPc hDc hFc hP1 hD1 hK1 hk1 hz1 hvm ht
  replace hP : va_P (dC, dI) vwCl [(lh, .inr (1, [.ref fh, l_ahead, .int l_isOld, l_isReached, l_mayThrow, .int l_gatheredAny, .int l_gatheredLeast, .int l_gatheredGreatest])), (fa_least, .inl (cI, 6, .inl fc_least)), (fa_greatest, .inl (cI, 6, .inl fc_greatest)), (fa_lanes, .inl (cI, 40, .inl fc_lanes)), (fa_sites, .inl (cJ, 6, .inr (.inl f_5))), (fa_maybeNull, .inl (cZ, 6, .inl f_6)), (fh, .inr (0, [.int v_4, .ref fa_least, .ref fa_greatest, .ref fa_sites, .ref fa_maybeNull, f_known, .ref fa_lanes, f_shortest, .ref fa_longest, f_leastAt, f_greatestAt])), (fa_longest, .inl (cI, 40, .inl fc_longest))] H_8 := hP2
  replace hD : va_D A [(lh, .inr (1, [.ref fh, l_ahead, .int l_isOld, l_isReached, l_mayThrow, .int l_gatheredAny, .int l_gatheredLeast, .int l_gatheredGreatest])), (fa_least, .inl (cI, 6, .inl fc_least)), (fa_greatest, .inl (cI, 6, .inl fc_greatest)), (fa_lanes, .inl (cI, 40, .inl fc_lanes)), (fa_sites, .inl (cJ, 6, .inr (.inl f_5))), (fa_maybeNull, .inl (cZ, 6, .inl f_6)), (fh, .inr (0, [.int v_4, .ref fa_least, .ref fa_greatest, .ref fa_sites, .ref fa_maybeNull, f_known, .ref fa_lanes, f_shortest, .ref fa_longest, f_leastAt, f_greatestAt])), (fa_longest, .inl (cI, 40, .inl fc_longest))] := hD2
  replace hS := hS1
  clear hP2 hD2 hS1
  replace hw_8 : (0 ≤ r_8.toInt ∧ r_8.toInt ≤ 12) := hw_8
  have q_r_8 := hw_8
  refine lv_iconst (v := 1) hx hb dX1_narrowPlace_47 (by decide) ?_
  refine sf_isub hx hb dX1_narrowPlace_48 ⟨by omega, by omega⟩ (fun v_9 q_v_9 => ?_)
  have hPc := hP.sub (ws' := [(fh, .inr (0, [.int v_4, .ref fa_least, .ref fa_greatest, .ref fa_sites, .ref fa_maybeNull, f_known, .ref fa_lanes, f_shortest, .ref fa_longest, f_leastAt, f_greatestAt])), (fa_least, .inl (cI, 6, .inl fc_least)), (fa_greatest, .inl (cI, 6, .inl fc_greatest))]) [6, 1, 2] rfl
  have hDc := hD.sub (ws' := [(fh, .inr (0, [.int v_4, .ref fa_least, .ref fa_greatest, .ref fa_sites, .ref fa_maybeNull, f_known, .ref fa_lanes, f_shortest, .ref fa_longest, f_leastAt, f_greatestAt])), (fa_least, .inl (cI, 6, .inl fc_least)), (fa_greatest, .inl (cI, 6, .inl fc_greatest))]) [6, 1, 2] (by decide) rfl
  have hFc := va_free (wc := [(fh, .inr (0, [.int v_4, .ref fa_least, .ref fa_greatest, .ref fa_sites, .ref fa_maybeNull, f_known, .ref fa_lanes, f_shortest, .ref fa_longest, f_leastAt, f_greatestAt])), (fa_least, .inl (cI, 6, .inl fc_least)), (fa_greatest, .inl (cI, 6, .inl fc_greatest))]) hD hS hA [6, 1, 2] rfl
  refine va_callv (va_runV (As := [.int xa, .int 0, .int v_9]) (rest := []) ⟨hx, hb, hml, hown, hts⟩ (s_X0_narrow l dC dI cI cJ cZ fh v_4 fa_least fa_greatest (.ref fa_sites) (.ref fa_maybeNull) f_known (.ref fa_lanes) f_shortest (.ref fa_longest) f_leastAt f_greatestAt fc_least fc_greatest xa 0 v_9 H_8.size q_v_4 (by first | assumption | omega)) (cwV 3 hts h_X1_narrowPlace_X0_narrow_141 rfl rfl rfl (by decide +kernel) ⟨Nat.le_of_ble_eq_true rfl, Nat.le_of_ble_eq_true rfl⟩) ⟨cPre_blind, va_recv hK hPc (ci := 0) (q0 := 0) rfl rfl, cPre_of hK hN hPc hDc⟩ rfl rfl hl.1 rfl (lv_room (Nat.le_of_ble_eq_true rfl)) dX1_narrowPlace_49 ⟨Nat.le_of_ble_eq_true rfl, Nat.le_of_ble_eq_true rfl⟩) hS (fun q _ h => hFc q h) hFc (fun u_10 t_10 H_10 locs_10 ht hvm hw_10 hB hz1 hk1 hS1 => ?_)
  obtain ⟨v_11, f_12, f_13⟩ := u_10
  obtain ⟨hP1, hK1, hD1⟩ := hB
  rw [ht] at hP1
  obtain ⟨hP2, hD2⟩ := va_join (wr := [(lh, .inr (1, [.ref fh, l_ahead, .int l_isOld, l_isReached, l_mayThrow, .int l_gatheredAny, .int l_gatheredLeast, .int l_gatheredGreatest])), (fa_lanes, .inl (cI, 40, .inl fc_lanes)), (fa_sites, .inl (cJ, 6, .inr (.inl f_5))), (fa_maybeNull, .inl (cZ, 6, .inl f_6)), (fa_longest, .inl (cI, 40, .inl fc_longest))]) (w1 := [(fh, .inr (0, [.int v_11, .ref fa_least, .ref fa_greatest, .ref fa_sites, .ref fa_maybeNull, f_known, .ref fa_lanes, f_shortest, .ref fa_longest, f_leastAt, f_greatestAt])), (fa_least, .inl (cI, 6, .inl f_12)), (fa_greatest, .inl (cI, 6, .inl f_13))]) hP hD [6, 1, 2] [0, 3, 4, 5, 7] rfl rfl (by decide) (by decide) hk1 hFc hP1 hD1
  clear hPc hDc hFc hP1 hD1 hK1 hk1 hz1 hvm ht
  replace hP : va_P (dC, dI) vwCl [(lh, .inr (1, [.ref fh, l_ahead, .int l_isOld, l_isReached, l_mayThrow, .int l_gatheredAny, .int l_gatheredLeast, .int l_gatheredGreatest])), (fa_lanes, .inl (cI, 40, .inl fc_lanes)), (fa_sites, .inl (cJ, 6, .inr (.inl f_5))), (fa_maybeNull, .inl (cZ, 6, .inl f_6)), (fa_longest, .inl (cI, 40, .inl fc_longest)), (fh, .inr (0, [.int v_11, .ref fa_least, .ref fa_greatest, .ref fa_sites, .ref fa_maybeNull, f_known, .ref fa_lanes, f_shortest, .ref fa_longest, f_leastAt, f_greatestAt])), (fa_least, .inl (cI, 6, .inl f_12)), (fa_greatest, .inl (cI, 6, .inl f_13))] H_10 := hP2
  replace hD : va_D A [(lh, .inr (1, [.ref fh, l_ahead, .int l_isOld, l_isReached, l_mayThrow, .int l_gatheredAny, .int l_gatheredLeast, .int l_gatheredGreatest])), (fa_lanes, .inl (cI, 40, .inl fc_lanes)), (fa_sites, .inl (cJ, 6, .inr (.inl f_5))), (fa_maybeNull, .inl (cZ, 6, .inl f_6)), (fa_longest, .inl (cI, 40, .inl fc_longest)), (fh, .inr (0, [.int v_11, .ref fa_least, .ref fa_greatest, .ref fa_sites, .ref fa_maybeNull, f_known, .ref fa_lanes, f_shortest, .ref fa_longest, f_leastAt, f_greatestAt])), (fa_least, .inl (cI, 6, .inl f_12)), (fa_greatest, .inl (cI, 6, .inl f_13))] := hD2
  replace hS := hS1
  clear hP2 hD2 hS1
  replace hw_10 : (kZ v_11) ∧ ((f_13 (xa).toNatClampNeg).toInt ≤ v_9.toInt) ∧ ((0 : Int32).toInt ≤ (f_12 (xa).toNatClampNeg).toInt) := hw_10
  obtain ⟨q_v_11, x_10_0, x_10_1⟩ := hw_10
  have hP9 := hP.sub (ws' := [(lh, .inr (1, [.ref fh, l_ahead, .int l_isOld, l_isReached, l_mayThrow, .int l_gatheredAny, .int l_gatheredLeast, .int l_gatheredGreatest])), (fh, .inr (0, [.int v_11, .ref fa_least, .ref fa_greatest, .ref fa_sites, .ref fa_maybeNull, f_known, .ref fa_lanes, f_shortest, .ref fa_longest, f_leastAt, f_greatestAt])), (fa_least, .inl (cI, 6, .inl f_12)), (fa_greatest, .inl (cI, 6, .inl f_13)), (fa_sites, .inl (cJ, 6, .inr (.inl f_5))), (fa_maybeNull, .inl (cZ, 6, .inl f_6)), (fa_lanes, .inl (cI, 40, .inl fc_lanes)), (fa_longest, .inl (cI, 40, .inl fc_longest))]) [0, 5, 6, 7, 2, 3, 1, 4] rfl
  have hD9 := hD.sub (ws' := [(lh, .inr (1, [.ref fh, l_ahead, .int l_isOld, l_isReached, l_mayThrow, .int l_gatheredAny, .int l_gatheredLeast, .int l_gatheredGreatest])), (fh, .inr (0, [.int v_11, .ref fa_least, .ref fa_greatest, .ref fa_sites, .ref fa_maybeNull, f_known, .ref fa_lanes, f_shortest, .ref fa_longest, f_leastAt, f_greatestAt])), (fa_least, .inl (cI, 6, .inl f_12)), (fa_greatest, .inl (cI, 6, .inl f_13)), (fa_sites, .inl (cJ, 6, .inr (.inl f_5))), (fa_maybeNull, .inl (cZ, 6, .inl f_6)), (fa_lanes, .inl (cI, 40, .inl fc_lanes)), (fa_longest, .inl (cI, 40, .inl fc_longest))]) [0, 5, 6, 7, 2, 3, 1, 4] (by decide) rfl
  exact W.vret hx hb hr (fun t ht hW => ⟨⟨(v_11, f_12, f_13, f_5, f_6), rfl, ⟨(show kZ v_11 from q_v_11), (show ∀ j : Nat, kZ (f_6 j) from h_f_6)⟩, by rw [ht]; exact hP9, va_K.moved hW.alike hK, hD9⟩, hS.F ht⟩) hS.2.2 dX1_narrowPlace_52

def v_X1_gather : List Cond := .code yX1_gather cX1_gather 10 none :: ([.fieldLink RX1 33 "ArraySegments$Flow" "gatheredAny" "Z", .initialized RX4, .static yX4_isIn, .methodLink RX1 243 Lib.Math.max.name, .static Lib.Math.max.name, .initialized "java/lang/Math", .code Lib.Math.max.name Lib.Math.max.code 2 (some .int), .fieldLink RX1 12 "ArraySegments$Flow" "now" "LArraySegments$Facts;", .fieldLink RX1 200 "ArraySegments$Facts" "longest" "[I", .fieldLink RX1 246 "ArraySegments$Facts" "leastAt" "[I", .fieldLink RX1 249 "ArraySegments$Facts" "greatestAt" "[I", .fieldLink RX1 36 "ArraySegments$Flow" "gatheredLeast" "I", .fieldLink RX1 40 "ArraySegments$Flow" "gatheredGreatest" "I", .methodLink RX1 166 Lib.Math.min.name, .static Lib.Math.min.name, .code Lib.Math.min.name Lib.Math.min.code 2 (some .int)] ++ (wsX10 ++ (wsX00 ++ (v_X4_isIn))))
theorem inv_X1_gather_X1 : ∀ w ∈ wsX10, w ∈ v_X1_gather := fun _ h => List.mem_cons_of_mem _ (List.mem_append_right _ (List.mem_append_left _ h))
theorem inv_X1_gather_X0 : ∀ w ∈ wsX00, w ∈ v_X1_gather := fun _ h => List.mem_cons_of_mem _ (List.mem_append_right _ (List.mem_append_right _ (List.mem_append_left _ h)))
theorem im_X1_gather_X4_isIn : ∀ w ∈ v_X4_isIn, w ∈ v_X1_gather := fun _ h => List.mem_cons_of_mem _ (List.mem_append_right _ (List.mem_append_right _ (List.mem_append_right _ (h))))
set_option maxRecDepth 20000 in
theorem gd_X1_gather : gdL v_X1_gather := gdC (gdW (by decide +kernel)) (gdA (gdW (by decide +kernel)) (gdA gd_wsX10 (gdA gd_wsX00 gd_X4_isIn)))
theorem h_X1_gather_X4_isIn_155 : GoodIn v_X1_gather (v_X4_isIn) := fun w h => ⟨im_X1_gather_X4_isIn w h, gd_X4_isIn w h⟩
abbrev sw_X1_gather (cI cJ cZ : ClassId) (lh : Nat) (fh : Nat) (l_ahead : Value) (l_isOld : Int32) (l_isReached : Value) (l_mayThrow : Value) (l_gatheredAny : Int32) (l_gatheredLeast : Int32) (l_gatheredGreatest : Int32) (f_isReached : Int32) (f_least : Value) (f_greatest : Value) (f_sites : Value) (f_maybeNull : Value) (f_known : Value) (f_lanes : Value) (f_shortest : Value) (fa_longest : Nat) (fa_leastAt : Nat) (fa_greatestAt : Nat) (fc_longest : Nat → Int32) (fc_leastAt : Nat → Int32) (fc_greatestAt : Nat → Int32) (ala : Int64) (fa : Int32) (ba : Int64) : va_W := [(lh, .inr (1, [.ref fh, l_ahead, .int l_isOld, l_isReached, l_mayThrow, .int l_gatheredAny, .int l_gatheredLeast, .int l_gatheredGreatest])), (fh, .inr (0, [.int f_isReached, f_least, f_greatest, f_sites, f_maybeNull, f_known, f_lanes, f_shortest, .ref fa_longest, .ref fa_leastAt, .ref fa_greatestAt])), (fa_longest, .inl (cI, 40, .inl fc_longest)), (fa_leastAt, .inl (cI, 480, .inl fc_leastAt)), (fa_greatestAt, .inl (cI, 480, .inl fc_greatestAt))]
set_option maxHeartbeats 8000000 in
set_option maxRecDepth 100000 in
theorem s_X1_gather (l : Launch) (dC : Nat → ClassId) (dI : Nat → Nat → Nat) (cI cJ cZ : ClassId) (lh : Nat) (fh : Nat) (l_ahead : Value) (l_isOld : Int32) (l_isReached : Value) (l_mayThrow : Value) (l_gatheredAny : Int32) (l_gatheredLeast : Int32) (l_gatheredGreatest : Int32) (f_isReached : Int32) (f_least : Value) (f_greatest : Value) (f_sites : Value) (f_maybeNull : Value) (f_known : Value) (f_lanes : Value) (f_shortest : Value) (fa_longest : Nat) (fa_leastAt : Nat) (fa_greatestAt : Nat) (fc_longest : Nat → Int32) (fc_leastAt : Nat → Int32) (fc_greatestAt : Nat → Int32) (ala : Int64) (fa : Int32) (ba : Int64) (sz : Nat) (q_l_isOld : kZ l_isOld) (q_l_gatheredAny : kZ l_gatheredAny) (q_f_isReached : kZ f_isReached) (h_fc_longest : ∀ j : Nat, kLE12 (fc_longest j)) : Met l yX1_gather v_X1_gather ({ frames := 1, cells := 0, slots := 0, locals := 22 }) (va_Pc [.ref lh, .long ala, .int fa, .long ba] (cPre dC dI cI cJ cZ sz (sw_X1_gather cI cJ cZ lh fh l_ahead l_isOld l_isReached l_mayThrow l_gatheredAny l_gatheredLeast l_gatheredGreatest f_isReached f_least f_greatest f_sites f_maybeNull f_known f_lanes f_shortest fa_longest fa_leastAt fa_greatestAt fc_longest fc_leastAt fc_greatestAt ala fa ba))) (va_Qv (fun (u : Int32 × Int32 × Int32) => (kZ (u.1))) (fun (u : Int32 × Int32 × Int32) => cPost dC dI cI cJ cZ (va_A (sw_X1_gather cI cJ cZ lh fh l_ahead l_isOld l_isReached l_mayThrow l_gatheredAny l_gatheredLeast l_gatheredGreatest f_isReached f_least f_greatest f_sites f_maybeNull f_known f_lanes f_shortest fa_longest fa_leastAt fa_greatestAt fc_longest fc_leastAt fc_greatestAt ala fa ba) sz) [(lh, .inr (1, [.ref fh, l_ahead, .int l_isOld, l_isReached, l_mayThrow, .int (u.1), .int (u.2.1), .int (u.2.2)])), (fh, .inr (0, [.int f_isReached, f_least, f_greatest, f_sites, f_maybeNull, f_known, f_lanes, f_shortest, .ref fa_longest, .ref fa_leastAt, .ref fa_greatestAt])), (fa_longest, .inl (cI, 40, .inl fc_longest)), (fa_leastAt, .inl (cI, 480, .inl fc_leastAt)), (fa_greatestAt, .inl (cI, 480, .inl fc_greatestAt))]) (va_A (sw_X1_gather cI cJ cZ lh fh l_ahead l_isOld l_isReached l_mayThrow l_gatheredAny l_gatheredLeast l_gatheredGreatest f_isReached f_least f_greatest f_sites f_maybeNull f_known f_lanes f_shortest fa_longest fa_leastAt fa_greatestAt fc_longest fc_leastAt fc_greatestAt ala fa ba) sz)) 0 0 (va_A (sw_X1_gather cI cJ cZ lh fh l_ahead l_isOld l_isReached l_mayThrow l_gatheredAny l_gatheredLeast l_gatheredGreatest f_isReached f_least f_greatest f_sites f_maybeNull f_known f_lanes f_shortest fa_longest fa_leastAt fa_greatestAt fc_longest fc_leastAt fc_greatestAt ala fa ba) sz) := by
  refine Met.ofW (cc := cX1_gather) (maxL := 10) (ret := none) (by decide) rfl ?_
  intro p e s m args below meth c s₁ B hml hv
  obtain ⟨rfl, hsz, hP, hK, hD0, hN⟩ := hv
  have hx := B.exec
  have hb := B.bytes
  have hr := B.returns
  have hts := atoms_spec (ws := v_X1_gather) B.pre
  have hown : s.vm.findClass RX1 = some m.cls := findClass_of_methodNamed B.named
  have hlocks := B.notSynchronized
  subst hsz
  have hD := hD0.self (sz := s.heap.size)
  generalize hAe : va_A (sw_X1_gather cI cJ cZ lh fh l_ahead l_isOld l_isReached l_mayThrow l_gatheredAny l_gatheredLeast l_gatheredGreatest f_isReached f_least f_greatest f_sites f_maybeNull f_known f_lanes f_shortest fa_longest fa_leastAt fa_greatestAt fc_longest fc_leastAt fc_greatestAt ala fa ba) s.heap.size = A at hD ⊢
  have hA : ∀ q : Nat, s.heap.size ≤ q → A q := fun q h => by rw [← hAe]; exact Or.inr h
  clear hAe hD0
  have hS : va_S A s.heap s.heap [] := va_S.rf
  replace hP : va_P (dC, dI) vwCl [(lh, .inr (1, [.ref fh, l_ahead, .int l_isOld, l_isReached, l_mayThrow, .int l_gatheredAny, .int l_gatheredLeast, .int l_gatheredGreatest])), (fh, .inr (0, [.int f_isReached, f_least, f_greatest, f_sites, f_maybeNull, f_known, f_lanes, f_shortest, .ref fa_longest, .ref fa_leastAt, .ref fa_greatestAt])), (fa_longest, .inl (cI, 40, .inl fc_longest)), (fa_leastAt, .inl (cI, 480, .inl fc_leastAt)), (fa_greatestAt, .inl (cI, 480, .inl fc_greatestAt))] s.heap := hP
  replace hD : va_D A [(lh, .inr (1, [.ref fh, l_ahead, .int l_isOld, l_isReached, l_mayThrow, .int l_gatheredAny, .int l_gatheredLeast, .int l_gatheredGreatest])), (fh, .inr (0, [.int f_isReached, f_least, f_greatest, f_sites, f_maybeNull, f_known, f_lanes, f_shortest, .ref fa_longest, .ref fa_leastAt, .ref fa_greatestAt])), (fa_longest, .inl (cI, 40, .inl fc_longest)), (fa_leastAt, .inl (cI, 480, .inl fc_leastAt)), (fa_greatestAt, .inl (cI, 480, .inl fc_greatestAt))] := hD
  have hl := lv_entry ([.ref lh, .long ala, .int fa, .long ba]) (n := 10) (Nat.le_of_ble_eq_true rfl)
  rw [lg_entry_eq]
  generalize (lg_sl ([.ref lh, .long ala, .int fa, .long ba]) ++ List.replicate (10 - (lg_sl ([.ref lh, .long ala, .int fa, .long ba])).length) Slot.unset).toArray = ls at hl ⊢
  replace hl : lv_has ls 10 [(0, .ref lh), (1, .long ala), (3, .int fa), (4, .long ba)] := hl
  have z_0 : (0 : Int32).toInt = 0 := by decide
  have z_1 : (1 : Int32).toInt = 1 := by decide
  have z_40 : (40 : Int32).toInt = 40 := by decide
  refine lv_aload_n hx hb dX1_gather_0 rfl (lv_at hl 0 rfl) ?_
  refine lv_iconst (v := 0) hx hb dX1_gather_1 (by decide) ?_
  refine va_put (D := (dC, dI)) (ci := 1) (v := .int 0) (ty := .boolean) (C := RX1) (T := TX1) (N := 8) hx hb hts inv_X1_gather_X1 tyX1 tyX1_ok nmX1 hown hK hP hD hS 0 rfl rfl 5 (by decide) (hts (.fieldLink RX1 33 "ArraySegments$Flow" "gatheredAny" "Z") (List.mem_of_getElem? (i := 1) rfl)) (fun _ h9 => h9) rfl (by decide +kernel) rfl rfl (Nat.le_of_ble_eq_true rfl) dX1_gather_2 (fun H_1 locs_1 hP1 hD1 hS1 => ?_)
  replace hP : va_P (dC, dI) vwCl [(lh, .inr (1, [.ref fh, l_ahead, .int l_isOld, l_isReached, l_mayThrow, .int 0, .int l_gatheredLeast, .int l_gatheredGreatest])), (fh, .inr (0, [.int f_isReached, f_least, f_greatest, f_sites, f_maybeNull, f_known, f_lanes, f_shortest, .ref fa_longest, .ref fa_leastAt, .ref fa_greatestAt])), (fa_longest, .inl (cI, 40, .inl fc_longest)), (fa_leastAt, .inl (cI, 480, .inl fc_leastAt)), (fa_greatestAt, .inl (cI, 480, .inl fc_greatestAt))] H_1 := hP1
  replace hD : va_D A [(lh, .inr (1, [.ref fh, l_ahead, .int l_isOld, l_isReached, l_mayThrow, .int 0, .int l_gatheredLeast, .int l_gatheredGreatest])), (fh, .inr (0, [.int f_isReached, f_least, f_greatest, f_sites, f_maybeNull, f_known, f_lanes, f_shortest, .ref fa_longest, .ref fa_leastAt, .ref fa_greatestAt])), (fa_longest, .inl (cI, 40, .inl fc_longest)), (fa_leastAt, .inl (cI, 480, .inl fc_leastAt)), (fa_greatestAt, .inl (cI, 480, .inl fc_greatestAt))] := hD1
  replace hS := hS1
  clear hP1 hD1 hS1
  refine lv_iconst (v := 0) hx hb dX1_gather_5 (by decide) ?_
  refine lv_istore (lv' := [(6, .int 0), (0, .ref lh), (1, .long ala), (3, .int fa), (4, .long ba)]) hx hb dX1_gather_6 hl (by decide) rfl (fun ls1 hl1 => ?_)
  replace hl := hl1; clear hl1
  refine my_wloop (S := Int32 × Int32 × Int32 × Int32) (fun u => (0 ≤ (u.1).toInt ∧ (u.1).toInt ≤ 40) ∧ (kZ (u.2.1))) (fun u => (40 - (u.1).toInt).toNat) (fun u => [(lh, .inr (1, [.ref fh, l_ahead, .int l_isOld, l_isReached, l_mayThrow, .int (u.2.1), .int (u.2.2.1), .int (u.2.2.2)])), (fh, .inr (0, [.int f_isReached, f_least, f_greatest, f_sites, f_maybeNull, f_known, f_lanes, f_shortest, .ref fa_longest, .ref fa_leastAt, .ref fa_greatestAt])), (fa_longest, .inl (cI, 40, .inl fc_longest)), (fa_leastAt, .inl (cI, 480, .inl fc_leastAt)), (fa_greatestAt, .inl (cI, 480, .inl fc_greatestAt))]) (fun u => [(6, .int (u.1)), (0, .ref lh), (1, .long ala), (3, .int fa), (4, .long ba)]) (H0 := s.heap) (A := A) (D := (dC, dI)) (cl := vwCl) ((0 : Int32), (0 : Int32), l_gatheredLeast, l_gatheredGreatest) (show (0 ≤ (0 : Int32).toInt ∧ (0 : Int32).toInt ≤ 40) ∧ (kZ (0 : Int32)) from ⟨⟨by omega, by omega⟩, (by decide)⟩) (by exact hP) (by exact hD) hS (by exact hl) (fun u_2 hu_2 ih_2 H_2 locs_2 ls1 hP1 hD1 hS1 hl1 => ?_)
  obtain ⟨v_3, v_4, v_5, v_6⟩ := u_2
  replace hu_2 : (0 ≤ v_3.toInt ∧ v_3.toInt ≤ 40) ∧ (kZ v_4) := hu_2
  obtain ⟨q_v_3, q_v_4⟩ := hu_2
  replace hP : va_P (dC, dI) vwCl [(lh, .inr (1, [.ref fh, l_ahead, .int l_isOld, l_isReached, l_mayThrow, .int v_4, .int v_5, .int v_6])), (fh, .inr (0, [.int f_isReached, f_least, f_greatest, f_sites, f_maybeNull, f_known, f_lanes, f_shortest, .ref fa_longest, .ref fa_leastAt, .ref fa_greatestAt])), (fa_longest, .inl (cI, 40, .inl fc_longest)), (fa_leastAt, .inl (cI, 480, .inl fc_leastAt)), (fa_greatestAt, .inl (cI, 480, .inl fc_greatestAt))] H_2 := hP1
  replace hD : va_D A [(lh, .inr (1, [.ref fh, l_ahead, .int l_isOld, l_isReached, l_mayThrow, .int v_4, .int v_5, .int v_6])), (fh, .inr (0, [.int f_isReached, f_least, f_greatest, f_sites, f_maybeNull, f_known, f_lanes, f_shortest, .ref fa_longest, .ref fa_leastAt, .ref fa_greatestAt])), (fa_longest, .inl (cI, 40, .inl fc_longest)), (fa_leastAt, .inl (cI, 480, .inl fc_leastAt)), (fa_greatestAt, .inl (cI, 480, .inl fc_greatestAt))] := hD1
  replace hS := hS1
  clear hP1 hD1 hS1
  replace hl : lv_has ls1 10 [(6, .int v_3), (0, .ref lh), (1, .long ala), (3, .int fa), (4, .long ba)] := hl1
  clear hl1
  refine lv_iload hx hb dX1_gather_8 (lv_at hl 0 rfl) ?_
  refine lv_bipush (v := 40) hx hb dX1_gather_10 (by decide) ?_
  refine lv_icmp_ge (tgt := 161) hx hb dX1_gather_12 (by decide) (fun c_7 => ?_) (fun c_7 => ?_)
  · -- yes
    have k_7 : (40 : Int32).toInt ≤ v_3.toInt := ci_ge c_7
    have hP9 := hP.sub (ws' := [(lh, .inr (1, [.ref fh, l_ahead, .int l_isOld, l_isReached, l_mayThrow, .int v_4, .int v_5, .int v_6])), (fh, .inr (0, [.int f_isReached, f_least, f_greatest, f_sites, f_maybeNull, f_known, f_lanes, f_shortest, .ref fa_longest, .ref fa_leastAt, .ref fa_greatestAt])), (fa_longest, .inl (cI, 40, .inl fc_longest)), (fa_leastAt, .inl (cI, 480, .inl fc_leastAt)), (fa_greatestAt, .inl (cI, 480, .inl fc_greatestAt))]) [0, 1, 2, 3, 4] rfl
    have hD9 := hD.sub (ws' := [(lh, .inr (1, [.ref fh, l_ahead, .int l_isOld, l_isReached, l_mayThrow, .int v_4, .int v_5, .int v_6])), (fh, .inr (0, [.int f_isReached, f_least, f_greatest, f_sites, f_maybeNull, f_known, f_lanes, f_shortest, .ref fa_longest, .ref fa_leastAt, .ref fa_greatestAt])), (fa_longest, .inl (cI, 40, .inl fc_longest)), (fa_leastAt, .inl (cI, 480, .inl fc_leastAt)), (fa_greatestAt, .inl (cI, 480, .inl fc_greatestAt))]) [0, 1, 2, 3, 4] (by decide) rfl
    exact W.vret hx hb hr (fun t ht hW => ⟨⟨(v_4, v_5, v_6), rfl, (show kZ v_4 from q_v_4), by rw [ht]; exact hP9, va_K.moved hW.alike hK, hD9⟩, hS.F ht⟩) hS.2.2 dX1_gather_161
  · -- no
    have k_7 : v_3.toInt < (40 : Int32).toInt := ci_nge c_7
    refine lv_lload_n hx hb dX1_gather_15 rfl (lv_at hl 2 rfl) ?_
    refine lv_iload hx hb dX1_gather_16 (lv_at hl 0 rfl) ?_
    refine vp_callSi (va_runSN (As := [.long ala, .int v_3]) (rest := []) ⟨hx, hb, hml, hown, hts⟩ (s_X4_isIn l ala v_3) (⟨va_cnB 2 hts h_X1_gather_X4_isIn_155 rfl rfl rfl (hN.2.2.2.2.2.2.2.1) (hts (.initialized RX4) (List.mem_of_getElem? (i := 2) rfl)) (by decide +kernel) ⟨Nat.le_of_ble_eq_true rfl, Nat.le_of_ble_eq_true rfl⟩, hts (.static yX4_isIn) (List.mem_of_getElem? (i := 3) rfl), trivial⟩) ⟨fun _ _ _ _ q => q, fun _ _ _ => ⟨rfl, trivial⟩⟩ rfl rfl hl.1 rfl (lv_room (Nat.le_of_ble_eq_true rfl)) dX1_gather_18 ⟨Nat.le_of_ble_eq_true rfl, Nat.le_of_ble_eq_true rfl⟩).run (fun r_8 hw_8 => ?_)
    replace hw_8 : (kZ r_8) := hw_8
    have q_r_8 := hw_8
    refine my_join (S := Int32 × Int32 × Int32) (fun u => (kZ (u.1))) (fun u => [(lh, .inr (1, [.ref fh, l_ahead, .int l_isOld, l_isReached, l_mayThrow, .int (u.1), .int (u.2.1), .int (u.2.2)])), (fh, .inr (0, [.int f_isReached, f_least, f_greatest, f_sites, f_maybeNull, f_known, f_lanes, f_shortest, .ref fa_longest, .ref fa_leastAt, .ref fa_greatestAt])), (fa_longest, .inl (cI, 40, .inl fc_longest)), (fa_leastAt, .inl (cI, 480, .inl fc_leastAt)), (fa_greatestAt, .inl (cI, 480, .inl fc_greatestAt))]) (fun u => [(6, .int v_3), (0, .ref lh), (1, .long ala), (3, .int fa), (4, .long ba)]) (fun u => []) (nL := 10) (H0 := s.heap) (A := A) (D := (dC, dI)) (cl := vwCl) 155 (fun u_10 hu_10 H_10 locs_10 ls1 hP1 hD1 hS1 hl1 => ?_) (fun jn_10 => ?_)
    · -- behind 155
      obtain ⟨v_11, v_12, v_13⟩ := u_10
      replace hu_10 : (kZ v_11) := hu_10
      have q_v_11 := hu_10
      replace hP : va_P (dC, dI) vwCl [(lh, .inr (1, [.ref fh, l_ahead, .int l_isOld, l_isReached, l_mayThrow, .int v_11, .int v_12, .int v_13])), (fh, .inr (0, [.int f_isReached, f_least, f_greatest, f_sites, f_maybeNull, f_known, f_lanes, f_shortest, .ref fa_longest, .ref fa_leastAt, .ref fa_greatestAt])), (fa_longest, .inl (cI, 40, .inl fc_longest)), (fa_leastAt, .inl (cI, 480, .inl fc_leastAt)), (fa_greatestAt, .inl (cI, 480, .inl fc_greatestAt))] H_10 := hP1
      replace hD : va_D A [(lh, .inr (1, [.ref fh, l_ahead, .int l_isOld, l_isReached, l_mayThrow, .int v_11, .int v_12, .int v_13])), (fh, .inr (0, [.int f_isReached, f_least, f_greatest, f_sites, f_maybeNull, f_known, f_lanes, f_shortest, .ref fa_longest, .ref fa_leastAt, .ref fa_greatestAt])), (fa_longest, .inl (cI, 40, .inl fc_longest)), (fa_leastAt, .inl (cI, 480, .inl fc_leastAt)), (fa_greatestAt, .inl (cI, 480, .inl fc_greatestAt))] := hD1
      replace hS := hS1
      clear hP1 hD1 hS1
      replace hl : lv_has ls1 10 [(6, .int v_3), (0, .ref lh), (1, .long ala), (3, .int fa), (4, .long ba)] := hl1
      clear hl1
      refine sf_iinc hx hb dX1_gather_155 hl (k := 0) (x := v_3) (w := 1) rfl (by decide) (by decide) ⟨by omega, by omega⟩ (fun v_14 q_v_14 ls1 hl1 => ?_)
      replace hl : lv_has ls1 10 [(6, .int v_14), (0, .ref lh), (1, .long ala), (3, .int fa), (4, .long ba)] := hl1
      clear hl1
      refine lv_goto (tgt := 8) hx hb dX1_gather_158 (by decide) ?_
      exact ih_2 (v_14, v_11, v_12, v_13) (show (0 ≤ v_14.toInt ∧ v_14.toInt ≤ 40) ∧ (kZ v_11) from ⟨⟨by omega, by omega⟩, q_v_11⟩) (by show (40 - v_14.toInt).toNat < (40 - v_3.toInt).toNat; omega) _ _ _ (hP.sub [0, 1, 2, 3, 4] rfl) (hD.sub [0, 1, 2, 3, 4] (by decide) rfl) hS (lv_sub hl [0, 1, 2, 3, 4] rfl)
    · -- ahead of 155
      refine lv_if_ne (tgt := 27) hx hb dX1_gather_21 (by decide) (fun c_15 => ?_) (fun c_15 => ?_)
      · -- yes
        have k_15 : ¬ r_8.toInt = (0 : Int32).toInt := ci_ne c_15
        refine lv_iload_n hx hb dX1_gather_27 rfl (lv_at hl 3 rfl) ?_
        refine lv_iconst (v := 0) hx hb dX1_gather_28 (by decide) ?_
        have ir_17 := i32r fa
        refine sf_mmax hx hb (by rw [hml]; exact hl.1.symm) hown (hts (.methodLink RX1 243 Lib.Math.max.name) (List.mem_of_getElem? (i := 4) rfl)) (hts (.static Lib.Math.max.name) (List.mem_of_getElem? (i := 5) rfl)) (hts (.initialized "java/lang/Math") (List.mem_of_getElem? (i := 6) rfl)) (hts (.code Lib.Math.max.name Lib.Math.max.code 2 (some .int)) (List.mem_of_getElem? (i := 7) rfl)) (Nat.le_of_ble_eq_true rfl) (Nat.le_of_ble_eq_true rfl) (Nat.le_of_ble_eq_true rfl) (Nat.le_of_ble_eq_true rfl) dX1_gather_29 (fun v_16 q_v_16 => ?_)
        have qi_v_16 : 0 ≤ v_16.toInt := by omega
        refine lv_istore (lv' := [(7, .int v_16), (6, .int v_3), (0, .ref lh), (1, .long ala), (3, .int fa), (4, .long ba)]) hx hb dX1_gather_32 hl (by decide) rfl (fun ls1 hl1 => ?_)
        replace hl := hl1; clear hl1
        refine my_wloop (S := Int32 × Int32 × Int32 × Int32) (fun u => (0 ≤ (u.1).toInt) ∧ (kZ (u.2.1))) (fun u => (12 - (u.1).toInt).toNat) (fun u => [(lh, .inr (1, [.ref fh, l_ahead, .int l_isOld, l_isReached, l_mayThrow, .int (u.2.1), .int (u.2.2.1), .int (u.2.2.2)])), (fh, .inr (0, [.int f_isReached, f_least, f_greatest, f_sites, f_maybeNull, f_known, f_lanes, f_shortest, .ref fa_longest, .ref fa_leastAt, .ref fa_greatestAt])), (fa_longest, .inl (cI, 40, .inl fc_longest)), (fa_leastAt, .inl (cI, 480, .inl fc_leastAt)), (fa_greatestAt, .inl (cI, 480, .inl fc_greatestAt))]) (fun u => [(7, .int (u.1)), (6, .int v_3), (0, .ref lh), (1, .long ala), (3, .int fa), (4, .long ba)]) (H0 := s.heap) (A := A) (D := (dC, dI)) (cl := vwCl) (v_16, v_4, v_5, v_6) (show (0 ≤ v_16.toInt) ∧ (kZ v_4) from ⟨(by omega), q_v_4⟩) (by exact hP) (by exact hD) hS (by exact hl) (fun u_18 hu_18 ih_18 H_18 locs_18 ls1 hP1 hD1 hS1 hl1 => ?_)
        obtain ⟨v_19, v_20, v_21, v_22⟩ := u_18
        replace hu_18 : (0 ≤ v_19.toInt) ∧ (kZ v_20) := hu_18
        obtain ⟨q_v_19, q_v_20⟩ := hu_18
        replace hP : va_P (dC, dI) vwCl [(lh, .inr (1, [.ref fh, l_ahead, .int l_isOld, l_isReached, l_mayThrow, .int v_20, .int v_21, .int v_22])), (fh, .inr (0, [.int f_isReached, f_least, f_greatest, f_sites, f_maybeNull, f_known, f_lanes, f_shortest, .ref fa_longest, .ref fa_leastAt, .ref fa_greatestAt])), (fa_longest, .inl (cI, 40, .inl fc_longest)), (fa_leastAt, .inl (cI, 480, .inl fc_leastAt)), (fa_greatestAt, .inl (cI, 480, .inl fc_greatestAt))] H_18 := hP1
        replace hD : va_D A [(lh, .inr (1, [.ref fh, l_ahead, .int l_isOld, l_isReached, l_mayThrow, .int v_20, .int v_21, .int v_22])), (fh, .inr (0, [.int f_isReached, f_least, f_greatest, f_sites, f_maybeNull, f_known, f_lanes, f_shortest, .ref fa_longest, .ref fa_leastAt, .ref fa_greatestAt])), (fa_longest, .inl (cI, 40, .inl fc_longest)), (fa_leastAt, .inl (cI, 480, .inl fc_leastAt)), (fa_greatestAt, .inl (cI, 480, .inl fc_greatestAt))] := hD1
        replace hS := hS1
        clear hP1 hD1 hS1
        replace hl : lv_has ls1 10 [(7, .int v_19), (6, .int v_3), (0, .ref lh), (1, .long ala), (3, .int fa), (4, .long ba)] := hl1
        clear hl1
        refine lv_iload hx hb dX1_gather_34 (lv_at hl 0 rfl) ?_
        refine sf_i2l hx hb dX1_gather_36 (fun v_23 q_v_23 => ?_)
        refine lv_lload hx hb dX1_gather_37 (lv_at hl 5 rfl) ?_
        refine W.lcmp hx hb dX1_gather_39 ?_
        refine lv_if_ge (tgt := 155) hx hb dX1_gather_40 (by decide) (fun c_24 => ?_) (fun c_24 => ?_)
        · -- yes
          have k_24 : ba.toInt ≤ v_23.toInt := lc_ge c_24
          exact jn_10 (v_20, v_21, v_22) (show (kZ v_20) from q_v_20) _ _ _ (hP.sub [0, 1, 2, 3, 4] rfl) (hD.sub [0, 1, 2, 3, 4] (by decide) rfl) hS (lv_sub hl [1, 2, 3, 4, 5] rfl)
        · -- no
          have k_24 : v_23.toInt < ba.toInt := lc_nge c_24
          refine lv_iload hx hb dX1_gather_43 (lv_at hl 0 rfl) ?_
          refine lv_aload_n hx hb dX1_gather_45 rfl (lv_at hl 2 rfl) ?_
          refine va_get (D := (dC, dI)) (ci := 1) (v := .ref fh) (C := RX1) (T := TX1) (N := 8) hx hb hts inv_X1_gather_X1 hown hK hP 0 rfl rfl 0 (by decide) (hts (.fieldLink RX1 12 "ArraySegments$Flow" "now" "LArraySegments$Facts;") (List.mem_of_getElem? (i := 8) rfl)) (fun _ h9 => h9) rfl dX1_gather_46 ?_
          refine va_get (D := (dC, dI)) (ci := 0) (v := .ref fa_longest) (C := RX0) (T := TX0) (N := 11) hx hb hts inv_X1_gather_X0 hown hK hP 1 rfl rfl 8 (by decide) (hts (.fieldLink RX1 200 "ArraySegments$Facts" "longest" "[I") (List.mem_of_getElem? (i := 9) rfl)) (fun _ h9 => h9) rfl dX1_gather_49 ?_
          refine lv_iload hx hb dX1_gather_52 (lv_at hl 1 rfl) ?_
          refine sf_iald kLE12 hx hb hK hP 2 0 rfl rfl h_fc_longest (vp_in_iff.mpr ⟨by omega, by omega⟩) dX1_gather_54 (fun v_25 q_v_25 e_v_25 => ?_)
          refine lv_icmp_ge (tgt := 155) hx hb dX1_gather_55 (by decide) (fun c_26 => ?_) (fun c_26 => ?_)
          · -- yes
            have k_26 : v_25.toInt ≤ v_19.toInt := ci_ge c_26
            exact jn_10 (v_20, v_21, v_22) (show (kZ v_20) from q_v_20) _ _ _ (hP.sub [0, 1, 2, 3, 4] rfl) (hD.sub [0, 1, 2, 3, 4] (by decide) rfl) hS (lv_sub hl [1, 2, 3, 4, 5] rfl)
          · -- no
            have k_26 : v_19.toInt < v_25.toInt := ci_nge c_26
            refine lv_aload_n hx hb dX1_gather_58 rfl (lv_at hl 2 rfl) ?_
            refine va_get (D := (dC, dI)) (ci := 1) (v := .ref fh) (C := RX1) (T := TX1) (N := 8) hx hb hts inv_X1_gather_X1 hown hK hP 0 rfl rfl 0 (by decide) (hts (.fieldLink RX1 12 "ArraySegments$Flow" "now" "LArraySegments$Facts;") (List.mem_of_getElem? (i := 8) rfl)) (fun _ h9 => h9) rfl dX1_gather_59 ?_
            refine va_get (D := (dC, dI)) (ci := 0) (v := .ref fa_leastAt) (C := RX0) (T := TX0) (N := 11) hx hb hts inv_X1_gather_X0 hown hK hP 1 rfl rfl 9 (by decide) (hts (.fieldLink RX1 246 "ArraySegments$Facts" "leastAt" "[I") (List.mem_of_getElem? (i := 10) rfl)) (fun _ h9 => h9) rfl dX1_gather_62 ?_
            refine lv_iload hx hb dX1_gather_65 (lv_at hl 1 rfl) ?_
            refine lv_bipush (v := 12) hx hb dX1_gather_67 (by decide) ?_
            refine sf_imul (w := v_3.toInt) (z := 12) hx hb dX1_gather_69 rfl (by decide) ⟨by omega, by omega⟩ (fun v_27 q_v_27 => ?_)
            refine lv_iload hx hb dX1_gather_70 (lv_at hl 0 rfl) ?_
            refine sf_iadd hx hb dX1_gather_72 ⟨by omega, by omega⟩ (fun v_28 q_v_28 => ?_)
            refine sf_iald kT hx hb hK hP 3 0 rfl rfl (fun _ => trivial) (vp_in_iff.mpr ⟨by omega, by omega⟩) dX1_gather_73 (fun v_29 q_v_29 e_v_29 => ?_)
            refine lv_istore (lv' := [(8, .int v_29), (7, .int v_19), (6, .int v_3), (0, .ref lh), (1, .long ala), (3, .int fa), (4, .long ba)]) hx hb dX1_gather_74 hl (by decide) rfl (fun ls1 hl1 => ?_)
            replace hl := hl1; clear hl1
            refine lv_aload_n hx hb dX1_gather_76 rfl (lv_at hl 3 rfl) ?_
            refine va_get (D := (dC, dI)) (ci := 1) (v := .ref fh) (C := RX1) (T := TX1) (N := 8) hx hb hts inv_X1_gather_X1 hown hK hP 0 rfl rfl 0 (by decide) (hts (.fieldLink RX1 12 "ArraySegments$Flow" "now" "LArraySegments$Facts;") (List.mem_of_getElem? (i := 8) rfl)) (fun _ h9 => h9) rfl dX1_gather_77 ?_
            refine va_get (D := (dC, dI)) (ci := 0) (v := .ref fa_greatestAt) (C := RX0) (T := TX0) (N := 11) hx hb hts inv_X1_gather_X0 hown hK hP 1 rfl rfl 10 (by decide) (hts (.fieldLink RX1 249 "ArraySegments$Facts" "greatestAt" "[I") (List.mem_of_getElem? (i := 11) rfl)) (fun _ h9 => h9) rfl dX1_gather_80 ?_
            refine lv_iload hx hb dX1_gather_83 (lv_at hl 2 rfl) ?_
            refine lv_bipush (v := 12) hx hb dX1_gather_85 (by decide) ?_
            refine sf_imul (w := v_3.toInt) (z := 12) hx hb dX1_gather_87 rfl (by decide) ⟨by omega, by omega⟩ (fun v_30 q_v_30 => ?_)
            refine lv_iload hx hb dX1_gather_88 (lv_at hl 1 rfl) ?_
            refine sf_iadd hx hb dX1_gather_90 ⟨by omega, by omega⟩ (fun v_31 q_v_31 => ?_)
            refine sf_iald kT hx hb hK hP 4 0 rfl rfl (fun _ => trivial) (vp_in_iff.mpr ⟨by omega, by omega⟩) dX1_gather_91 (fun v_32 q_v_32 e_v_32 => ?_)
            refine lv_istore (lv' := [(9, .int v_32), (8, .int v_29), (7, .int v_19), (6, .int v_3), (0, .ref lh), (1, .long ala), (3, .int fa), (4, .long ba)]) hx hb dX1_gather_92 hl (by decide) rfl (fun ls1 hl1 => ?_)
            replace hl := hl1; clear hl1
            refine lv_aload_n hx hb dX1_gather_94 rfl (lv_at hl 4 rfl) ?_
            refine lv_aload_n hx hb dX1_gather_95 rfl (lv_at hl 4 rfl) ?_
            refine va_get (D := (dC, dI)) (ci := 1) (v := .int v_20) (C := RX1) (T := TX1) (N := 8) hx hb hts inv_X1_gather_X1 hown hK hP 0 rfl rfl 5 (by decide) (hts (.fieldLink RX1 33 "ArraySegments$Flow" "gatheredAny" "Z") (List.mem_of_getElem? (i := 1) rfl)) (fun _ h9 => h9) rfl dX1_gather_96 ?_
            refine my_join (S := Int32) (fun u => True) (fun u => [(lh, .inr (1, [.ref fh, l_ahead, .int l_isOld, l_isReached, l_mayThrow, .int v_20, .int v_21, .int v_22])), (fh, .inr (0, [.int f_isReached, f_least, f_greatest, f_sites, f_maybeNull, f_known, f_lanes, f_shortest, .ref fa_longest, .ref fa_leastAt, .ref fa_greatestAt])), (fa_longest, .inl (cI, 40, .inl fc_longest)), (fa_leastAt, .inl (cI, 480, .inl fc_leastAt)), (fa_greatestAt, .inl (cI, 480, .inl fc_greatestAt))]) (fun u => [(9, .int v_32), (8, .int v_29), (7, .int v_19), (6, .int v_3), (0, .ref lh), (1, .long ala), (3, .int fa), (4, .long ba)]) (fun u => [.int (u), .ref lh]) (nL := 10) (H0 := s.heap) (A := A) (D := (dC, dI)) (cl := vwCl) 116 (fun u_34 hu_34 H_34 locs_34 ls1 hP1 hD1 hS1 hl1 => ?_) (fun jn_34 => ?_)
            · -- behind 116
              obtain ⟨v_35, rfl⟩ : ∃ z, z = u_34 := ⟨_, rfl⟩
              replace hP : va_P (dC, dI) vwCl [(lh, .inr (1, [.ref fh, l_ahead, .int l_isOld, l_isReached, l_mayThrow, .int v_20, .int v_21, .int v_22])), (fh, .inr (0, [.int f_isReached, f_least, f_greatest, f_sites, f_maybeNull, f_known, f_lanes, f_shortest, .ref fa_longest, .ref fa_leastAt, .ref fa_greatestAt])), (fa_longest, .inl (cI, 40, .inl fc_longest)), (fa_leastAt, .inl (cI, 480, .inl fc_leastAt)), (fa_greatestAt, .inl (cI, 480, .inl fc_greatestAt))] H_34 := hP1
              replace hD : va_D A [(lh, .inr (1, [.ref fh, l_ahead, .int l_isOld, l_isReached, l_mayThrow, .int v_20, .int v_21, .int v_22])), (fh, .inr (0, [.int f_isReached, f_least, f_greatest, f_sites, f_maybeNull, f_known, f_lanes, f_shortest, .ref fa_longest, .ref fa_leastAt, .ref fa_greatestAt])), (fa_longest, .inl (cI, 40, .inl fc_longest)), (fa_leastAt, .inl (cI, 480, .inl fc_leastAt)), (fa_greatestAt, .inl (cI, 480, .inl fc_greatestAt))] := hD1
              replace hS := hS1
              clear hP1 hD1 hS1
              replace hl : lv_has ls1 10 [(9, .int v_32), (8, .int v_29), (7, .int v_19), (6, .int v_3), (0, .ref lh), (1, .long ala), (3, .int fa), (4, .long ba)] := hl1
              clear hl1
              refine va_put (D := (dC, dI)) (ci := 1) (v := .int v_35) (ty := .int) (C := RX1) (T := TX1) (N := 8) hx hb hts inv_X1_gather_X1 tyX1 tyX1_ok nmX1 hown hK hP hD hS 0 rfl rfl 6 (by decide) (hts (.fieldLink RX1 36 "ArraySegments$Flow" "gatheredLeast" "I") (List.mem_of_getElem? (i := 12) rfl)) (fun _ h9 => h9) rfl (by decide +kernel) rfl rfl (Nat.le_of_ble_eq_true rfl) dX1_gather_116 (fun H_36 locs_36 hP1 hD1 hS1 => ?_)
              replace hP : va_P (dC, dI) vwCl [(lh, .inr (1, [.ref fh, l_ahead, .int l_isOld, l_isReached, l_mayThrow, .int v_20, .int v_35, .int v_22])), (fh, .inr (0, [.int f_isReached, f_least, f_greatest, f_sites, f_maybeNull, f_known, f_lanes, f_shortest, .ref fa_longest, .ref fa_leastAt, .ref fa_greatestAt])), (fa_longest, .inl (cI, 40, .inl fc_longest)), (fa_leastAt, .inl (cI, 480, .inl fc_leastAt)), (fa_greatestAt, .inl (cI, 480, .inl fc_greatestAt))] H_36 := hP1
              replace hD : va_D A [(lh, .inr (1, [.ref fh, l_ahead, .int l_isOld, l_isReached, l_mayThrow, .int v_20, .int v_35, .int v_22])), (fh, .inr (0, [.int f_isReached, f_least, f_greatest, f_sites, f_maybeNull, f_known, f_lanes, f_shortest, .ref fa_longest, .ref fa_leastAt, .ref fa_greatestAt])), (fa_longest, .inl (cI, 40, .inl fc_longest)), (fa_leastAt, .inl (cI, 480, .inl fc_leastAt)), (fa_greatestAt, .inl (cI, 480, .inl fc_greatestAt))] := hD1
              replace hS := hS1
              clear hP1 hD1 hS1
              refine lv_aload_n hx hb dX1_gather_119 rfl (lv_at hl 4 rfl) ?_
              refine lv_aload_n hx hb dX1_gather_120 rfl (lv_at hl 4 rfl) ?_
              refine va_get (D := (dC, dI)) (ci := 1) (v := .int v_20) (C := RX1) (T := TX1) (N := 8) hx hb hts inv_X1_gather_X1 hown hK hP 0 rfl rfl 5 (by decide) (hts (.fieldLink RX1 33 "ArraySegments$Flow" "gatheredAny" "Z") (List.mem_of_getElem? (i := 1) rfl)) (fun _ h9 => h9) rfl dX1_gather_121 ?_
              refine my_join (S := Int32) (fun u => True) (fun u => [(lh, .inr (1, [.ref fh, l_ahead, .int l_isOld, l_isReached, l_mayThrow, .int v_20, .int v_35, .int v_22])), (fh, .inr (0, [.int f_isReached, f_least, f_greatest, f_sites, f_maybeNull, f_known, f_lanes, f_shortest, .ref fa_longest, .ref fa_leastAt, .ref fa_greatestAt])), (fa_longest, .inl (cI, 40, .inl fc_longest)), (fa_leastAt, .inl (cI, 480, .inl fc_leastAt)), (fa_greatestAt, .inl (cI, 480, .inl fc_greatestAt))]) (fun u => [(9, .int v_32), (8, .int v_29), (7, .int v_19), (6, .int v_3), (0, .ref lh), (1, .long ala), (3, .int fa), (4, .long ba)]) (fun u => [.int (u), .ref lh]) (nL := 10) (H0 := s.heap) (A := A) (D := (dC, dI)) (cl := vwCl) 141 (fun u_38 hu_38 H_38 locs_38 ls1 hP1 hD1 hS1 hl1 => ?_) (fun jn_38 => ?_)
              · -- behind 141
                obtain ⟨v_39, rfl⟩ : ∃ z, z = u_38 := ⟨_, rfl⟩
                replace hP : va_P (dC, dI) vwCl [(lh, .inr (1, [.ref fh, l_ahead, .int l_isOld, l_isReached, l_mayThrow, .int v_20, .int v_35, .int v_22])), (fh, .inr (0, [.int f_isReached, f_least, f_greatest, f_sites, f_maybeNull, f_known, f_lanes, f_shortest, .ref fa_longest, .ref fa_leastAt, .ref fa_greatestAt])), (fa_longest, .inl (cI, 40, .inl fc_longest)), (fa_leastAt, .inl (cI, 480, .inl fc_leastAt)), (fa_greatestAt, .inl (cI, 480, .inl fc_greatestAt))] H_38 := hP1
                replace hD : va_D A [(lh, .inr (1, [.ref fh, l_ahead, .int l_isOld, l_isReached, l_mayThrow, .int v_20, .int v_35, .int v_22])), (fh, .inr (0, [.int f_isReached, f_least, f_greatest, f_sites, f_maybeNull, f_known, f_lanes, f_shortest, .ref fa_longest, .ref fa_leastAt, .ref fa_greatestAt])), (fa_longest, .inl (cI, 40, .inl fc_longest)), (fa_leastAt, .inl (cI, 480, .inl fc_leastAt)), (fa_greatestAt, .inl (cI, 480, .inl fc_greatestAt))] := hD1
                replace hS := hS1
                clear hP1 hD1 hS1
                replace hl : lv_has ls1 10 [(9, .int v_32), (8, .int v_29), (7, .int v_19), (6, .int v_3), (0, .ref lh), (1, .long ala), (3, .int fa), (4, .long ba)] := hl1
                clear hl1
                refine va_put (D := (dC, dI)) (ci := 1) (v := .int v_39) (ty := .int) (C := RX1) (T := TX1) (N := 8) hx hb hts inv_X1_gather_X1 tyX1 tyX1_ok nmX1 hown hK hP hD hS 0 rfl rfl 7 (by decide) (hts (.fieldLink RX1 40 "ArraySegments$Flow" "gatheredGreatest" "I") (List.mem_of_getElem? (i := 13) rfl)) (fun _ h9 => h9) rfl (by decide +kernel) rfl rfl (Nat.le_of_ble_eq_true rfl) dX1_gather_141 (fun H_40 locs_40 hP1 hD1 hS1 => ?_)
                replace hP : va_P (dC, dI) vwCl [(lh, .inr (1, [.ref fh, l_ahead, .int l_isOld, l_isReached, l_mayThrow, .int v_20, .int v_35, .int v_39])), (fh, .inr (0, [.int f_isReached, f_least, f_greatest, f_sites, f_maybeNull, f_known, f_lanes, f_shortest, .ref fa_longest, .ref fa_leastAt, .ref fa_greatestAt])), (fa_longest, .inl (cI, 40, .inl fc_longest)), (fa_leastAt, .inl (cI, 480, .inl fc_leastAt)), (fa_greatestAt, .inl (cI, 480, .inl fc_greatestAt))] H_40 := hP1
                replace hD : va_D A [(lh, .inr (1, [.ref fh, l_ahead, .int l_isOld, l_isReached, l_mayThrow, .int v_20, .int v_35, .int v_39])), (fh, .inr (0, [.int f_isReached, f_least, f_greatest, f_sites, f_maybeNull, f_known, f_lanes, f_shortest, .ref fa_longest, .ref fa_leastAt, .ref fa_greatestAt])), (fa_longest, .inl (cI, 40, .inl fc_longest)), (fa_leastAt, .inl (cI, 480, .inl fc_leastAt)), (fa_greatestAt, .inl (cI, 480, .inl fc_greatestAt))] := hD1
                replace hS := hS1
                clear hP1 hD1 hS1
                refine lv_aload_n hx hb dX1_gather_144 rfl (lv_at hl 4 rfl) ?_
                refine lv_iconst (v := 1) hx hb dX1_gather_145 (by decide) ?_
                refine va_put (D := (dC, dI)) (ci := 1) (v := .int 1) (ty := .boolean) (C := RX1) (T := TX1) (N := 8) hx hb hts inv_X1_gather_X1 tyX1 tyX1_ok nmX1 hown hK hP hD hS 0 rfl rfl 5 (by decide) (hts (.fieldLink RX1 33 "ArraySegments$Flow" "gatheredAny" "Z") (List.mem_of_getElem? (i := 1) rfl)) (fun _ h9 => h9) rfl (by decide +kernel) rfl rfl (Nat.le_of_ble_eq_true rfl) dX1_gather_146 (fun H_41 locs_41 hP1 hD1 hS1 => ?_)
                replace hP : va_P (dC, dI) vwCl [(lh, .inr (1, [.ref fh, l_ahead, .int l_isOld, l_isReached, l_mayThrow, .int 1, .int v_35, .int v_39])), (fh, .inr (0, [.int f_isReached, f_least, f_greatest, f_sites, f_maybeNull, f_known, f_lanes, f_shortest, .ref fa_longest, .ref fa_leastAt, .ref fa_greatestAt])), (fa_longest, .inl (cI, 40, .inl fc_longest)), (fa_leastAt, .inl (cI, 480, .inl fc_leastAt)), (fa_greatestAt, .inl (cI, 480, .inl fc_greatestAt))] H_41 := hP1
                replace hD : va_D A [(lh, .inr (1, [.ref fh, l_ahead, .int l_isOld, l_isReached, l_mayThrow, .int 1, .int v_35, .int v_39])), (fh, .inr (0, [.int f_isReached, f_least, f_greatest, f_sites, f_maybeNull, f_known, f_lanes, f_shortest, .ref fa_longest, .ref fa_leastAt, .ref fa_greatestAt])), (fa_longest, .inl (cI, 40, .inl fc_longest)), (fa_leastAt, .inl (cI, 480, .inl fc_leastAt)), (fa_greatestAt, .inl (cI, 480, .inl fc_greatestAt))] := hD1
                replace hS := hS1
                clear hP1 hD1 hS1
                refine sf_iinc hx hb dX1_gather_149 hl (k := 2) (x := v_19) (w := 1) rfl (by decide) (by decide) ⟨by omega, by omega⟩ (fun v_42 q_v_42 ls1 hl1 => ?_)
                replace hl : lv_has ls1 10 [(7, .int v_42), (9, .int v_32), (8, .int v_29), (6, .int v_3), (0, .ref lh), (1, .long ala), (3, .int fa), (4, .long ba)] := hl1
                clear hl1
                refine lv_goto (tgt := 34) hx hb dX1_gather_152 (by decide) ?_
                exact ih_18 (v_42, (1 : Int32), v_35, v_39) (show (0 ≤ v_42.toInt) ∧ (kZ (1 : Int32)) from ⟨(by omega), (by decide)⟩) (by show (12 - v_42.toInt).toNat < (12 - v_19.toInt).toNat; omega) _ _ _ (hP.sub [0, 1, 2, 3, 4] rfl) (hD.sub [0, 1, 2, 3, 4] (by decide) rfl) hS (lv_sub hl [0, 3, 4, 5, 6, 7] rfl)
              · -- ahead of 141
                refine lv_if_eq (tgt := 139) hx hb dX1_gather_124 (by decide) (fun c_43 => ?_) (fun c_43 => ?_)
                · -- yes
                  have k_43 : v_20.toInt = (0 : Int32).toInt := ci_eq c_43
                  refine lv_iload hx hb dX1_gather_139 (lv_at hl 0 rfl) ?_
                  exact jn_38 v_32 (show True from trivial) _ _ _ (hP.sub [0, 1, 2, 3, 4] rfl) (hD.sub [0, 1, 2, 3, 4] (by decide) rfl) hS (lv_sub hl [0, 1, 2, 3, 4, 5, 6, 7] rfl)
                · -- no
                  have k_43 : ¬ v_20.toInt = (0 : Int32).toInt := ci_ne c_43
                  refine lv_aload_n hx hb dX1_gather_127 rfl (lv_at hl 4 rfl) ?_
                  refine va_get (D := (dC, dI)) (ci := 1) (v := .int v_22) (C := RX1) (T := TX1) (N := 8) hx hb hts inv_X1_gather_X1 hown hK hP 0 rfl rfl 7 (by decide) (hts (.fieldLink RX1 40 "ArraySegments$Flow" "gatheredGreatest" "I") (List.mem_of_getElem? (i := 13) rfl)) (fun _ h9 => h9) rfl dX1_gather_128 ?_
                  refine lv_iload hx hb dX1_gather_131 (lv_at hl 0 rfl) ?_
                  have ir_45 := i32r v_22
                  have ir_46 := i32r v_32
                  refine sf_mmax hx hb (by rw [hml]; exact hl.1.symm) hown (hts (.methodLink RX1 243 Lib.Math.max.name) (List.mem_of_getElem? (i := 4) rfl)) (hts (.static Lib.Math.max.name) (List.mem_of_getElem? (i := 5) rfl)) (hts (.initialized "java/lang/Math") (List.mem_of_getElem? (i := 6) rfl)) (hts (.code Lib.Math.max.name Lib.Math.max.code 2 (some .int)) (List.mem_of_getElem? (i := 7) rfl)) (Nat.le_of_ble_eq_true rfl) (Nat.le_of_ble_eq_true rfl) (Nat.le_of_ble_eq_true rfl) (Nat.le_of_ble_eq_true rfl) dX1_gather_133 (fun v_44 q_v_44 => ?_)
                  refine lv_goto (tgt := 141) hx hb dX1_gather_136 (by decide) ?_
                  exact jn_38 v_44 (show True from trivial) _ _ _ (hP.sub [0, 1, 2, 3, 4] rfl) (hD.sub [0, 1, 2, 3, 4] (by decide) rfl) hS (lv_sub hl [0, 1, 2, 3, 4, 5, 6, 7] rfl)
            · -- ahead of 116
              refine lv_if_eq (tgt := 114) hx hb dX1_gather_99 (by decide) (fun c_47 => ?_) (fun c_47 => ?_)
              · -- yes
                have k_47 : v_20.toInt = (0 : Int32).toInt := ci_eq c_47
                refine lv_iload hx hb dX1_gather_114 (lv_at hl 1 rfl) ?_
                exact jn_34 v_29 (show True from trivial) _ _ _ (hP.sub [0, 1, 2, 3, 4] rfl) (hD.sub [0, 1, 2, 3, 4] (by decide) rfl) hS (lv_sub hl [0, 1, 2, 3, 4, 5, 6, 7] rfl)
              · -- no
                have k_47 : ¬ v_20.toInt = (0 : Int32).toInt := ci_ne c_47
                refine lv_aload_n hx hb dX1_gather_102 rfl (lv_at hl 4 rfl) ?_
                refine va_get (D := (dC, dI)) (ci := 1) (v := .int v_21) (C := RX1) (T := TX1) (N := 8) hx hb hts inv_X1_gather_X1 hown hK hP 0 rfl rfl 6 (by decide) (hts (.fieldLink RX1 36 "ArraySegments$Flow" "gatheredLeast" "I") (List.mem_of_getElem? (i := 12) rfl)) (fun _ h9 => h9) rfl dX1_gather_103 ?_
                refine lv_iload hx hb dX1_gather_106 (lv_at hl 1 rfl) ?_
                have ir_49 := i32r v_21
                have ir_50 := i32r v_29
                refine sf_mmin hx hb (by rw [hml]; exact hl.1.symm) hown (hts (.methodLink RX1 166 Lib.Math.min.name) (List.mem_of_getElem? (i := 14) rfl)) (hts (.static Lib.Math.min.name) (List.mem_of_getElem? (i := 15) rfl)) (hts (.initialized "java/lang/Math") (List.mem_of_getElem? (i := 6) rfl)) (hts (.code Lib.Math.min.name Lib.Math.min.code 2 (some .int)) (List.mem_of_getElem? (i := 16) rfl)) (Nat.le_of_ble_eq_true rfl) (Nat.le_of_ble_eq_true rfl) (Nat.le_of_ble_eq_true rfl) (Nat.le_of_ble_eq_true rfl) dX1_gather_108 (fun v_48 q_v_48 => ?_)
                refine lv_goto (tgt := 116) hx hb dX1_gather_111 (by decide) ?_
                exact jn_34 v_48 (show True from trivial) _ _ _ (hP.sub [0, 1, 2, 3, 4] rfl) (hD.sub [0, 1, 2, 3, 4] (by decide) rfl) hS (lv_sub hl [0, 1, 2, 3, 4, 5, 6, 7] rfl)
      · -- no
        have k_15 : r_8.toInt = (0 : Int32).toInt := ci_eq c_15
        refine lv_goto (tgt := 155) hx hb dX1_gather_24 (by decide) ?_
        exact jn_10 (v_4, v_5, v_6) (show (kZ v_4) from q_v_4) _ _ _ (hP.sub [0, 1, 2, 3, 4] rfl) (hD.sub [0, 1, 2, 3, 4] (by decide) rfl) hS (lv_sub hl [0, 1, 2, 3, 4] rfl)

def v_X1_countReached : List Cond := .code yX1_countReached cX1_countReached 3 (some .int) :: ([.fieldLink RX1 25 "ArraySegments$Flow" "isReached" "[Z"] ++ (wsX10))
theorem inv_X1_countReached_X1 : ∀ w ∈ wsX10, w ∈ v_X1_countReached := fun _ h => List.mem_cons_of_mem _ (List.mem_append_right _ (h))
set_option maxRecDepth 20000 in
theorem gd_X1_countReached : gdL v_X1_countReached := gdC (gdW (by decide +kernel)) (gdA (gdW (by decide +kernel)) gd_wsX10)
abbrev sw_X1_countReached (cI cJ cZ : ClassId) (lh : Nat) (fh : Nat) (l_ahead : Value) (l_isOld : Int32) (la_isReached : Nat) (l_mayThrow : Value) (l_gatheredAny : Int32) (l_gatheredLeast : Int32) (l_gatheredGreatest : Int32) (lc_isReached : Nat → Int32) : va_W := [(lh, .inr (1, [.ref fh, l_ahead, .int l_isOld, .ref la_isReached, l_mayThrow, .int l_gatheredAny, .int l_gatheredLeast, .int l_gatheredGreatest])), (la_isReached, .inl (cZ, 40, .inl lc_isReached))]
set_option maxHeartbeats 8000000 in
set_option maxRecDepth 100000 in
theorem s_X1_countReached (l : Launch) (dC : Nat → ClassId) (dI : Nat → Nat → Nat) (cI cJ cZ : ClassId) (lh : Nat) (fh : Nat) (l_ahead : Value) (l_isOld : Int32) (la_isReached : Nat) (l_mayThrow : Value) (l_gatheredAny : Int32) (l_gatheredLeast : Int32) (l_gatheredGreatest : Int32) (lc_isReached : Nat → Int32) (sz : Nat) (q_l_isOld : kZ l_isOld) (q_l_gatheredAny : kZ l_gatheredAny) (h_lc_isReached : ∀ j : Nat, kZ (lc_isReached j)) : Met l yX1_countReached v_X1_countReached ({ frames := 0, cells := 0, slots := 0, locals := 0 }) (va_Pc [.ref lh] (cPre dC dI cI cJ cZ sz (sw_X1_countReached cI cJ cZ lh fh l_ahead l_isOld la_isReached l_mayThrow l_gatheredAny l_gatheredLeast l_gatheredGreatest lc_isReached))) (va_Qi (fun (r : Int32) (u : Unit) => True) (fun (u : Unit) => cPost dC dI cI cJ cZ (va_A (sw_X1_countReached cI cJ cZ lh fh l_ahead l_isOld la_isReached l_mayThrow l_gatheredAny l_gatheredLeast l_gatheredGreatest lc_isReached) sz) [(lh, .inr (1, [.ref fh, l_ahead, .int l_isOld, .ref la_isReached, l_mayThrow, .int l_gatheredAny, .int l_gatheredLeast, .int l_gatheredGreatest])), (la_isReached, .inl (cZ, 40, .inl lc_isReached))]) (va_A (sw_X1_countReached cI cJ cZ lh fh l_ahead l_isOld la_isReached l_mayThrow l_gatheredAny l_gatheredLeast l_gatheredGreatest lc_isReached) sz)) 0 0 (va_A (sw_X1_countReached cI cJ cZ lh fh l_ahead l_isOld la_isReached l_mayThrow l_gatheredAny l_gatheredLeast l_gatheredGreatest lc_isReached) sz) := by
  refine Met.ofW (cc := cX1_countReached) (maxL := 3) (ret := (some .int)) (by decide) rfl ?_
  intro p e s m args below meth c s₁ B hml hv
  obtain ⟨rfl, hsz, hP, hK, hD0, hN⟩ := hv
  have hx := B.exec
  have hb := B.bytes
  have hr := B.returns
  have hts := atoms_spec (ws := v_X1_countReached) B.pre
  have hown : s.vm.findClass RX1 = some m.cls := findClass_of_methodNamed B.named
  have hlocks := B.notSynchronized
  subst hsz
  have hD := hD0.self (sz := s.heap.size)
  generalize hAe : va_A (sw_X1_countReached cI cJ cZ lh fh l_ahead l_isOld la_isReached l_mayThrow l_gatheredAny l_gatheredLeast l_gatheredGreatest lc_isReached) s.heap.size = A at hD ⊢
  have hA : ∀ q : Nat, s.heap.size ≤ q → A q := fun q h => by rw [← hAe]; exact Or.inr h
  clear hAe hD0
  have hS : va_S A s.heap s.heap [] := va_S.rf
  replace hP : va_P (dC, dI) vwCl [(lh, .inr (1, [.ref fh, l_ahead, .int l_isOld, .ref la_isReached, l_mayThrow, .int l_gatheredAny, .int l_gatheredLeast, .int l_gatheredGreatest])), (la_isReached, .inl (cZ, 40, .inl lc_isReached))] s.heap := hP
  replace hD : va_D A [(lh, .inr (1, [.ref fh, l_ahead, .int l_isOld, .ref la_isReached, l_mayThrow, .int l_gatheredAny, .int l_gatheredLeast, .int l_gatheredGreatest])), (la_isReached, .inl (cZ, 40, .inl lc_isReached))] := hD
  have hl := lv_entry ([.ref lh]) (n := 3) (Nat.le_of_ble_eq_true rfl)
  rw [lg_entry_eq]
  generalize (lg_sl ([.ref lh]) ++ List.replicate (3 - (lg_sl ([.ref lh])).length) Slot.unset).toArray = ls at hl ⊢
  replace hl : lv_has ls 3 [(0, .ref lh)] := hl
  have z_0 : (0 : Int32).toInt = 0 := by decide
  have z_1 : (1 : Int32).toInt = 1 := by decide
  have z_40 : (40 : Int32).toInt = 40 := by decide
  refine lv_iconst (v := 0) hx hb dX1_countReached_0 (by decide) ?_
  refine lv_istore_n (lv' := [(1, .int 0), (0, .ref lh)]) hx hb dX1_countReached_1 rfl hl (by decide) rfl (fun ls1 hl1 => ?_)
  replace hl := hl1; clear hl1
  refine lv_iconst (v := 0) hx hb dX1_countReached_2 (by decide) ?_
  refine lv_istore_n (lv' := [(2, .int 0), (1, .int 0), (0, .ref lh)]) hx hb dX1_countReached_3 rfl hl (by decide) rfl (fun ls1 hl1 => ?_)
  replace hl := hl1; clear hl1
  refine my_wloop (S := Int32 × Int32) (fun u => (0 ≤ (u.1).toInt ∧ (u.1).toInt ≤ 40)) (fun u => (40 - (u.1).toInt).toNat) (fun u => [(lh, .inr (1, [.ref fh, l_ahead, .int l_isOld, .ref la_isReached, l_mayThrow, .int l_gatheredAny, .int l_gatheredLeast, .int l_gatheredGreatest])), (la_isReached, .inl (cZ, 40, .inl lc_isReached))]) (fun u => [(2, .int (u.1)), (1, .int (u.2)), (0, .ref lh)]) (H0 := s.heap) (A := A) (D := (dC, dI)) (cl := vwCl) ((0 : Int32), (0 : Int32)) (show (0 ≤ (0 : Int32).toInt ∧ (0 : Int32).toInt ≤ 40) from ⟨by omega, by omega⟩) (by exact hP) (by exact hD) hS (by exact hl) (fun u_1 hu_1 ih_1 H_1 locs_1 ls1 hP1 hD1 hS1 hl1 => ?_)
  obtain ⟨v_2, v_3⟩ := u_1
  replace hu_1 : (0 ≤ v_2.toInt ∧ v_2.toInt ≤ 40) := hu_1
  have q_v_2 := hu_1
  replace hP : va_P (dC, dI) vwCl [(lh, .inr (1, [.ref fh, l_ahead, .int l_isOld, .ref la_isReached, l_mayThrow, .int l_gatheredAny, .int l_gatheredLeast, .int l_gatheredGreatest])), (la_isReached, .inl (cZ, 40, .inl lc_isReached))] H_1 := hP1
  replace hD : va_D A [(lh, .inr (1, [.ref fh, l_ahead, .int l_isOld, .ref la_isReached, l_mayThrow, .int l_gatheredAny, .int l_gatheredLeast, .int l_gatheredGreatest])), (la_isReached, .inl (cZ, 40, .inl lc_isReached))] := hD1
  replace hS := hS1
  clear hP1 hD1 hS1
  replace hl : lv_has ls1 3 [(2, .int v_2), (1, .int v_3), (0, .ref lh)] := hl1
  clear hl1
  refine lv_iload_n hx hb dX1_countReached_4 rfl (lv_at hl 0 rfl) ?_
  refine lv_bipush (v := 40) hx hb dX1_countReached_5 (by decide) ?_
  refine lv_icmp_ge (tgt := 28) hx hb dX1_countReached_7 (by decide) (fun c_4 => ?_) (fun c_4 => ?_)
  · -- yes
    have k_4 : (40 : Int32).toInt ≤ v_2.toInt := ci_ge c_4
    refine lv_iload_n hx hb dX1_countReached_28 rfl (lv_at hl 1 rfl) ?_
    have hP9 := hP.sub (ws' := [(lh, .inr (1, [.ref fh, l_ahead, .int l_isOld, .ref la_isReached, l_mayThrow, .int l_gatheredAny, .int l_gatheredLeast, .int l_gatheredGreatest])), (la_isReached, .inl (cZ, 40, .inl lc_isReached))]) [0, 1] rfl
    have hD9 := hD.sub (ws' := [(lh, .inr (1, [.ref fh, l_ahead, .int l_isOld, .ref la_isReached, l_mayThrow, .int l_gatheredAny, .int l_gatheredLeast, .int l_gatheredGreatest])), (la_isReached, .inl (cZ, 40, .inl lc_isReached))]) [0, 1] (by decide) rfl
    exact W.iret (v := v_3) hx hb hr (fun t ht hW => ⟨⟨v_3, (), rfl, trivial, by rw [ht]; exact hP9, va_K.moved hW.alike hK, hD9⟩, hS.F ht⟩) hS.2.2 dX1_countReached_29
  · -- no
    have k_4 : v_2.toInt < (40 : Int32).toInt := ci_nge c_4
    refine lv_aload_n hx hb dX1_countReached_10 rfl (lv_at hl 2 rfl) ?_
    refine va_get (D := (dC, dI)) (ci := 1) (v := .ref la_isReached) (C := RX1) (T := TX1) (N := 8) hx hb hts inv_X1_countReached_X1 hown hK hP 0 rfl rfl 3 (by decide) (hts (.fieldLink RX1 25 "ArraySegments$Flow" "isReached" "[Z") (List.mem_of_getElem? (i := 1) rfl)) (fun _ h9 => h9) rfl dX1_countReached_11 ?_
    refine lv_iload_n hx hb dX1_countReached_14 rfl (lv_at hl 0 rfl) ?_
    refine sf_zald kZ hx hb hK hP 1 2 rfl rfl h_lc_isReached (vp_in_iff.mpr ⟨by omega, by omega⟩) dX1_countReached_15 (fun v_5 q_v_5 e_v_5 => ?_)
    refine my_join (S := Int32) (fun u => True) (fun u => [(lh, .inr (1, [.ref fh, l_ahead, .int l_isOld, .ref la_isReached, l_mayThrow, .int l_gatheredAny, .int l_gatheredLeast, .int l_gatheredGreatest])), (la_isReached, .inl (cZ, 40, .inl lc_isReached))]) (fun u => [(2, .int v_2), (1, .int (u)), (0, .ref lh)]) (fun u => []) (nL := 3) (H0 := s.heap) (A := A) (D := (dC, dI)) (cl := vwCl) 22 (fun u_7 hu_7 H_7 locs_7 ls1 hP1 hD1 hS1 hl1 => ?_) (fun jn_7 => ?_)
    · -- behind 22
      obtain ⟨v_8, rfl⟩ : ∃ z, z = u_7 := ⟨_, rfl⟩
      replace hP : va_P (dC, dI) vwCl [(lh, .inr (1, [.ref fh, l_ahead, .int l_isOld, .ref la_isReached, l_mayThrow, .int l_gatheredAny, .int l_gatheredLeast, .int l_gatheredGreatest])), (la_isReached, .inl (cZ, 40, .inl lc_isReached))] H_7 := hP1
      replace hD : va_D A [(lh, .inr (1, [.ref fh, l_ahead, .int l_isOld, .ref la_isReached, l_mayThrow, .int l_gatheredAny, .int l_gatheredLeast, .int l_gatheredGreatest])), (la_isReached, .inl (cZ, 40, .inl lc_isReached))] := hD1
      replace hS := hS1
      clear hP1 hD1 hS1
      replace hl : lv_has ls1 3 [(2, .int v_2), (1, .int v_8), (0, .ref lh)] := hl1
      clear hl1
      refine sf_iinc hx hb dX1_countReached_22 hl (k := 0) (x := v_2) (w := 1) rfl (by decide) (by decide) ⟨by omega, by omega⟩ (fun v_9 q_v_9 ls1 hl1 => ?_)
      replace hl : lv_has ls1 3 [(2, .int v_9), (1, .int v_8), (0, .ref lh)] := hl1
      clear hl1
      refine lv_goto (tgt := 4) hx hb dX1_countReached_25 (by decide) ?_
      exact ih_1 (v_9, v_8) (show (0 ≤ v_9.toInt ∧ v_9.toInt ≤ 40) from ⟨by omega, by omega⟩) (by show (40 - v_9.toInt).toNat < (40 - v_2.toInt).toNat; omega) _ _ _ (hP.sub [0, 1] rfl) (hD.sub [0, 1] (by decide) rfl) hS (lv_sub hl [0, 1, 2] rfl)
    · -- ahead of 22
      refine lv_if_eq (tgt := 22) hx hb dX1_countReached_16 (by decide) (fun c_10 => ?_) (fun c_10 => ?_)
      · -- yes
        have k_10 : v_5.toInt = (0 : Int32).toInt := ci_eq c_10
        exact jn_7 v_3 (show True from trivial) _ _ _ (hP.sub [0, 1] rfl) (hD.sub [0, 1] (by decide) rfl) hS (lv_sub hl [0, 1, 2] rfl)
      · -- no
        have k_10 : ¬ v_5.toInt = (0 : Int32).toInt := ci_ne c_10
        refine sf_iincA hx hb dX1_countReached_19 hl (k := 1) (x := v_3) rfl (by decide) (fun v_11 ls1 hl1 => ?_)
        replace hl : lv_has ls1 3 [(1, .int v_11), (2, .int v_2), (0, .ref lh)] := hl1
        clear hl1
        exact jn_7 v_11 (show True from trivial) _ _ _ (hP.sub [0, 1] rfl) (hD.sub [0, 1] (by decide) rfl) hS (lv_sub hl [1, 0, 2] rfl)

def v_X1_countThrowing : List Cond := .code yX1_countThrowing cX1_countThrowing 3 (some .int) :: ([.fieldLink RX1 29 "ArraySegments$Flow" "mayThrow" "[I"] ++ (wsX10))
theorem inv_X1_countThrowing_X1 : ∀ w ∈ wsX10, w ∈ v_X1_countThrowing := fun _ h => List.mem_cons_of_mem _ (List.mem_append_right _ (h))
set_option maxRecDepth 20000 in
theorem gd_X1_countThrowing : gdL v_X1_countThrowing := gdC (gdW (by decide +kernel)) (gdA (gdW (by decide +kernel)) gd_wsX10)
abbrev sw_X1_countThrowing (cI cJ cZ : ClassId) (lh : Nat) (fh : Nat) (l_ahead : Value) (l_isOld : Int32) (l_isReached : Value) (la_mayThrow : Nat) (l_gatheredAny : Int32) (l_gatheredLeast : Int32) (l_gatheredGreatest : Int32) (lc_mayThrow : Nat → Int32) : va_W := [(lh, .inr (1, [.ref fh, l_ahead, .int l_isOld, l_isReached, .ref la_mayThrow, .int l_gatheredAny, .int l_gatheredLeast, .int l_gatheredGreatest])), (la_mayThrow, .inl (cI, 40, .inl lc_mayThrow))]
set_option maxHeartbeats 8000000 in
set_option maxRecDepth 100000 in
theorem s_X1_countThrowing (l : Launch) (dC : Nat → ClassId) (dI : Nat → Nat → Nat) (cI cJ cZ : ClassId) (lh : Nat) (fh : Nat) (l_ahead : Value) (l_isOld : Int32) (l_isReached : Value) (la_mayThrow : Nat) (l_gatheredAny : Int32) (l_gatheredLeast : Int32) (l_gatheredGreatest : Int32) (lc_mayThrow : Nat → Int32) (sz : Nat) (q_l_isOld : kZ l_isOld) (q_l_gatheredAny : kZ l_gatheredAny) : Met l yX1_countThrowing v_X1_countThrowing ({ frames := 0, cells := 0, slots := 0, locals := 0 }) (va_Pc [.ref lh] (cPre dC dI cI cJ cZ sz (sw_X1_countThrowing cI cJ cZ lh fh l_ahead l_isOld l_isReached la_mayThrow l_gatheredAny l_gatheredLeast l_gatheredGreatest lc_mayThrow))) (va_Qi (fun (r : Int32) (u : Unit) => True) (fun (u : Unit) => cPost dC dI cI cJ cZ (va_A (sw_X1_countThrowing cI cJ cZ lh fh l_ahead l_isOld l_isReached la_mayThrow l_gatheredAny l_gatheredLeast l_gatheredGreatest lc_mayThrow) sz) [(lh, .inr (1, [.ref fh, l_ahead, .int l_isOld, l_isReached, .ref la_mayThrow, .int l_gatheredAny, .int l_gatheredLeast, .int l_gatheredGreatest])), (la_mayThrow, .inl (cI, 40, .inl lc_mayThrow))]) (va_A (sw_X1_countThrowing cI cJ cZ lh fh l_ahead l_isOld l_isReached la_mayThrow l_gatheredAny l_gatheredLeast l_gatheredGreatest lc_mayThrow) sz)) 0 0 (va_A (sw_X1_countThrowing cI cJ cZ lh fh l_ahead l_isOld l_isReached la_mayThrow l_gatheredAny l_gatheredLeast l_gatheredGreatest lc_mayThrow) sz) := by
  refine Met.ofW (cc := cX1_countThrowing) (maxL := 3) (ret := (some .int)) (by decide) rfl ?_
  intro p e s m args below meth c s₁ B hml hv
  obtain ⟨rfl, hsz, hP, hK, hD0, hN⟩ := hv
  have hx := B.exec
  have hb := B.bytes
  have hr := B.returns
  have hts := atoms_spec (ws := v_X1_countThrowing) B.pre
  have hown : s.vm.findClass RX1 = some m.cls := findClass_of_methodNamed B.named
  have hlocks := B.notSynchronized
  subst hsz
  have hD := hD0.self (sz := s.heap.size)
  generalize hAe : va_A (sw_X1_countThrowing cI cJ cZ lh fh l_ahead l_isOld l_isReached la_mayThrow l_gatheredAny l_gatheredLeast l_gatheredGreatest lc_mayThrow) s.heap.size = A at hD ⊢
  have hA : ∀ q : Nat, s.heap.size ≤ q → A q := fun q h => by rw [← hAe]; exact Or.inr h
  clear hAe hD0
  have hS : va_S A s.heap s.heap [] := va_S.rf
  replace hP : va_P (dC, dI) vwCl [(lh, .inr (1, [.ref fh, l_ahead, .int l_isOld, l_isReached, .ref la_mayThrow, .int l_gatheredAny, .int l_gatheredLeast, .int l_gatheredGreatest])), (la_mayThrow, .inl (cI, 40, .inl lc_mayThrow))] s.heap := hP
  replace hD : va_D A [(lh, .inr (1, [.ref fh, l_ahead, .int l_isOld, l_isReached, .ref la_mayThrow, .int l_gatheredAny, .int l_gatheredLeast, .int l_gatheredGreatest])), (la_mayThrow, .inl (cI, 40, .inl lc_mayThrow))] := hD
  have hl := lv_entry ([.ref lh]) (n := 3) (Nat.le_of_ble_eq_true rfl)
  rw [lg_entry_eq]
  generalize (lg_sl ([.ref lh]) ++ List.replicate (3 - (lg_sl ([.ref lh])).length) Slot.unset).toArray = ls at hl ⊢
  replace hl : lv_has ls 3 [(0, .ref lh)] := hl
  have z_0 : (0 : Int32).toInt = 0 := by decide
  have z_1 : (1 : Int32).toInt = 1 := by decide
  have z_40 : (40 : Int32).toInt = 40 := by decide
  refine lv_iconst (v := 0) hx hb dX1_countThrowing_0 (by decide) ?_
  refine lv_istore_n (lv' := [(1, .int 0), (0, .ref lh)]) hx hb dX1_countThrowing_1 rfl hl (by decide) rfl (fun ls1 hl1 => ?_)
  replace hl := hl1; clear hl1
  refine lv_iconst (v := 0) hx hb dX1_countThrowing_2 (by decide) ?_
  refine lv_istore_n (lv' := [(2, .int 0), (1, .int 0), (0, .ref lh)]) hx hb dX1_countThrowing_3 rfl hl (by decide) rfl (fun ls1 hl1 => ?_)
  replace hl := hl1; clear hl1
  refine my_wloop (S := Int32 × Int32) (fun u => (0 ≤ (u.1).toInt ∧ (u.1).toInt ≤ 40)) (fun u => (40 - (u.1).toInt).toNat) (fun u => [(lh, .inr (1, [.ref fh, l_ahead, .int l_isOld, l_isReached, .ref la_mayThrow, .int l_gatheredAny, .int l_gatheredLeast, .int l_gatheredGreatest])), (la_mayThrow, .inl (cI, 40, .inl lc_mayThrow))]) (fun u => [(2, .int (u.1)), (1, .int (u.2)), (0, .ref lh)]) (H0 := s.heap) (A := A) (D := (dC, dI)) (cl := vwCl) ((0 : Int32), (0 : Int32)) (show (0 ≤ (0 : Int32).toInt ∧ (0 : Int32).toInt ≤ 40) from ⟨by omega, by omega⟩) (by exact hP) (by exact hD) hS (by exact hl) (fun u_1 hu_1 ih_1 H_1 locs_1 ls1 hP1 hD1 hS1 hl1 => ?_)
  obtain ⟨v_2, v_3⟩ := u_1
  replace hu_1 : (0 ≤ v_2.toInt ∧ v_2.toInt ≤ 40) := hu_1
  have q_v_2 := hu_1
  replace hP : va_P (dC, dI) vwCl [(lh, .inr (1, [.ref fh, l_ahead, .int l_isOld, l_isReached, .ref la_mayThrow, .int l_gatheredAny, .int l_gatheredLeast, .int l_gatheredGreatest])), (la_mayThrow, .inl (cI, 40, .inl lc_mayThrow))] H_1 := hP1
  replace hD : va_D A [(lh, .inr (1, [.ref fh, l_ahead, .int l_isOld, l_isReached, .ref la_mayThrow, .int l_gatheredAny, .int l_gatheredLeast, .int l_gatheredGreatest])), (la_mayThrow, .inl (cI, 40, .inl lc_mayThrow))] := hD1
  replace hS := hS1
  clear hP1 hD1 hS1
  replace hl : lv_has ls1 3 [(2, .int v_2), (1, .int v_3), (0, .ref lh)] := hl1
  clear hl1
  refine lv_iload_n hx hb dX1_countThrowing_4 rfl (lv_at hl 0 rfl) ?_
  refine lv_bipush (v := 40) hx hb dX1_countThrowing_5 (by decide) ?_
  refine lv_icmp_ge (tgt := 28) hx hb dX1_countThrowing_7 (by decide) (fun c_4 => ?_) (fun c_4 => ?_)
  · -- yes
    have k_4 : (40 : Int32).toInt ≤ v_2.toInt := ci_ge c_4
    refine lv_iload_n hx hb dX1_countThrowing_28 rfl (lv_at hl 1 rfl) ?_
    have hP9 := hP.sub (ws' := [(lh, .inr (1, [.ref fh, l_ahead, .int l_isOld, l_isReached, .ref la_mayThrow, .int l_gatheredAny, .int l_gatheredLeast, .int l_gatheredGreatest])), (la_mayThrow, .inl (cI, 40, .inl lc_mayThrow))]) [0, 1] rfl
    have hD9 := hD.sub (ws' := [(lh, .inr (1, [.ref fh, l_ahead, .int l_isOld, l_isReached, .ref la_mayThrow, .int l_gatheredAny, .int l_gatheredLeast, .int l_gatheredGreatest])), (la_mayThrow, .inl (cI, 40, .inl lc_mayThrow))]) [0, 1] (by decide) rfl
    exact W.iret (v := v_3) hx hb hr (fun t ht hW => ⟨⟨v_3, (), rfl, trivial, by rw [ht]; exact hP9, va_K.moved hW.alike hK, hD9⟩, hS.F ht⟩) hS.2.2 dX1_countThrowing_29
  · -- no
    have k_4 : v_2.toInt < (40 : Int32).toInt := ci_nge c_4
    refine lv_aload_n hx hb dX1_countThrowing_10 rfl (lv_at hl 2 rfl) ?_
    refine va_get (D := (dC, dI)) (ci := 1) (v := .ref la_mayThrow) (C := RX1) (T := TX1) (N := 8) hx hb hts inv_X1_countThrowing_X1 hown hK hP 0 rfl rfl 4 (by decide) (hts (.fieldLink RX1 29 "ArraySegments$Flow" "mayThrow" "[I") (List.mem_of_getElem? (i := 1) rfl)) (fun _ h9 => h9) rfl dX1_countThrowing_11 ?_
    refine lv_iload_n hx hb dX1_countThrowing_14 rfl (lv_at hl 0 rfl) ?_
    refine sf_iald kT hx hb hK hP 1 0 rfl rfl (fun _ => trivial) (vp_in_iff.mpr ⟨by omega, by omega⟩) dX1_countThrowing_15 (fun v_5 q_v_5 e_v_5 => ?_)
    refine my_join (S := Int32) (fun u => True) (fun u => [(lh, .inr (1, [.ref fh, l_ahead, .int l_isOld, l_isReached, .ref la_mayThrow, .int l_gatheredAny, .int l_gatheredLeast, .int l_gatheredGreatest])), (la_mayThrow, .inl (cI, 40, .inl lc_mayThrow))]) (fun u => [(2, .int v_2), (1, .int (u)), (0, .ref lh)]) (fun u => []) (nL := 3) (H0 := s.heap) (A := A) (D := (dC, dI)) (cl := vwCl) 22 (fun u_7 hu_7 H_7 locs_7 ls1 hP1 hD1 hS1 hl1 => ?_) (fun jn_7 => ?_)
    · -- behind 22
      obtain ⟨v_8, rfl⟩ : ∃ z, z = u_7 := ⟨_, rfl⟩
      replace hP : va_P (dC, dI) vwCl [(lh, .inr (1, [.ref fh, l_ahead, .int l_isOld, l_isReached, .ref la_mayThrow, .int l_gatheredAny, .int l_gatheredLeast, .int l_gatheredGreatest])), (la_mayThrow, .inl (cI, 40, .inl lc_mayThrow))] H_7 := hP1
      replace hD : va_D A [(lh, .inr (1, [.ref fh, l_ahead, .int l_isOld, l_isReached, .ref la_mayThrow, .int l_gatheredAny, .int l_gatheredLeast, .int l_gatheredGreatest])), (la_mayThrow, .inl (cI, 40, .inl lc_mayThrow))] := hD1
      replace hS := hS1
      clear hP1 hD1 hS1
      replace hl : lv_has ls1 3 [(2, .int v_2), (1, .int v_8), (0, .ref lh)] := hl1
      clear hl1
      refine sf_iinc hx hb dX1_countThrowing_22 hl (k := 0) (x := v_2) (w := 1) rfl (by decide) (by decide) ⟨by omega, by omega⟩ (fun v_9 q_v_9 ls1 hl1 => ?_)
      replace hl : lv_has ls1 3 [(2, .int v_9), (1, .int v_8), (0, .ref lh)] := hl1
      clear hl1
      refine lv_goto (tgt := 4) hx hb dX1_countThrowing_25 (by decide) ?_
      exact ih_1 (v_9, v_8) (show (0 ≤ v_9.toInt ∧ v_9.toInt ≤ 40) from ⟨by omega, by omega⟩) (by show (40 - v_9.toInt).toNat < (40 - v_2.toInt).toNat; omega) _ _ _ (hP.sub [0, 1] rfl) (hD.sub [0, 1] (by decide) rfl) hS (lv_sub hl [0, 1, 2] rfl)
    · -- ahead of 22
      refine lv_if_eq (tgt := 22) hx hb dX1_countThrowing_16 (by decide) (fun c_10 => ?_) (fun c_10 => ?_)
      · -- yes
        have k_10 : v_5.toInt = (0 : Int32).toInt := ci_eq c_10
        exact jn_7 v_3 (show True from trivial) _ _ _ (hP.sub [0, 1] rfl) (hD.sub [0, 1] (by decide) rfl) hS (lv_sub hl [0, 1, 2] rfl)
      · -- no
        have k_10 : ¬ v_5.toInt = (0 : Int32).toInt := ci_ne c_10
        refine sf_iincA hx hb dX1_countThrowing_19 hl (k := 1) (x := v_3) rfl (by decide) (fun v_11 ls1 hl1 => ?_)
        replace hl : lv_has ls1 3 [(1, .int v_11), (2, .int v_2), (0, .ref lh)] := hl1
        clear hl1
        exact jn_7 v_11 (show True from trivial) _ _ _ (hP.sub [0, 1] rfl) (hD.sub [0, 1] (by decide) rfl) hS (lv_sub hl [1, 0, 2] rfl)
