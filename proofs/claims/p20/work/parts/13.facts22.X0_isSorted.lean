def v_X0_isSorted : List Cond := .code yX0_isSorted cX0_isSorted 3 (some .boolean) :: ([.fieldLink RX0 39 "ArraySegments$Facts" "longest" "[I", .fieldLink RX0 45 "ArraySegments$Facts" "greatestAt" "[I", .fieldLink RX0 42 "ArraySegments$Facts" "leastAt" "[I"] ++ (wsX00))
theorem inv_X0_isSorted_X0 : ∀ w ∈ wsX00, w ∈ v_X0_isSorted := fun _ h => List.mem_cons_of_mem _ (List.mem_append_right _ (h))
set_option maxRecDepth 20000 in
theorem gd_X0_isSorted : gdL v_X0_isSorted := gdC (gdW (by decide +kernel)) (gdA (gdW (by decide +kernel)) gd_wsX00)
abbrev sw_X0_isSorted (cI cJ cZ : ClassId) (fh : Nat) (f_isReached : Int32) (f_least : Value) (f_greatest : Value) (f_sites : Value) (f_maybeNull : Value) (f_known : Value) (f_lanes : Value) (f_shortest : Value) (fa_longest : Nat) (fa_leastAt : Nat) (fa_greatestAt : Nat) (fc_longest : Nat → Int32) (fc_leastAt : Nat → Int32) (fc_greatestAt : Nat → Int32) (ia : Int32) : va_W := [(fh, .inr (0, [.int f_isReached, f_least, f_greatest, f_sites, f_maybeNull, f_known, f_lanes, f_shortest, .ref fa_longest, .ref fa_leastAt, .ref fa_greatestAt])), (fa_longest, .inl (cI, 40, .inl fc_longest)), (fa_leastAt, .inl (cI, 480, .inl fc_leastAt)), (fa_greatestAt, .inl (cI, 480, .inl fc_greatestAt))]
set_option maxHeartbeats 8000000 in
set_option maxRecDepth 100000 in
theorem s_X0_isSorted (l : Launch) (dC : Nat → ClassId) (dI : Nat → Nat → Nat) (cI cJ cZ : ClassId) (fh : Nat) (f_isReached : Int32) (f_least : Value) (f_greatest : Value) (f_sites : Value) (f_maybeNull : Value) (f_known : Value) (f_lanes : Value) (f_shortest : Value) (fa_longest : Nat) (fa_leastAt : Nat) (fa_greatestAt : Nat) (fc_longest : Nat → Int32) (fc_leastAt : Nat → Int32) (fc_greatestAt : Nat → Int32) (ia : Int32) (sz : Nat) (q_f_isReached : kZ f_isReached) (h_fc_longest : ∀ j : Nat, kLE12 (fc_longest j)) (hy_ia : 0 ≤ ia.toInt ∧ ia.toInt ≤ 39) : Met l yX0_isSorted v_X0_isSorted ({ frames := 0, cells := 0, slots := 0, locals := 0 }) (va_Pc [.ref fh, .int ia] (cPre dC dI cI cJ cZ sz (sw_X0_isSorted cI cJ cZ fh f_isReached f_least f_greatest f_sites f_maybeNull f_known f_lanes f_shortest fa_longest fa_leastAt fa_greatestAt fc_longest fc_leastAt fc_greatestAt ia))) (va_Qi (fun (r : Int32) (u : Unit) => (kZ r)) (fun (u : Unit) => cPost dC dI cI cJ cZ (va_A (sw_X0_isSorted cI cJ cZ fh f_isReached f_least f_greatest f_sites f_maybeNull f_known f_lanes f_shortest fa_longest fa_leastAt fa_greatestAt fc_longest fc_leastAt fc_greatestAt ia) sz) [(fh, .inr (0, [.int f_isReached, f_least, f_greatest, f_sites, f_maybeNull, f_known, f_lanes, f_shortest, .ref fa_longest, .ref fa_leastAt, .ref fa_greatestAt])), (fa_longest, .inl (cI, 40, .inl fc_longest)), (fa_leastAt, .inl (cI, 480, .inl fc_leastAt)), (fa_greatestAt, .inl (cI, 480, .inl fc_greatestAt))]) (va_A (sw_X0_isSorted cI cJ cZ fh f_isReached f_least f_greatest f_sites f_maybeNull f_known f_lanes f_shortest fa_longest fa_leastAt fa_greatestAt fc_longest fc_leastAt fc_greatestAt ia) sz)) 0 0 (va_A (sw_X0_isSorted cI cJ cZ fh f_isReached f_least f_greatest f_sites f_maybeNull f_known f_lanes f_shortest fa_longest fa_leastAt fa_greatestAt fc_longest fc_leastAt fc_greatestAt ia) sz) := by
  refine Met.ofW (cc := cX0_isSorted) (maxL := 3) (ret := (some .boolean)) (by decide) rfl ?_
  intro p e s m args below meth c s₁ B hml hv
  obtain ⟨rfl, hsz, hP, hK, hD0, hN⟩ := hv
  have hx := B.exec
  have hb := B.bytes
  have hr := B.returns
  have hts := atoms_spec (ws := v_X0_isSorted) B.pre
  have hown : s.vm.findClass RX0 = some m.cls := findClass_of_methodNamed B.named
  have hlocks := B.notSynchronized
  subst hsz
  have hD := hD0.self (sz := s.heap.size)
  generalize hAe : va_A (sw_X0_isSorted cI cJ cZ fh f_isReached f_least f_greatest f_sites f_maybeNull f_known f_lanes f_shortest fa_longest fa_leastAt fa_greatestAt fc_longest fc_leastAt fc_greatestAt ia) s.heap.size = A at hD ⊢
  have hA : ∀ q : Nat, s.heap.size ≤ q → A q := fun q h => by rw [← hAe]; exact Or.inr h
  clear hAe hD0
  have hS : va_S A s.heap s.heap [] := va_S.rf
  replace hP : va_P (dC, dI) vwCl [(fh, .inr (0, [.int f_isReached, f_least, f_greatest, f_sites, f_maybeNull, f_known, f_lanes, f_shortest, .ref fa_longest, .ref fa_leastAt, .ref fa_greatestAt])), (fa_longest, .inl (cI, 40, .inl fc_longest)), (fa_leastAt, .inl (cI, 480, .inl fc_leastAt)), (fa_greatestAt, .inl (cI, 480, .inl fc_greatestAt))] s.heap := hP
  replace hD : va_D A [(fh, .inr (0, [.int f_isReached, f_least, f_greatest, f_sites, f_maybeNull, f_known, f_lanes, f_shortest, .ref fa_longest, .ref fa_leastAt, .ref fa_greatestAt])), (fa_longest, .inl (cI, 40, .inl fc_longest)), (fa_leastAt, .inl (cI, 480, .inl fc_leastAt)), (fa_greatestAt, .inl (cI, 480, .inl fc_greatestAt))] := hD
  have hl := lv_entry ([.ref fh, .int ia]) (n := 3) (Nat.le_of_ble_eq_true rfl)
  rw [lg_entry_eq]
  generalize (lg_sl ([.ref fh, .int ia]) ++ List.replicate (3 - (lg_sl ([.ref fh, .int ia])).length) Slot.unset).toArray = ls at hl ⊢
  replace hl : lv_has ls 3 [(0, .ref fh), (1, .int ia)] := hl
  have z_0 : (0 : Int32).toInt = 0 := by decide
  have z_1 : (1 : Int32).toInt = 1 := by decide
  refine lv_iconst (v := 1) hx hb dX0_isSorted_0 (by decide) ?_
  refine lv_istore_n (lv' := [(2, .int 1), (0, .ref fh), (1, .int ia)]) hx hb dX0_isSorted_1 rfl hl (by decide) rfl (fun ls1 hl1 => ?_)
  replace hl := hl1; clear hl1
  refine my_wloop (S := Int32) (fun u => (1 ≤ (u).toInt ∧ (u).toInt ≤ 12)) (fun u => (12 - (u).toInt).toNat) (fun u => [(fh, .inr (0, [.int f_isReached, f_least, f_greatest, f_sites, f_maybeNull, f_known, f_lanes, f_shortest, .ref fa_longest, .ref fa_leastAt, .ref fa_greatestAt])), (fa_longest, .inl (cI, 40, .inl fc_longest)), (fa_leastAt, .inl (cI, 480, .inl fc_leastAt)), (fa_greatestAt, .inl (cI, 480, .inl fc_greatestAt))]) (fun u => [(2, .int (u)), (0, .ref fh), (1, .int ia)]) (H0 := s.heap) (A := A) (D := (dC, dI)) (cl := vwCl) (1 : Int32) (show (1 ≤ (1 : Int32).toInt ∧ (1 : Int32).toInt ≤ 12) from ⟨by omega, by omega⟩) (by exact hP) (by exact hD) hS (by exact hl) (fun u_1 hu_1 ih_1 H_1 locs_1 ls1 hP1 hD1 hS1 hl1 => ?_)
  obtain ⟨v_2, rfl⟩ : ∃ z, z = u_1 := ⟨_, rfl⟩
  replace hu_1 : (1 ≤ v_2.toInt ∧ v_2.toInt ≤ 12) := hu_1
  have q_v_2 := hu_1
  replace hP : va_P (dC, dI) vwCl [(fh, .inr (0, [.int f_isReached, f_least, f_greatest, f_sites, f_maybeNull, f_known, f_lanes, f_shortest, .ref fa_longest, .ref fa_leastAt, .ref fa_greatestAt])), (fa_longest, .inl (cI, 40, .inl fc_longest)), (fa_leastAt, .inl (cI, 480, .inl fc_leastAt)), (fa_greatestAt, .inl (cI, 480, .inl fc_greatestAt))] H_1 := hP1
  replace hD : va_D A [(fh, .inr (0, [.int f_isReached, f_least, f_greatest, f_sites, f_maybeNull, f_known, f_lanes, f_shortest, .ref fa_longest, .ref fa_leastAt, .ref fa_greatestAt])), (fa_longest, .inl (cI, 40, .inl fc_longest)), (fa_leastAt, .inl (cI, 480, .inl fc_leastAt)), (fa_greatestAt, .inl (cI, 480, .inl fc_greatestAt))] := hD1
  replace hS := hS1
  clear hP1 hD1 hS1
  replace hl : lv_has ls1 3 [(2, .int v_2), (0, .ref fh), (1, .int ia)] := hl1
  clear hl1
  refine lv_iload_n hx hb dX0_isSorted_2 rfl (lv_at hl 0 rfl) ?_
  refine lv_aload_n hx hb dX0_isSorted_3 rfl (lv_at hl 1 rfl) ?_
  refine va_get (D := (dC, dI)) (ci := 0) (v := .ref fa_longest) (C := RX0) (T := TX0) (N := 11) hx hb hts inv_X0_isSorted_X0 hown hK hP 0 rfl rfl 8 (by decide) (hts (.fieldLink RX0 39 "ArraySegments$Facts" "longest" "[I") (List.mem_of_getElem? (i := 1) rfl)) (fun _ h9 => h9) rfl dX0_isSorted_4 ?_
  refine lv_iload_n hx hb dX0_isSorted_7 rfl (lv_at hl 2 rfl) ?_
  refine sf_iald kLE12 hx hb hK hP 1 0 rfl rfl h_fc_longest (vp_in_iff.mpr ⟨by omega, by omega⟩) dX0_isSorted_8 (fun v_3 q_v_3 e_v_3 => ?_)
  refine lv_icmp_ge (tgt := 47) hx hb dX0_isSorted_9 (by decide) (fun c_4 => ?_) (fun c_4 => ?_)
  · -- yes
    have k_4 : v_3.toInt ≤ v_2.toInt := ci_ge c_4
    refine lv_iconst (v := 1) hx hb dX0_isSorted_47 (by decide) ?_
    have hP9 := hP.sub (ws' := [(fh, .inr (0, [.int f_isReached, f_least, f_greatest, f_sites, f_maybeNull, f_known, f_lanes, f_shortest, .ref fa_longest, .ref fa_leastAt, .ref fa_greatestAt])), (fa_longest, .inl (cI, 40, .inl fc_longest)), (fa_leastAt, .inl (cI, 480, .inl fc_leastAt)), (fa_greatestAt, .inl (cI, 480, .inl fc_greatestAt))]) [0, 1, 2, 3] rfl
    have hD9 := hD.sub (ws' := [(fh, .inr (0, [.int f_isReached, f_least, f_greatest, f_sites, f_maybeNull, f_known, f_lanes, f_shortest, .ref fa_longest, .ref fa_leastAt, .ref fa_greatestAt])), (fa_longest, .inl (cI, 40, .inl fc_longest)), (fa_leastAt, .inl (cI, 480, .inl fc_leastAt)), (fa_greatestAt, .inl (cI, 480, .inl fc_greatestAt))]) [0, 1, 2, 3] (by decide) rfl
    exact W.zret (v := 1) (ty := .boolean) hx hb hr rfl (fun t ht hW => ⟨⟨1, (), rfl, (show kZ (1 : Int32) from (by decide)), by rw [ht]; exact hP9, va_K.moved hW.alike hK, hD9⟩, hS.F ht⟩) hS.2.2 dX0_isSorted_48
  · -- no
    have k_4 : v_2.toInt < v_3.toInt := ci_nge c_4
    refine lv_aload_n hx hb dX0_isSorted_12 rfl (lv_at hl 1 rfl) ?_
    refine va_get (D := (dC, dI)) (ci := 0) (v := .ref fa_greatestAt) (C := RX0) (T := TX0) (N := 11) hx hb hts inv_X0_isSorted_X0 hown hK hP 0 rfl rfl 10 (by decide) (hts (.fieldLink RX0 45 "ArraySegments$Facts" "greatestAt" "[I") (List.mem_of_getElem? (i := 2) rfl)) (fun _ h9 => h9) rfl dX0_isSorted_13 ?_
    refine lv_iload_n hx hb dX0_isSorted_16 rfl (lv_at hl 2 rfl) ?_
    refine lv_bipush (v := 12) hx hb dX0_isSorted_17 (by decide) ?_
    refine sf_imul (w := ia.toInt) (z := 12) hx hb dX0_isSorted_19 rfl (by decide) ⟨by omega, by omega⟩ (fun v_5 q_v_5 => ?_)
    refine lv_iload_n hx hb dX0_isSorted_20 rfl (lv_at hl 0 rfl) ?_
    refine sf_iadd hx hb dX0_isSorted_21 ⟨by omega, by omega⟩ (fun v_6 q_v_6 => ?_)
    refine lv_iconst (v := 1) hx hb dX0_isSorted_22 (by decide) ?_
    refine sf_isub hx hb dX0_isSorted_23 ⟨by omega, by omega⟩ (fun v_7 q_v_7 => ?_)
    refine sf_iald kT hx hb hK hP 3 0 rfl rfl (fun _ => trivial) (vp_in_iff.mpr ⟨by omega, by omega⟩) dX0_isSorted_24 (fun v_8 q_v_8 e_v_8 => ?_)
    refine lv_aload_n hx hb dX0_isSorted_25 rfl (lv_at hl 1 rfl) ?_
    refine va_get (D := (dC, dI)) (ci := 0) (v := .ref fa_leastAt) (C := RX0) (T := TX0) (N := 11) hx hb hts inv_X0_isSorted_X0 hown hK hP 0 rfl rfl 9 (by decide) (hts (.fieldLink RX0 42 "ArraySegments$Facts" "leastAt" "[I") (List.mem_of_getElem? (i := 3) rfl)) (fun _ h9 => h9) rfl dX0_isSorted_26 ?_
    refine lv_iload_n hx hb dX0_isSorted_29 rfl (lv_at hl 2 rfl) ?_
    refine lv_bipush (v := 12) hx hb dX0_isSorted_30 (by decide) ?_
    refine sf_imul (w := ia.toInt) (z := 12) hx hb dX0_isSorted_32 rfl (by decide) ⟨by omega, by omega⟩ (fun v_9 q_v_9 => ?_)
    refine lv_iload_n hx hb dX0_isSorted_33 rfl (lv_at hl 0 rfl) ?_
    refine sf_iadd hx hb dX0_isSorted_34 ⟨by omega, by omega⟩ (fun v_10 q_v_10 => ?_)
    refine sf_iald kT hx hb hK hP 2 0 rfl rfl (fun _ => trivial) (vp_in_iff.mpr ⟨by omega, by omega⟩) dX0_isSorted_35 (fun v_11 q_v_11 e_v_11 => ?_)
    refine lv_icmp_le (tgt := 41) hx hb dX0_isSorted_36 (by decide) (fun c_12 => ?_) (fun c_12 => ?_)
    · -- yes
      have k_12 : v_8.toInt ≤ v_11.toInt := ci_le c_12
      refine sf_iinc hx hb dX0_isSorted_41 hl (k := 0) (x := v_2) (w := 1) rfl (by decide) (by decide) ⟨by omega, by omega⟩ (fun v_13 q_v_13 ls1 hl1 => ?_)
      replace hl : lv_has ls1 3 [(2, .int v_13), (0, .ref fh), (1, .int ia)] := hl1
      clear hl1
      refine lv_goto (tgt := 2) hx hb dX0_isSorted_44 (by decide) ?_
      exact ih_1 v_13 (show (1 ≤ v_13.toInt ∧ v_13.toInt ≤ 12) from ⟨by omega, by omega⟩) (by show (12 - v_13.toInt).toNat < (12 - v_2.toInt).toNat; omega) _ _ _ (hP.sub [0, 1, 2, 3] rfl) (hD.sub [0, 1, 2, 3] (by decide) rfl) hS (lv_sub hl [0, 1, 2] rfl)
    · -- no
      have k_12 : v_11.toInt < v_8.toInt := ci_nle c_12
      refine lv_iconst (v := 0) hx hb dX0_isSorted_39 (by decide) ?_
      have hP9 := hP.sub (ws' := [(fh, .inr (0, [.int f_isReached, f_least, f_greatest, f_sites, f_maybeNull, f_known, f_lanes, f_shortest, .ref fa_longest, .ref fa_leastAt, .ref fa_greatestAt])), (fa_longest, .inl (cI, 40, .inl fc_longest)), (fa_leastAt, .inl (cI, 480, .inl fc_leastAt)), (fa_greatestAt, .inl (cI, 480, .inl fc_greatestAt))]) [0, 1, 2, 3] rfl
      have hD9 := hD.sub (ws' := [(fh, .inr (0, [.int f_isReached, f_least, f_greatest, f_sites, f_maybeNull, f_known, f_lanes, f_shortest, .ref fa_longest, .ref fa_leastAt, .ref fa_greatestAt])), (fa_longest, .inl (cI, 40, .inl fc_longest)), (fa_leastAt, .inl (cI, 480, .inl fc_leastAt)), (fa_greatestAt, .inl (cI, 480, .inl fc_greatestAt))]) [0, 1, 2, 3] (by decide) rfl
      exact W.zret (v := 0) (ty := .boolean) hx hb hr rfl (fun t ht hW => ⟨⟨0, (), rfl, (show kZ (0 : Int32) from (by decide)), by rw [ht]; exact hP9, va_K.moved hW.alike hK, hD9⟩, hS.F ht⟩) hS.2.2 dX0_isSorted_40
