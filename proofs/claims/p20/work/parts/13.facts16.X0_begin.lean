def v_X0_begin : List Cond := .code yX0_begin cX0_begin 2 none :: ([.fieldLink RX0 9 "ArraySegments$Facts" "isReached" "Z", .methodLink RX0 48 yX0_setSpan, .instanceMethod yX0_setSpan, .selects RX0 yX0_setSpan yX0_setSpan, .initialized RX0, .fieldLink RX0 22 "ArraySegments$Facts" "sites" "[J", .fieldLink RX0 26 "ArraySegments$Facts" "maybeNull" "[Z", .fieldLink RX0 30 "ArraySegments$Facts" "known" "[Z"] ++ (wsX00 ++ (v_X0_setSpan)))
theorem inv_X0_begin_X0 : ∀ w ∈ wsX00, w ∈ v_X0_begin := fun _ h => List.mem_cons_of_mem _ (List.mem_append_right _ (List.mem_append_left _ h))
theorem im_X0_begin_X0_setSpan : ∀ w ∈ v_X0_setSpan, w ∈ v_X0_begin := fun _ h => List.mem_cons_of_mem _ (List.mem_append_right _ (List.mem_append_right _ (h)))
set_option maxRecDepth 20000 in
theorem gd_X0_begin : gdL v_X0_begin := gdC (gdW (by decide +kernel)) (gdA (gdW (by decide +kernel)) (gdA gd_wsX00 gd_X0_setSpan))
set_option maxRecDepth 20000 in
theorem h_X0_begin_X0_setSpan_48 : GoodIn v_X0_begin (wsV RX0 48 RX0 yX0_setSpan v_X0_setSpan) := gdI [2, 3, 4, 5] rfl (by decide +kernel) (im_X0_begin_X0_setSpan) gd_X0_setSpan
abbrev sw_X0_begin (cI cJ cZ : ClassId) (fh : Nat) (f_isReached : Int32) (fa_least : Nat) (fa_greatest : Nat) (fa_sites : Nat) (fa_maybeNull : Nat) (fa_known : Nat) (f_lanes : Value) (f_shortest : Value) (f_longest : Value) (f_leastAt : Value) (f_greatestAt : Value) (fc_least : Nat → Int32) (fc_greatest : Nat → Int32) (fc_sites : Nat → Int64) (fc_maybeNull : Nat → Int32) (fc_known : Nat → Int32) : va_W := [(fh, .inr (0, [.int f_isReached, .ref fa_least, .ref fa_greatest, .ref fa_sites, .ref fa_maybeNull, .ref fa_known, f_lanes, f_shortest, f_longest, f_leastAt, f_greatestAt])), (fa_least, .inl (cI, 6, .inl fc_least)), (fa_greatest, .inl (cI, 6, .inl fc_greatest)), (fa_sites, .inl (cJ, 6, .inr (.inl fc_sites))), (fa_maybeNull, .inl (cZ, 6, .inl fc_maybeNull)), (fa_known, .inl (cZ, 40, .inl fc_known))]
set_option maxHeartbeats 8000000 in
set_option maxRecDepth 100000 in
theorem s_X0_begin (l : Launch) (dC : Nat → ClassId) (dI : Nat → Nat → Nat) (cI cJ cZ : ClassId) (fh : Nat) (f_isReached : Int32) (fa_least : Nat) (fa_greatest : Nat) (fa_sites : Nat) (fa_maybeNull : Nat) (fa_known : Nat) (f_lanes : Value) (f_shortest : Value) (f_longest : Value) (f_leastAt : Value) (f_greatestAt : Value) (fc_least : Nat → Int32) (fc_greatest : Nat → Int32) (fc_sites : Nat → Int64) (fc_maybeNull : Nat → Int32) (fc_known : Nat → Int32) (sz : Nat) (q_f_isReached : kZ f_isReached) (h_fc_maybeNull : ∀ j : Nat, kZ (fc_maybeNull j)) (h_fc_known : ∀ j : Nat, kZ (fc_known j)) : Met l yX0_begin v_X0_begin ({ frames := 1, cells := 0, slots := 0, locals := 23 }) (va_Pc [.ref fh] (cPre dC dI cI cJ cZ sz (sw_X0_begin cI cJ cZ fh f_isReached fa_least fa_greatest fa_sites fa_maybeNull fa_known f_lanes f_shortest f_longest f_leastAt f_greatestAt fc_least fc_greatest fc_sites fc_maybeNull fc_known))) (va_Qv (fun (u : Int32 × (Nat → Int32) × (Nat → Int32) × (Nat → Int64) × (Nat → Int32) × (Nat → Int32)) => (kZ (u.1)) ∧ (∀ j : Nat, kZ ((u.2.2.2.2.1) j)) ∧ (∀ j : Nat, kZ ((u.2.2.2.2.2) j)) ∧ (∀ j : Nat, j < 6 → ((u.2.1) j).toInt = 0) ∧ (∀ j : Nat, j < 6 → ((u.2.2.1) j).toInt = 0) ∧ (∀ j : Nat, j < 6 → ((u.2.2.2.2.1) j).toInt = 1) ∧ ((u.1) = 1)) (fun (u : Int32 × (Nat → Int32) × (Nat → Int32) × (Nat → Int64) × (Nat → Int32) × (Nat → Int32)) => cPost dC dI cI cJ cZ (va_A (sw_X0_begin cI cJ cZ fh f_isReached fa_least fa_greatest fa_sites fa_maybeNull fa_known f_lanes f_shortest f_longest f_leastAt f_greatestAt fc_least fc_greatest fc_sites fc_maybeNull fc_known) sz) [(fh, .inr (0, [.int (u.1), .ref fa_least, .ref fa_greatest, .ref fa_sites, .ref fa_maybeNull, .ref fa_known, f_lanes, f_shortest, f_longest, f_leastAt, f_greatestAt])), (fa_least, .inl (cI, 6, .inl (u.2.1))), (fa_greatest, .inl (cI, 6, .inl (u.2.2.1))), (fa_sites, .inl (cJ, 6, .inr (.inl (u.2.2.2.1)))), (fa_maybeNull, .inl (cZ, 6, .inl (u.2.2.2.2.1))), (fa_known, .inl (cZ, 40, .inl (u.2.2.2.2.2)))]) (va_A (sw_X0_begin cI cJ cZ fh f_isReached fa_least fa_greatest fa_sites fa_maybeNull fa_known f_lanes f_shortest f_longest f_leastAt f_greatestAt fc_least fc_greatest fc_sites fc_maybeNull fc_known) sz)) 0 0 (va_A (sw_X0_begin cI cJ cZ fh f_isReached fa_least fa_greatest fa_sites fa_maybeNull fa_known f_lanes f_shortest f_longest f_leastAt f_greatestAt fc_least fc_greatest fc_sites fc_maybeNull fc_known) sz) := by
  refine Met.ofW (cc := cX0_begin) (maxL := 2) (ret := none) (by decide) rfl ?_
  intro p e s m args below meth c s₁ B hml hv
  obtain ⟨rfl, hsz, hP, hK, hD0, hN⟩ := hv
  have hx := B.exec
  have hb := B.bytes
  have hr := B.returns
  have hts := atoms_spec (ws := v_X0_begin) B.pre
  have hown : s.vm.findClass RX0 = some m.cls := findClass_of_methodNamed B.named
  have hlocks := B.notSynchronized
  subst hsz
  have hD := hD0.self (sz := s.heap.size)
  generalize hAe : va_A (sw_X0_begin cI cJ cZ fh f_isReached fa_least fa_greatest fa_sites fa_maybeNull fa_known f_lanes f_shortest f_longest f_leastAt f_greatestAt fc_least fc_greatest fc_sites fc_maybeNull fc_known) s.heap.size = A at hD ⊢
  have hA : ∀ q : Nat, s.heap.size ≤ q → A q := fun q h => by rw [← hAe]; exact Or.inr h
  clear hAe hD0
  have hS : va_S A s.heap s.heap [] := va_S.rf
  replace hP : va_P (dC, dI) vwCl [(fh, .inr (0, [.int f_isReached, .ref fa_least, .ref fa_greatest, .ref fa_sites, .ref fa_maybeNull, .ref fa_known, f_lanes, f_shortest, f_longest, f_leastAt, f_greatestAt])), (fa_least, .inl (cI, 6, .inl fc_least)), (fa_greatest, .inl (cI, 6, .inl fc_greatest)), (fa_sites, .inl (cJ, 6, .inr (.inl fc_sites))), (fa_maybeNull, .inl (cZ, 6, .inl fc_maybeNull)), (fa_known, .inl (cZ, 40, .inl fc_known))] s.heap := hP
  replace hD : va_D A [(fh, .inr (0, [.int f_isReached, .ref fa_least, .ref fa_greatest, .ref fa_sites, .ref fa_maybeNull, .ref fa_known, f_lanes, f_shortest, f_longest, f_leastAt, f_greatestAt])), (fa_least, .inl (cI, 6, .inl fc_least)), (fa_greatest, .inl (cI, 6, .inl fc_greatest)), (fa_sites, .inl (cJ, 6, .inr (.inl fc_sites))), (fa_maybeNull, .inl (cZ, 6, .inl fc_maybeNull)), (fa_known, .inl (cZ, 40, .inl fc_known))] := hD
  have hl := lv_entry ([.ref fh]) (n := 2) (Nat.le_of_ble_eq_true rfl)
  rw [lg_entry_eq]
  generalize (lg_sl ([.ref fh]) ++ List.replicate (2 - (lg_sl ([.ref fh])).length) Slot.unset).toArray = ls at hl ⊢
  replace hl : lv_has ls 2 [(0, .ref fh)] := hl
  have z_0 : (0 : Int32).toInt = 0 := by decide
  have z_1 : (1 : Int32).toInt = 1 := by decide
  have z_6 : (6 : Int32).toInt = 6 := by decide
  have z_40 : (40 : Int32).toInt = 40 := by decide
  have zl_0 : (0 : Int64).toInt = 0 := by decide
  refine lv_aload_n hx hb dX0_begin_0 rfl (lv_at hl 0 rfl) ?_
  refine lv_iconst (v := 1) hx hb dX0_begin_1 (by decide) ?_
  refine va_put (D := (dC, dI)) (ci := 0) (v := .int 1) (ty := .boolean) (C := RX0) (T := TX0) (N := 11) hx hb hts inv_X0_begin_X0 tyX0 tyX0_ok nmX0 hown hK hP hD hS 0 rfl rfl 0 (by decide) (hts (.fieldLink RX0 9 "ArraySegments$Facts" "isReached" "Z") (List.mem_of_getElem? (i := 1) rfl)) (fun _ h9 => h9) rfl (by decide +kernel) rfl rfl (Nat.le_of_ble_eq_true rfl) dX0_begin_2 (fun H_1 locs_1 hP1 hD1 hS1 => ?_)
  replace hP : va_P (dC, dI) vwCl [(fh, .inr (0, [.int 1, .ref fa_least, .ref fa_greatest, .ref fa_sites, .ref fa_maybeNull, .ref fa_known, f_lanes, f_shortest, f_longest, f_leastAt, f_greatestAt])), (fa_least, .inl (cI, 6, .inl fc_least)), (fa_greatest, .inl (cI, 6, .inl fc_greatest)), (fa_sites, .inl (cJ, 6, .inr (.inl fc_sites))), (fa_maybeNull, .inl (cZ, 6, .inl fc_maybeNull)), (fa_known, .inl (cZ, 40, .inl fc_known))] H_1 := hP1
  replace hD : va_D A [(fh, .inr (0, [.int 1, .ref fa_least, .ref fa_greatest, .ref fa_sites, .ref fa_maybeNull, .ref fa_known, f_lanes, f_shortest, f_longest, f_leastAt, f_greatestAt])), (fa_least, .inl (cI, 6, .inl fc_least)), (fa_greatest, .inl (cI, 6, .inl fc_greatest)), (fa_sites, .inl (cJ, 6, .inr (.inl fc_sites))), (fa_maybeNull, .inl (cZ, 6, .inl fc_maybeNull)), (fa_known, .inl (cZ, 40, .inl fc_known))] := hD1
  replace hS := hS1
  clear hP1 hD1 hS1
  refine lv_iconst (v := 0) hx hb dX0_begin_5 (by decide) ?_
  refine lv_istore_n (lv' := [(1, .int 0), (0, .ref fh)]) hx hb dX0_begin_6 rfl hl (by decide) rfl (fun ls1 hl1 => ?_)
  replace hl := hl1; clear hl1
  refine my_wloop (S := Int32 × (Nat → Int32) × (Nat → Int32)) (fun u => (0 ≤ (u.1).toInt ∧ (u.1).toInt ≤ 6) ∧ (∀ j : Nat, (j : Int) < (u.1).toInt → ((u.2.1) j).toInt = 0) ∧ (∀ j : Nat, (j : Int) < (u.1).toInt → ((u.2.2) j).toInt = 0)) (fun u => (6 - (u.1).toInt).toNat) (fun u => [(fh, .inr (0, [.int 1, .ref fa_least, .ref fa_greatest, .ref fa_sites, .ref fa_maybeNull, .ref fa_known, f_lanes, f_shortest, f_longest, f_leastAt, f_greatestAt])), (fa_least, .inl (cI, 6, .inl (u.2.1))), (fa_greatest, .inl (cI, 6, .inl (u.2.2))), (fa_sites, .inl (cJ, 6, .inr (.inl fc_sites))), (fa_maybeNull, .inl (cZ, 6, .inl fc_maybeNull)), (fa_known, .inl (cZ, 40, .inl fc_known))]) (fun u => [(1, .int (u.1)), (0, .ref fh)]) (H0 := s.heap) (A := A) (D := (dC, dI)) (cl := vwCl) ((0 : Int32), fc_least, fc_greatest) (show (0 ≤ (0 : Int32).toInt ∧ (0 : Int32).toInt ≤ 6) ∧ (∀ j : Nat, (j : Int) < (0 : Int32).toInt → (fc_least j).toInt = 0) ∧ (∀ j : Nat, (j : Int) < (0 : Int32).toInt → (fc_greatest j).toInt = 0) from ⟨⟨by omega, by omega⟩, (fun j hj => by omega), (fun j hj => by omega)⟩) (by exact hP) (by exact hD) hS (by exact hl) (fun u_2 hu_2 ih_2 H_2 locs_2 ls1 hP1 hD1 hS1 hl1 => ?_)
  obtain ⟨v_3, f_4, f_5⟩ := u_2
  replace hu_2 : (0 ≤ v_3.toInt ∧ v_3.toInt ≤ 6) ∧ (∀ j : Nat, (j : Int) < v_3.toInt → (f_4 j).toInt = 0) ∧ (∀ j : Nat, (j : Int) < v_3.toInt → (f_5 j).toInt = 0) := hu_2
  obtain ⟨q_v_3, x_2_0, x_2_1⟩ := hu_2
  replace hP : va_P (dC, dI) vwCl [(fh, .inr (0, [.int 1, .ref fa_least, .ref fa_greatest, .ref fa_sites, .ref fa_maybeNull, .ref fa_known, f_lanes, f_shortest, f_longest, f_leastAt, f_greatestAt])), (fa_least, .inl (cI, 6, .inl f_4)), (fa_greatest, .inl (cI, 6, .inl f_5)), (fa_sites, .inl (cJ, 6, .inr (.inl fc_sites))), (fa_maybeNull, .inl (cZ, 6, .inl fc_maybeNull)), (fa_known, .inl (cZ, 40, .inl fc_known))] H_2 := hP1
  replace hD : va_D A [(fh, .inr (0, [.int 1, .ref fa_least, .ref fa_greatest, .ref fa_sites, .ref fa_maybeNull, .ref fa_known, f_lanes, f_shortest, f_longest, f_leastAt, f_greatestAt])), (fa_least, .inl (cI, 6, .inl f_4)), (fa_greatest, .inl (cI, 6, .inl f_5)), (fa_sites, .inl (cJ, 6, .inr (.inl fc_sites))), (fa_maybeNull, .inl (cZ, 6, .inl fc_maybeNull)), (fa_known, .inl (cZ, 40, .inl fc_known))] := hD1
  replace hS := hS1
  clear hP1 hD1 hS1
  replace hl : lv_has ls1 2 [(1, .int v_3), (0, .ref fh)] := hl1
  clear hl1
  refine lv_iload_n hx hb dX0_begin_7 rfl (lv_at hl 0 rfl) ?_
  refine lv_bipush (v := 6) hx hb dX0_begin_8 (by decide) ?_
  refine lv_icmp_ge (tgt := 26) hx hb dX0_begin_10 (by decide) (fun c_6 => ?_) (fun c_6 => ?_)
  · -- yes
    have k_6 : (6 : Int32).toInt ≤ v_3.toInt := ci_ge c_6
    refine lv_iconst (v := 0) hx hb dX0_begin_26 (by decide) ?_
    refine lv_istore_n (lv' := [(1, .int 0), (0, .ref fh)]) hx hb dX0_begin_27 rfl hl (by decide) rfl (fun ls1 hl1 => ?_)
    replace hl := hl1; clear hl1
    refine my_wloop (S := Int32 × (Nat → Int64) × (Nat → Int32)) (fun u => (0 ≤ (u.1).toInt ∧ (u.1).toInt ≤ 6) ∧ (∀ j : Nat, kZ ((u.2.2) j)) ∧ (∀ j : Nat, (j : Int) < (u.1).toInt → ((u.2.2) j).toInt = 1)) (fun u => (6 - (u.1).toInt).toNat) (fun u => [(fh, .inr (0, [.int 1, .ref fa_least, .ref fa_greatest, .ref fa_sites, .ref fa_maybeNull, .ref fa_known, f_lanes, f_shortest, f_longest, f_leastAt, f_greatestAt])), (fa_least, .inl (cI, 6, .inl f_4)), (fa_greatest, .inl (cI, 6, .inl f_5)), (fa_sites, .inl (cJ, 6, .inr (.inl (u.2.1)))), (fa_maybeNull, .inl (cZ, 6, .inl (u.2.2))), (fa_known, .inl (cZ, 40, .inl fc_known))]) (fun u => [(1, .int (u.1)), (0, .ref fh)]) (H0 := s.heap) (A := A) (D := (dC, dI)) (cl := vwCl) ((0 : Int32), fc_sites, fc_maybeNull) (show (0 ≤ (0 : Int32).toInt ∧ (0 : Int32).toInt ≤ 6) ∧ (∀ j : Nat, kZ (fc_maybeNull j)) ∧ (∀ j : Nat, (j : Int) < (0 : Int32).toInt → (fc_maybeNull j).toInt = 1) from ⟨⟨by omega, by omega⟩, h_fc_maybeNull, (fun j hj => by omega)⟩) (by exact hP) (by exact hD) hS (by exact hl) (fun u_7 hu_7 ih_7 H_7 locs_7 ls1 hP1 hD1 hS1 hl1 => ?_)
    obtain ⟨v_8, f_9, f_10⟩ := u_7
    replace hu_7 : (0 ≤ v_8.toInt ∧ v_8.toInt ≤ 6) ∧ (∀ j : Nat, kZ (f_10 j)) ∧ (∀ j : Nat, (j : Int) < v_8.toInt → (f_10 j).toInt = 1) := hu_7
    obtain ⟨q_v_8, h_f_10, x_7_0⟩ := hu_7
    replace hP : va_P (dC, dI) vwCl [(fh, .inr (0, [.int 1, .ref fa_least, .ref fa_greatest, .ref fa_sites, .ref fa_maybeNull, .ref fa_known, f_lanes, f_shortest, f_longest, f_leastAt, f_greatestAt])), (fa_least, .inl (cI, 6, .inl f_4)), (fa_greatest, .inl (cI, 6, .inl f_5)), (fa_sites, .inl (cJ, 6, .inr (.inl f_9))), (fa_maybeNull, .inl (cZ, 6, .inl f_10)), (fa_known, .inl (cZ, 40, .inl fc_known))] H_7 := hP1
    replace hD : va_D A [(fh, .inr (0, [.int 1, .ref fa_least, .ref fa_greatest, .ref fa_sites, .ref fa_maybeNull, .ref fa_known, f_lanes, f_shortest, f_longest, f_leastAt, f_greatestAt])), (fa_least, .inl (cI, 6, .inl f_4)), (fa_greatest, .inl (cI, 6, .inl f_5)), (fa_sites, .inl (cJ, 6, .inr (.inl f_9))), (fa_maybeNull, .inl (cZ, 6, .inl f_10)), (fa_known, .inl (cZ, 40, .inl fc_known))] := hD1
    replace hS := hS1
    clear hP1 hD1 hS1
    replace hl : lv_has ls1 2 [(1, .int v_8), (0, .ref fh)] := hl1
    clear hl1
    refine lv_iload_n hx hb dX0_begin_28 rfl (lv_at hl 0 rfl) ?_
    refine lv_bipush (v := 6) hx hb dX0_begin_29 (by decide) ?_
    refine lv_icmp_ge (tgt := 54) hx hb dX0_begin_31 (by decide) (fun c_11 => ?_) (fun c_11 => ?_)
    · -- yes
      have k_11 : (6 : Int32).toInt ≤ v_8.toInt := ci_ge c_11
      refine lv_iconst (v := 0) hx hb dX0_begin_54 (by decide) ?_
      refine lv_istore_n (lv' := [(1, .int 0), (0, .ref fh)]) hx hb dX0_begin_55 rfl hl (by decide) rfl (fun ls1 hl1 => ?_)
      replace hl := hl1; clear hl1
      refine my_wloop (S := Int32 × (Nat → Int32)) (fun u => (0 ≤ (u.1).toInt ∧ (u.1).toInt ≤ 40) ∧ (∀ j : Nat, kZ ((u.2) j))) (fun u => (40 - (u.1).toInt).toNat) (fun u => [(fh, .inr (0, [.int 1, .ref fa_least, .ref fa_greatest, .ref fa_sites, .ref fa_maybeNull, .ref fa_known, f_lanes, f_shortest, f_longest, f_leastAt, f_greatestAt])), (fa_least, .inl (cI, 6, .inl f_4)), (fa_greatest, .inl (cI, 6, .inl f_5)), (fa_sites, .inl (cJ, 6, .inr (.inl f_9))), (fa_maybeNull, .inl (cZ, 6, .inl f_10)), (fa_known, .inl (cZ, 40, .inl (u.2)))]) (fun u => [(1, .int (u.1)), (0, .ref fh)]) (H0 := s.heap) (A := A) (D := (dC, dI)) (cl := vwCl) ((0 : Int32), fc_known) (show (0 ≤ (0 : Int32).toInt ∧ (0 : Int32).toInt ≤ 40) ∧ (∀ j : Nat, kZ (fc_known j)) from ⟨⟨by omega, by omega⟩, h_fc_known⟩) (by exact hP) (by exact hD) hS (by exact hl) (fun u_12 hu_12 ih_12 H_12 locs_12 ls1 hP1 hD1 hS1 hl1 => ?_)
      obtain ⟨v_13, f_14⟩ := u_12
      replace hu_12 : (0 ≤ v_13.toInt ∧ v_13.toInt ≤ 40) ∧ (∀ j : Nat, kZ (f_14 j)) := hu_12
      obtain ⟨q_v_13, h_f_14⟩ := hu_12
      replace hP : va_P (dC, dI) vwCl [(fh, .inr (0, [.int 1, .ref fa_least, .ref fa_greatest, .ref fa_sites, .ref fa_maybeNull, .ref fa_known, f_lanes, f_shortest, f_longest, f_leastAt, f_greatestAt])), (fa_least, .inl (cI, 6, .inl f_4)), (fa_greatest, .inl (cI, 6, .inl f_5)), (fa_sites, .inl (cJ, 6, .inr (.inl f_9))), (fa_maybeNull, .inl (cZ, 6, .inl f_10)), (fa_known, .inl (cZ, 40, .inl f_14))] H_12 := hP1
      replace hD : va_D A [(fh, .inr (0, [.int 1, .ref fa_least, .ref fa_greatest, .ref fa_sites, .ref fa_maybeNull, .ref fa_known, f_lanes, f_shortest, f_longest, f_leastAt, f_greatestAt])), (fa_least, .inl (cI, 6, .inl f_4)), (fa_greatest, .inl (cI, 6, .inl f_5)), (fa_sites, .inl (cJ, 6, .inr (.inl f_9))), (fa_maybeNull, .inl (cZ, 6, .inl f_10)), (fa_known, .inl (cZ, 40, .inl f_14))] := hD1
      replace hS := hS1
      clear hP1 hD1 hS1
      replace hl : lv_has ls1 2 [(1, .int v_13), (0, .ref fh)] := hl1
      clear hl1
      refine lv_iload_n hx hb dX0_begin_56 rfl (lv_at hl 0 rfl) ?_
      refine lv_bipush (v := 40) hx hb dX0_begin_57 (by decide) ?_
      refine lv_icmp_ge (tgt := 75) hx hb dX0_begin_59 (by decide) (fun c_15 => ?_) (fun c_15 => ?_)
      · -- yes
        have k_15 : (40 : Int32).toInt ≤ v_13.toInt := ci_ge c_15
        have hP9 := hP.sub (ws' := [(fh, .inr (0, [.int 1, .ref fa_least, .ref fa_greatest, .ref fa_sites, .ref fa_maybeNull, .ref fa_known, f_lanes, f_shortest, f_longest, f_leastAt, f_greatestAt])), (fa_least, .inl (cI, 6, .inl f_4)), (fa_greatest, .inl (cI, 6, .inl f_5)), (fa_sites, .inl (cJ, 6, .inr (.inl f_9))), (fa_maybeNull, .inl (cZ, 6, .inl f_10)), (fa_known, .inl (cZ, 40, .inl f_14))]) [0, 1, 2, 3, 4, 5] rfl
        have hD9 := hD.sub (ws' := [(fh, .inr (0, [.int 1, .ref fa_least, .ref fa_greatest, .ref fa_sites, .ref fa_maybeNull, .ref fa_known, f_lanes, f_shortest, f_longest, f_leastAt, f_greatestAt])), (fa_least, .inl (cI, 6, .inl f_4)), (fa_greatest, .inl (cI, 6, .inl f_5)), (fa_sites, .inl (cJ, 6, .inr (.inl f_9))), (fa_maybeNull, .inl (cZ, 6, .inl f_10)), (fa_known, .inl (cZ, 40, .inl f_14))]) [0, 1, 2, 3, 4, 5] (by decide) rfl
        exact W.vret hx hb hr (fun t ht hW => ⟨⟨((1 : Int32), f_4, f_5, f_9, f_10, f_14), rfl, ⟨(show kZ (1 : Int32) from (by decide)), (show ∀ j : Nat, kZ (f_10 j) from h_f_10), (show ∀ j : Nat, kZ (f_14 j) from h_f_14), (show ∀ j : Nat, j < 6 → (f_4 j).toInt = 0 from (fun j hj => x_2_0 j (by omega))), (show ∀ j : Nat, j < 6 → (f_5 j).toInt = 0 from (fun j hj => x_2_1 j (by omega))), (show ∀ j : Nat, j < 6 → (f_10 j).toInt = 1 from (fun j hj => x_7_0 j (by omega))), (show (1 : Int32) = 1 from rfl)⟩, by rw [ht]; exact hP9, va_K.moved hW.alike hK, hD9⟩, hS.F ht⟩) hS.2.2 dX0_begin_75
      · -- no
        have k_15 : v_13.toInt < (40 : Int32).toInt := ci_nge c_15
        refine lv_aload_n hx hb dX0_begin_62 rfl (lv_at hl 1 rfl) ?_
        refine va_get (D := (dC, dI)) (ci := 0) (v := .ref fa_known) (C := RX0) (T := TX0) (N := 11) hx hb hts inv_X0_begin_X0 hown hK hP 0 rfl rfl 5 (by decide) (hts (.fieldLink RX0 30 "ArraySegments$Facts" "known" "[Z") (List.mem_of_getElem? (i := 8) rfl)) (fun _ h9 => h9) rfl dX0_begin_63 ?_
        refine lv_iload_n hx hb dX0_begin_66 rfl (lv_at hl 0 rfl) ?_
        refine lv_iconst (v := 0) hx hb dX0_begin_67 (by decide) ?_
        have ni_18 := nn_cl (z := v_13) (by omega)
        refine sf_zastU hx hb hK hP hD hS 5 2 rfl rfl h_f_14 (by decide) (vp_in_iff.mpr ⟨by omega, by omega⟩) dX0_begin_68 (fun f_16 h_f_16 u_f_16 H_17 locs_17 hP1 hD1 hS1 => ?_)
        replace hP : va_P (dC, dI) vwCl [(fh, .inr (0, [.int 1, .ref fa_least, .ref fa_greatest, .ref fa_sites, .ref fa_maybeNull, .ref fa_known, f_lanes, f_shortest, f_longest, f_leastAt, f_greatestAt])), (fa_least, .inl (cI, 6, .inl f_4)), (fa_greatest, .inl (cI, 6, .inl f_5)), (fa_sites, .inl (cJ, 6, .inr (.inl f_9))), (fa_maybeNull, .inl (cZ, 6, .inl f_10)), (fa_known, .inl (cZ, 40, .inl f_16))] H_17 := hP1
        replace hD : va_D A [(fh, .inr (0, [.int 1, .ref fa_least, .ref fa_greatest, .ref fa_sites, .ref fa_maybeNull, .ref fa_known, f_lanes, f_shortest, f_longest, f_leastAt, f_greatestAt])), (fa_least, .inl (cI, 6, .inl f_4)), (fa_greatest, .inl (cI, 6, .inl f_5)), (fa_sites, .inl (cJ, 6, .inr (.inl f_9))), (fa_maybeNull, .inl (cZ, 6, .inl f_10)), (fa_known, .inl (cZ, 40, .inl f_16))] := hD1
        replace hS := hS1
        clear hP1 hD1 hS1
        refine sf_iinc hx hb dX0_begin_69 hl (k := 0) (x := v_13) (w := 1) rfl (by decide) (by decide) ⟨by omega, by omega⟩ (fun v_19 q_v_19 ls1 hl1 => ?_)
        replace hl : lv_has ls1 2 [(1, .int v_19), (0, .ref fh)] := hl1
        clear hl1
        refine lv_goto (tgt := 56) hx hb dX0_begin_72 (by decide) ?_
        exact ih_12 (v_19, f_16) (show (0 ≤ v_19.toInt ∧ v_19.toInt ≤ 40) ∧ (∀ j : Nat, kZ (f_16 j)) from ⟨⟨by omega, by omega⟩, h_f_16⟩) (by show (40 - v_19.toInt).toNat < (40 - v_13.toInt).toNat; omega) _ _ _ (hP.sub [0, 1, 2, 3, 4, 5] rfl) (hD.sub [0, 1, 2, 3, 4, 5] (by decide) rfl) hS (lv_sub hl [0, 1] rfl)
    · -- no
      have k_11 : v_8.toInt < (6 : Int32).toInt := ci_nge c_11
      refine lv_aload_n hx hb dX0_begin_34 rfl (lv_at hl 1 rfl) ?_
      refine va_get (D := (dC, dI)) (ci := 0) (v := .ref fa_sites) (C := RX0) (T := TX0) (N := 11) hx hb hts inv_X0_begin_X0 hown hK hP 0 rfl rfl 3 (by decide) (hts (.fieldLink RX0 22 "ArraySegments$Facts" "sites" "[J") (List.mem_of_getElem? (i := 6) rfl)) (fun _ h9 => h9) rfl dX0_begin_35 ?_
      refine lv_iload_n hx hb dX0_begin_38 rfl (lv_at hl 0 rfl) ?_
      refine lv_lconst (v := 0) hx hb dX0_begin_39 (by decide) ?_
      have ni_22 := nn_cl (z := v_8) (by omega)
      refine sf_lastU2 lT hx hb hK hP hD hS 3 1 rfl rfl (fun _ => trivial) trivial (vp_in_iff.mpr ⟨by omega, by omega⟩) dX0_begin_40 (fun f_20 h_f_20 u_f_20 H_21 locs_21 hP1 hD1 hS1 => ?_)
      replace hP : va_P (dC, dI) vwCl [(fh, .inr (0, [.int 1, .ref fa_least, .ref fa_greatest, .ref fa_sites, .ref fa_maybeNull, .ref fa_known, f_lanes, f_shortest, f_longest, f_leastAt, f_greatestAt])), (fa_least, .inl (cI, 6, .inl f_4)), (fa_greatest, .inl (cI, 6, .inl f_5)), (fa_sites, .inl (cJ, 6, .inr (.inl f_20))), (fa_maybeNull, .inl (cZ, 6, .inl f_10)), (fa_known, .inl (cZ, 40, .inl fc_known))] H_21 := hP1
      replace hD : va_D A [(fh, .inr (0, [.int 1, .ref fa_least, .ref fa_greatest, .ref fa_sites, .ref fa_maybeNull, .ref fa_known, f_lanes, f_shortest, f_longest, f_leastAt, f_greatestAt])), (fa_least, .inl (cI, 6, .inl f_4)), (fa_greatest, .inl (cI, 6, .inl f_5)), (fa_sites, .inl (cJ, 6, .inr (.inl f_20))), (fa_maybeNull, .inl (cZ, 6, .inl f_10)), (fa_known, .inl (cZ, 40, .inl fc_known))] := hD1
      replace hS := hS1
      clear hP1 hD1 hS1
      refine lv_aload_n hx hb dX0_begin_41 rfl (lv_at hl 1 rfl) ?_
      refine va_get (D := (dC, dI)) (ci := 0) (v := .ref fa_maybeNull) (C := RX0) (T := TX0) (N := 11) hx hb hts inv_X0_begin_X0 hown hK hP 0 rfl rfl 4 (by decide) (hts (.fieldLink RX0 26 "ArraySegments$Facts" "maybeNull" "[Z") (List.mem_of_getElem? (i := 7) rfl)) (fun _ h9 => h9) rfl dX0_begin_42 ?_
      refine lv_iload_n hx hb dX0_begin_45 rfl (lv_at hl 0 rfl) ?_
      refine lv_iconst (v := 1) hx hb dX0_begin_46 (by decide) ?_
      have ni_25 := nn_cl (z := v_8) (by omega)
      refine sf_zastU hx hb hK hP hD hS 4 2 rfl rfl h_f_10 (by decide) (vp_in_iff.mpr ⟨by omega, by omega⟩) dX0_begin_47 (fun f_23 h_f_23 u_f_23 H_24 locs_24 hP1 hD1 hS1 => ?_)
      replace hP : va_P (dC, dI) vwCl [(fh, .inr (0, [.int 1, .ref fa_least, .ref fa_greatest, .ref fa_sites, .ref fa_maybeNull, .ref fa_known, f_lanes, f_shortest, f_longest, f_leastAt, f_greatestAt])), (fa_least, .inl (cI, 6, .inl f_4)), (fa_greatest, .inl (cI, 6, .inl f_5)), (fa_sites, .inl (cJ, 6, .inr (.inl f_20))), (fa_maybeNull, .inl (cZ, 6, .inl f_23)), (fa_known, .inl (cZ, 40, .inl fc_known))] H_24 := hP1
      replace hD : va_D A [(fh, .inr (0, [.int 1, .ref fa_least, .ref fa_greatest, .ref fa_sites, .ref fa_maybeNull, .ref fa_known, f_lanes, f_shortest, f_longest, f_leastAt, f_greatestAt])), (fa_least, .inl (cI, 6, .inl f_4)), (fa_greatest, .inl (cI, 6, .inl f_5)), (fa_sites, .inl (cJ, 6, .inr (.inl f_20))), (fa_maybeNull, .inl (cZ, 6, .inl f_23)), (fa_known, .inl (cZ, 40, .inl fc_known))] := hD1
      replace hS := hS1
      clear hP1 hD1 hS1
      refine sf_iinc hx hb dX0_begin_48 hl (k := 0) (x := v_8) (w := 1) rfl (by decide) (by decide) ⟨by omega, by omega⟩ (fun v_26 q_v_26 ls1 hl1 => ?_)
      replace hl : lv_has ls1 2 [(1, .int v_26), (0, .ref fh)] := hl1
      clear hl1
      refine lv_goto (tgt := 28) hx hb dX0_begin_51 (by decide) ?_
      exact ih_7 (v_26, f_20, f_23) (show (0 ≤ v_26.toInt ∧ v_26.toInt ≤ 6) ∧ (∀ j : Nat, kZ (f_23 j)) ∧ (∀ j : Nat, (j : Int) < v_26.toInt → (f_23 j).toInt = 1) from ⟨⟨by omega, by omega⟩, h_f_23, (fun j hj => by have b0 := u_f_23 j; have b1 := x_7_0 j; by_cases hq : j = (v_8).toNatClampNeg; (· subst hq; omega); (· omega))⟩) (by show (6 - v_26.toInt).toNat < (6 - v_8.toInt).toNat; omega) _ _ _ (hP.sub [0, 1, 2, 3, 4, 5] rfl) (hD.sub [0, 1, 2, 3, 4, 5] (by decide) rfl) hS (lv_sub hl [0, 1] rfl)
  · -- no
    have k_6 : v_3.toInt < (6 : Int32).toInt := ci_nge c_6
    have ni_27 := nn_cl (z := v_3) (by omega)
    refine lv_aload_n hx hb dX0_begin_13 rfl (lv_at hl 1 rfl) ?_
    refine lv_iload_n hx hb dX0_begin_14 rfl (lv_at hl 0 rfl) ?_
    refine lv_iconst (v := 0) hx hb dX0_begin_15 (by decide) ?_
    refine lv_iconst (v := 0) hx hb dX0_begin_16 (by decide) ?_
    have hPc := hP.sub (ws' := [(fh, .inr (0, [.int 1, .ref fa_least, .ref fa_greatest, .ref fa_sites, .ref fa_maybeNull, .ref fa_known, f_lanes, f_shortest, f_longest, f_leastAt, f_greatestAt])), (fa_least, .inl (cI, 6, .inl f_4)), (fa_greatest, .inl (cI, 6, .inl f_5))]) [0, 1, 2] rfl
    have hDc := hD.sub (ws' := [(fh, .inr (0, [.int 1, .ref fa_least, .ref fa_greatest, .ref fa_sites, .ref fa_maybeNull, .ref fa_known, f_lanes, f_shortest, f_longest, f_leastAt, f_greatestAt])), (fa_least, .inl (cI, 6, .inl f_4)), (fa_greatest, .inl (cI, 6, .inl f_5))]) [0, 1, 2] (by decide) rfl
    have hFc := va_free (wc := [(fh, .inr (0, [.int 1, .ref fa_least, .ref fa_greatest, .ref fa_sites, .ref fa_maybeNull, .ref fa_known, f_lanes, f_shortest, f_longest, f_leastAt, f_greatestAt])), (fa_least, .inl (cI, 6, .inl f_4)), (fa_greatest, .inl (cI, 6, .inl f_5))]) hD hS hA [0, 1, 2] rfl
    refine va_callv (va_runV (As := [.int v_3, .int 0, .int 0]) (rest := []) ⟨hx, hb, hml, hown, hts⟩ (s_X0_setSpan l dC dI cI cJ cZ fh 1 fa_least fa_greatest (.ref fa_sites) (.ref fa_maybeNull) (.ref fa_known) f_lanes f_shortest f_longest f_leastAt f_greatestAt f_4 f_5 v_3 0 0 H_2.size (by decide) (by first | assumption | omega)) (cwV 3 hts h_X0_begin_X0_setSpan_48 rfl rfl rfl (by decide +kernel) ⟨Nat.le_of_ble_eq_true rfl, Nat.le_of_ble_eq_true rfl⟩) ⟨cPre_blind, va_recv hK hPc (ci := 0) (q0 := 0) rfl rfl, cPre_of hK hN hPc hDc⟩ rfl rfl hl.1 rfl (lv_room (Nat.le_of_ble_eq_true rfl)) dX0_begin_17 ⟨Nat.le_of_ble_eq_true rfl, Nat.le_of_ble_eq_true rfl⟩) hS (fun q _ h => hFc q h) hFc (fun u_28 t_28 H_28 locs_28 ht hvm hw_28 hB hz1 hk1 hS1 => ?_)
    obtain ⟨f_29, f_30⟩ := u_28
    obtain ⟨hP1, hK1, hD1⟩ := hB
    rw [ht] at hP1
    obtain ⟨hP2, hD2⟩ := va_join (wr := [(fa_sites, .inl (cJ, 6, .inr (.inl fc_sites))), (fa_maybeNull, .inl (cZ, 6, .inl fc_maybeNull)), (fa_known, .inl (cZ, 40, .inl fc_known))]) (w1 := [(fh, .inr (0, [.int 1, .ref fa_least, .ref fa_greatest, .ref fa_sites, .ref fa_maybeNull, .ref fa_known, f_lanes, f_shortest, f_longest, f_leastAt, f_greatestAt])), (fa_least, .inl (cI, 6, .inl f_29)), (fa_greatest, .inl (cI, 6, .inl f_30))]) hP hD [0, 1, 2] [3, 4, 5] rfl rfl (by decide) (by decide) hk1 hFc hP1 hD1
    clear hPc hDc hFc hP1 hD1 hK1 hk1 hz1 hvm ht
    replace hP : va_P (dC, dI) vwCl [(fa_sites, .inl (cJ, 6, .inr (.inl fc_sites))), (fa_maybeNull, .inl (cZ, 6, .inl fc_maybeNull)), (fa_known, .inl (cZ, 40, .inl fc_known)), (fh, .inr (0, [.int 1, .ref fa_least, .ref fa_greatest, .ref fa_sites, .ref fa_maybeNull, .ref fa_known, f_lanes, f_shortest, f_longest, f_leastAt, f_greatestAt])), (fa_least, .inl (cI, 6, .inl f_29)), (fa_greatest, .inl (cI, 6, .inl f_30))] H_28 := hP2
    replace hD : va_D A [(fa_sites, .inl (cJ, 6, .inr (.inl fc_sites))), (fa_maybeNull, .inl (cZ, 6, .inl fc_maybeNull)), (fa_known, .inl (cZ, 40, .inl fc_known)), (fh, .inr (0, [.int 1, .ref fa_least, .ref fa_greatest, .ref fa_sites, .ref fa_maybeNull, .ref fa_known, f_lanes, f_shortest, f_longest, f_leastAt, f_greatestAt])), (fa_least, .inl (cI, 6, .inl f_29)), (fa_greatest, .inl (cI, 6, .inl f_30))] := hD2
    replace hS := hS1
    clear hP2 hD2 hS1
    replace hw_28 : (upI f_4 (v_3).toNatClampNeg (0 : Int32).toInt f_29) ∧ (upI f_5 (v_3).toNatClampNeg (0 : Int32).toInt f_30) := hw_28
    obtain ⟨x_28_0, x_28_1⟩ := hw_28
    refine sf_iinc hx hb dX0_begin_20 hl (k := 0) (x := v_3) (w := 1) rfl (by decide) (by decide) ⟨by omega, by omega⟩ (fun v_31 q_v_31 ls1 hl1 => ?_)
    replace hl : lv_has ls1 2 [(1, .int v_31), (0, .ref fh)] := hl1
    clear hl1
    refine lv_goto (tgt := 7) hx hb dX0_begin_23 (by decide) ?_
    exact ih_2 (v_31, f_29, f_30) (show (0 ≤ v_31.toInt ∧ v_31.toInt ≤ 6) ∧ (∀ j : Nat, (j : Int) < v_31.toInt → (f_29 j).toInt = 0) ∧ (∀ j : Nat, (j : Int) < v_31.toInt → (f_30 j).toInt = 0) from ⟨⟨by omega, by omega⟩, (fun j hj => by have b0 := x_28_0 j; have b1 := x_2_0 j; by_cases hq : j = (v_3).toNatClampNeg; (· subst hq; omega); (· omega)), (fun j hj => by have b0 := x_28_1 j; have b1 := x_2_1 j; by_cases hq : j = (v_3).toNatClampNeg; (· subst hq; omega); (· omega))⟩) (by show (6 - v_31.toInt).toNat < (6 - v_3.toInt).toNat; omega) _ _ _ (hP.sub [3, 4, 5, 0, 1, 2] rfl) (hD.sub [3, 4, 5, 0, 1, 2] (by decide) rfl) hS (lv_sub hl [0, 1] rfl)
