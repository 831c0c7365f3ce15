def v_X0_countSegments : List Cond := .code yX0_countSegments cX0_countSegments 4 (some .int) :: ([.fieldLink RX0 39 "ArraySegments$Facts" "longest" "[I", .methodLink RX0 110 yX0_beginsSegment, .instanceMethod yX0_beginsSegment, .selects RX0 yX0_beginsSegment yX0_beginsSegment, .initialized RX0] ++ (wsX00 ++ (v_X0_beginsSegment)))
theorem inv_X0_countSegments_X0 : ∀ w ∈ wsX00, w ∈ v_X0_countSegments := fun _ h => List.mem_cons_of_mem _ (List.mem_append_right _ (List.mem_append_left _ h))
theorem im_X0_countSegments_X0_beginsSegment : ∀ w ∈ v_X0_beginsSegment, w ∈ v_X0_countSegments := fun _ h => List.mem_cons_of_mem _ (List.mem_append_right _ (List.mem_append_right _ (h)))
set_option maxRecDepth 20000 in
theorem gd_X0_countSegments : gdL v_X0_countSegments := gdC (gdW (by decide +kernel)) (gdA (gdW (by decide +kernel)) (gdA gd_wsX00 gd_X0_beginsSegment))
set_option maxRecDepth 20000 in
theorem h_X0_countSegments_X0_beginsSegment_110 : GoodIn v_X0_countSegments (wsV RX0 110 RX0 yX0_beginsSegment v_X0_beginsSegment) := gdI [2, 3, 4, 5] rfl (by decide +kernel) (im_X0_countSegments_X0_beginsSegment) gd_X0_beginsSegment
abbrev sw_X0_countSegments (cI cJ cZ : ClassId) (fh : Nat) (f_isReached : Int32) (f_least : Value) (f_greatest : Value) (f_sites : Value) (f_maybeNull : Value) (f_known : Value) (f_lanes : Value) (f_shortest : Value) (fa_longest : Nat) (fa_leastAt : Nat) (fa_greatestAt : Nat) (fc_longest : Nat → Int32) (fc_leastAt : Nat → Int32) (fc_greatestAt : Nat → Int32) (ia : Int32) : va_W := [(fh, .inr (0, [.int f_isReached, f_least, f_greatest, f_sites, f_maybeNull, f_known, f_lanes, f_shortest, .ref fa_longest, .ref fa_leastAt, .ref fa_greatestAt])), (fa_longest, .inl (cI, 40, .inl fc_longest)), (fa_leastAt, .inl (cI, 480, .inl fc_leastAt)), (fa_greatestAt, .inl (cI, 480, .inl fc_greatestAt))]
set_option maxHeartbeats 8000000 in
set_option maxRecDepth 100000 in
theorem s_X0_countSegments (l : Launch) (dC : Nat → ClassId) (dI : Nat → Nat → Nat) (cI cJ cZ : ClassId) (fh : Nat) (f_isReached : Int32) (f_least : Value) (f_greatest : Value) (f_sites : Value) (f_maybeNull : Value) (f_known : Value) (f_lanes : Value) (f_shortest : Value) (fa_longest : Nat) (fa_leastAt : Nat) (fa_greatestAt : Nat) (fc_longest : Nat → Int32) (fc_leastAt : Nat → Int32) (fc_greatestAt : Nat → Int32) (ia : Int32) (sz : Nat) (q_f_isReached : kZ f_isReached) (h_fc_longest : ∀ j : Nat, kLE12 (fc_longest j)) (hy_ia : 0 ≤ ia.toInt ∧ ia.toInt ≤ 39) : Met l yX0_countSegments v_X0_countSegments ({ frames := 2, cells := 0, slots := 0, locals := 47 }) (va_Pc [.ref fh, .int ia] (cPre dC dI cI cJ cZ sz (sw_X0_countSegments cI cJ cZ fh f_isReached f_least f_greatest f_sites f_maybeNull f_known f_lanes f_shortest fa_longest fa_leastAt fa_greatestAt fc_longest fc_leastAt fc_greatestAt ia))) (va_Qi (fun (r : Int32) (u : Unit) => True) (fun (u : Unit) => cPost dC dI cI cJ cZ (va_A (sw_X0_countSegments cI cJ cZ fh f_isReached f_least f_greatest f_sites f_maybeNull f_known f_lanes f_shortest fa_longest fa_leastAt fa_greatestAt fc_longest fc_leastAt fc_greatestAt ia) sz) [(fh, .inr (0, [.int f_isReached, f_least, f_greatest, f_sites, f_maybeNull, f_known, f_lanes, f_shortest, .ref fa_longest, .ref fa_leastAt, .ref fa_greatestAt])), (fa_longest, .inl (cI, 40, .inl fc_longest)), (fa_leastAt, .inl (cI, 480, .inl fc_leastAt)), (fa_greatestAt, .inl (cI, 480, .inl fc_greatestAt))]) (va_A (sw_X0_countSegments cI cJ cZ fh f_isReached f_least f_greatest f_sites f_maybeNull f_known f_lanes f_shortest fa_longest fa_leastAt fa_greatestAt fc_longest fc_leastAt fc_greatestAt ia) sz)) 0 0 (va_A (sw_X0_countSegments cI cJ cZ fh f_isReached f_least f_greatest f_sites f_maybeNull f_known f_lanes f_shortest fa_longest fa_leastAt fa_greatestAt fc_longest fc_leastAt fc_greatestAt ia) sz) := by
  refine Met.ofW (cc := cX0_countSegments) (maxL := 4) (ret := (some .int)) (by decide) rfl ?_
  intro p e s m args below meth c s₁ B hml hv
  obtain ⟨rfl, hsz, hP, hK, hD0, hN⟩ := hv
  have hx := B.exec
  have hb := B.bytes
  have hr := B.returns
  have hts := atoms_spec (ws := v_X0_countSegments) B.pre
  have hown : s.vm.findClass RX0 = some m.cls := findClass_of_methodNamed B.named
  have hlocks := B.notSynchronized
  subst hsz
  have hD := hD0.self (sz := s.heap.size)
  generalize hAe : va_A (sw_X0_countSegments cI cJ cZ fh f_isReached f_least f_greatest f_sites f_maybeNull f_known f_lanes f_shortest fa_longest fa_leastAt fa_greatestAt fc_longest fc_leastAt fc_greatestAt ia) s.heap.size = A at hD ⊢
  have hA : ∀ q : Nat, s.heap.size ≤ q → A q := fun q h => by rw [← hAe]; exact Or.inr h
  clear hAe hD0
  have hS : va_S A s.heap s.heap [] := va_S.rf
  replace hP : va_P (dC, dI) vwCl [(fh, .inr (0, [.int f_isReached, f_least, f_greatest, f_sites, f_maybeNull, f_known, f_lanes, f_shortest, .ref fa_longest, .ref fa_leastAt, .ref fa_greatestAt])), (fa_longest, .inl (cI, 40, .inl fc_longest)), (fa_leastAt, .inl (cI, 480, .inl fc_leastAt)), (fa_greatestAt, .inl (cI, 480, .inl fc_greatestAt))] s.heap := hP
  replace hD : va_D A [(fh, .inr (0, [.int f_isReached, f_least, f_greatest, f_sites, f_maybeNull, f_known, f_lanes, f_shortest, .ref fa_longest, .ref fa_leastAt, .ref fa_greatestAt])), (fa_longest, .inl (cI, 40, .inl fc_longest)), (fa_leastAt, .inl (cI, 480, .inl fc_leastAt)), (fa_greatestAt, .inl (cI, 480, .inl fc_greatestAt))] := hD
  have hl := lv_entry ([.ref fh, .int ia]) (n := 4) (Nat.le_of_ble_eq_true rfl)
  rw [lg_entry_eq]
  generalize (lg_sl ([.ref fh, .int ia]) ++ List.replicate (4 - (lg_sl ([.ref fh, .int ia])).length) Slot.unset).toArray = ls at hl ⊢
  replace hl : lv_has ls 4 [(0, .ref fh), (1, .int ia)] := hl
  have z_0 : (0 : Int32).toInt = 0 := by decide
  have z_1 : (1 : Int32).toInt = 1 := by decide
  refine lv_iconst (v := 0) hx hb dX0_countSegments_0 (by decide) ?_
  refine lv_istore_n (lv' := [(2, .int 0), (0, .ref fh), (1, .int ia)]) hx hb dX0_countSegments_1 rfl hl (by decide) rfl (fun ls1 hl1 => ?_)
  replace hl := hl1; clear hl1
  refine lv_iconst (v := 0) hx hb dX0_countSegments_2 (by decide) ?_
  refine lv_istore_n (lv' := [(3, .int 0), (2, .int 0), (0, .ref fh), (1, .int ia)]) hx hb dX0_countSegments_3 rfl hl (by decide) rfl (fun ls1 hl1 => ?_)
  replace hl := hl1; clear hl1
  refine my_wloop (S := Int32 × Int32) (fun u => (0 ≤ (u.1).toInt ∧ (u.1).toInt ≤ 12)) (fun u => (12 - (u.1).toInt).toNat) (fun u => [(fh, .inr (0, [.int f_isReached, f_least, f_greatest, f_sites, f_maybeNull, f_known, f_lanes, f_shortest, .ref fa_longest, .ref fa_leastAt, .ref fa_greatestAt])), (fa_longest, .inl (cI, 40, .inl fc_longest)), (fa_leastAt, .inl (cI, 480, .inl fc_leastAt)), (fa_greatestAt, .inl (cI, 480, .inl fc_greatestAt))]) (fun u => [(3, .int (u.1)), (2, .int (u.2)), (0, .ref fh), (1, .int ia)]) (H0 := s.heap) (A := A) (D := (dC, dI)) (cl := vwCl) ((0 : Int32), (0 : Int32)) (show (0 ≤ (0 : Int32).toInt ∧ (0 : Int32).toInt ≤ 12) from ⟨by omega, by omega⟩) (by exact hP) (by exact hD) hS (by exact hl) (fun u_1 hu_1 ih_1 H_1 locs_1 ls1 hP1 hD1 hS1 hl1 => ?_)
  obtain ⟨v_2, v_3⟩ := u_1
  replace hu_1 : (0 ≤ v_2.toInt ∧ v_2.toInt ≤ 12) := hu_1
  have q_v_2 := hu_1
  replace hP : va_P (dC, dI) vwCl [(fh, .inr (0, [.int f_isReached, f_least, f_greatest, f_sites, f_maybeNull, f_known, f_lanes, f_shortest, .ref fa_longest, .ref fa_leastAt, .ref fa_greatestAt])), (fa_longest, .inl (cI, 40, .inl fc_longest)), (fa_leastAt, .inl (cI, 480, .inl fc_leastAt)), (fa_greatestAt, .inl (cI, 480, .inl fc_greatestAt))] H_1 := hP1
  replace hD : va_D A [(fh, .inr (0, [.int f_isReached, f_least, f_greatest, f_sites, f_maybeNull, f_known, f_lanes, f_shortest, .ref fa_longest, .ref fa_leastAt, .ref fa_greatestAt])), (fa_longest, .inl (cI, 40, .inl fc_longest)), (fa_leastAt, .inl (cI, 480, .inl fc_leastAt)), (fa_greatestAt, .inl (cI, 480, .inl fc_greatestAt))] := hD1
  replace hS := hS1
  clear hP1 hD1 hS1
  replace hl : lv_has ls1 4 [(3, .int v_2), (2, .int v_3), (0, .ref fh), (1, .int ia)] := hl1
  clear hl1
  refine lv_iload_n hx hb dX0_countSegments_4 rfl (lv_at hl 0 rfl) ?_
  refine lv_aload_n hx hb dX0_countSegments_5 rfl (lv_at hl 2 rfl) ?_
  refine va_get (D := (dC, dI)) (ci := 0) (v := .ref fa_longest) (C := RX0) (T := TX0) (N := 11) hx hb hts inv_X0_countSegments_X0 hown hK hP 0 rfl rfl 8 (by decide) (hts (.fieldLink RX0 39 "ArraySegments$Facts" "longest" "[I") (List.mem_of_getElem? (i := 1) rfl)) (fun _ h9 => h9) rfl dX0_countSegments_6 ?_
  refine lv_iload_n hx hb dX0_countSegments_9 rfl (lv_at hl 3 rfl) ?_
  refine sf_iald kLE12 hx hb hK hP 1 0 rfl rfl h_fc_longest (vp_in_iff.mpr ⟨by omega, by omega⟩) dX0_countSegments_10 (fun v_4 q_v_4 e_v_4 => ?_)
  refine lv_icmp_ge (tgt := 32) hx hb dX0_countSegments_11 (by decide) (fun c_5 => ?_) (fun c_5 => ?_)
  · -- yes
    have k_5 : v_4.toInt ≤ v_2.toInt := ci_ge c_5
    refine lv_iload_n hx hb dX0_countSegments_32 rfl (lv_at hl 1 rfl) ?_
    have hP9 := hP.sub (ws' := [(fh, .inr (0, [.int f_isReached, f_least, f_greatest, f_sites, f_maybeNull, f_known, f_lanes, f_shortest, .ref fa_longest, .ref fa_leastAt, .ref fa_greatestAt])), (fa_longest, .inl (cI, 40, .inl fc_longest)), (fa_leastAt, .inl (cI, 480, .inl fc_leastAt)), (fa_greatestAt, .inl (cI, 480, .inl fc_greatestAt))]) [0, 1, 2, 3] rfl
    have hD9 := hD.sub (ws' := [(fh, .inr (0, [.int f_isReached, f_least, f_greatest, f_sites, f_maybeNull, f_known, f_lanes, f_shortest, .ref fa_longest, .ref fa_leastAt, .ref fa_greatestAt])), (fa_longest, .inl (cI, 40, .inl fc_longest)), (fa_leastAt, .inl (cI, 480, .inl fc_leastAt)), (fa_greatestAt, .inl (cI, 480, .inl fc_greatestAt))]) [0, 1, 2, 3] (by decide) rfl
    exact W.iret (v := v_3) hx hb hr (fun t ht hW => ⟨⟨v_3, (), rfl, trivial, by rw [ht]; exact hP9, va_K.moved hW.alike hK, hD9⟩, hS.F ht⟩) hS.2.2 dX0_countSegments_33
  · -- no
    have k_5 : v_2.toInt < v_4.toInt := ci_nge c_5
    refine lv_aload_n hx hb dX0_countSegments_14 rfl (lv_at hl 2 rfl) ?_
    refine lv_iload_n hx hb dX0_countSegments_15 rfl (lv_at hl 3 rfl) ?_
    refine lv_iload_n hx hb dX0_countSegments_16 rfl (lv_at hl 0 rfl) ?_
    have hPc := hP.sub (ws' := [(fh, .inr (0, [.int f_isReached, f_least, f_greatest, f_sites, f_maybeNull, f_known, f_lanes, f_shortest, .ref fa_longest, .ref fa_leastAt, .ref fa_greatestAt])), (fa_leastAt, .inl (cI, 480, .inl fc_leastAt)), (fa_greatestAt, .inl (cI, 480, .inl fc_greatestAt))]) [0, 2, 3] rfl
    have hDc := hD.sub (ws' := [(fh, .inr (0, [.int f_isReached, f_least, f_greatest, f_sites, f_maybeNull, f_known, f_lanes, f_shortest, .ref fa_longest, .ref fa_leastAt, .ref fa_greatestAt])), (fa_leastAt, .inl (cI, 480, .inl fc_leastAt)), (fa_greatestAt, .inl (cI, 480, .inl fc_greatestAt))]) [0, 2, 3] (by decide) rfl
    have hFc := va_free (wc := [(fh, .inr (0, [.int f_isReached, f_least, f_greatest, f_sites, f_maybeNull, f_known, f_lanes, f_shortest, .ref fa_longest, .ref fa_leastAt, .ref fa_greatestAt])), (fa_leastAt, .inl (cI, 480, .inl fc_leastAt)), (fa_greatestAt, .inl (cI, 480, .inl fc_greatestAt))]) hD hS hA [0, 2, 3] rfl
    refine va_calli (va_runV (As := [.int ia, .int v_2]) (rest := []) ⟨hx, hb, hml, hown, hts⟩ (s_X0_beginsSegment l dC dI cI cJ cZ fh f_isReached f_least f_greatest f_sites f_maybeNull f_known f_lanes f_shortest (.ref fa_longest) fa_leastAt fa_greatestAt fc_leastAt fc_greatestAt ia v_2 H_1.size q_f_isReached (by first | assumption | omega) (by first | assumption | omega)) (cwV 2 hts h_X0_countSegments_X0_beginsSegment_110 rfl rfl rfl (by decide +kernel) ⟨Nat.le_of_ble_eq_true rfl, Nat.le_of_ble_eq_true rfl⟩) ⟨cPre_blind, va_recv hK hPc (ci := 0) (q0 := 0) rfl rfl, cPre_of hK hN hPc hDc⟩ rfl rfl hl.1 rfl (lv_room (Nat.le_of_ble_eq_true rfl)) dX0_countSegments_17 ⟨Nat.le_of_ble_eq_true rfl, Nat.le_of_ble_eq_true rfl⟩) hS (fun q _ h => hFc q h) hFc (fun r_6 u_6 t_6 H_6 locs_6 ht hvm hw_6 hB hz1 hk1 hS1 => ?_)
    obtain ⟨hP1, hK1, hD1⟩ := hB
    rw [ht] at hP1
    obtain ⟨hP2, hD2⟩ := va_join (wr := [(fa_longest, .inl (cI, 40, .inl fc_longest))]) (w1 := [(fh, .inr (0, [.int f_isReached, f_least, f_greatest, f_sites, f_maybeNull, f_known, f_lanes, f_shortest, .ref fa_longest, .ref fa_leastAt, .ref fa_greatestAt])), (fa_leastAt, .inl (cI, 480, .inl fc_leastAt)), (fa_greatestAt, .inl (cI, 480, .inl fc_greatestAt))]) hP hD [0, 2, 3] [1] rfl rfl (by decide) (by decide) hk1 hFc hP1 hD1
    clear hPc hDc hFc hP1 hD1 hK1 hk1 hz1 hvm ht
    replace hP : va_P (dC, dI) vwCl [(fa_longest, .inl (cI, 40, .inl fc_longest)), (fh, .inr (0, [.int f_isReached, f_least, f_greatest, f_sites, f_maybeNull, f_known, f_lanes, f_shortest, .ref fa_longest, .ref fa_leastAt, .ref fa_greatestAt])), (fa_leastAt, .inl (cI, 480, .inl fc_leastAt)), (fa_greatestAt, .inl (cI, 480, .inl fc_greatestAt))] H_6 := hP2
    replace hD : va_D A [(fa_longest, .inl (cI, 40, .inl fc_longest)), (fh, .inr (0, [.int f_isReached, f_least, f_greatest, f_sites, f_maybeNull, f_known, f_lanes, f_shortest, .ref fa_longest, .ref fa_leastAt, .ref fa_greatestAt])), (fa_leastAt, .inl (cI, 480, .inl fc_leastAt)), (fa_greatestAt, .inl (cI, 480, .inl fc_greatestAt))] := hD2
    replace hS := hS1
    clear hP2 hD2 hS1
    replace hw_6 : (kZ r_6) := hw_6
    have q_r_6 := hw_6
    refine my_join (S := Int32) (fun u => True) (fun u => [(fa_longest, .inl (cI, 40, .inl fc_longest)), (fh, .inr (0, [.int f_isReached, f_least, f_greatest, f_sites, f_maybeNull, f_known, f_lanes, f_shortest, .ref fa_longest, .ref fa_leastAt, .ref fa_greatestAt])), (fa_leastAt, .inl (cI, 480, .inl fc_leastAt)), (fa_greatestAt, .inl (cI, 480, .inl fc_greatestAt))]) (fun u => [(3, .int v_2), (2, .int (u)), (0, .ref fh), (1, .int ia)]) (fun u => []) (nL := 4) (H0 := s.heap) (A := A) (D := (dC, dI)) (cl := vwCl) 26 (fun u_8 hu_8 H_8 locs_8 ls1 hP1 hD1 hS1 hl1 => ?_) (fun jn_8 => ?_)
    · -- behind 26
      obtain ⟨v_9, rfl⟩ : ∃ z, z = u_8 := ⟨_, rfl⟩
      replace hP : va_P (dC, dI) vwCl [(fa_longest, .inl (cI, 40, .inl fc_longest)), (fh, .inr (0, [.int f_isReached, f_least, f_greatest, f_sites, f_maybeNull, f_known, f_lanes, f_shortest, .ref fa_longest, .ref fa_leastAt, .ref fa_greatestAt])), (fa_leastAt, .inl (cI, 480, .inl fc_leastAt)), (fa_greatestAt, .inl (cI, 480, .inl fc_greatestAt))] H_8 := hP1
      replace hD : va_D A [(fa_longest, .inl (cI, 40, .inl fc_longest)), (fh, .inr (0, [.int f_isReached, f_least, f_greatest, f_sites, f_maybeNull, f_known, f_lanes, f_shortest, .ref fa_longest, .ref fa_leastAt, .ref fa_greatestAt])), (fa_leastAt, .inl (cI, 480, .inl fc_leastAt)), (fa_greatestAt, .inl (cI, 480, .inl fc_greatestAt))] := hD1
      replace hS := hS1
      clear hP1 hD1 hS1
      replace hl : lv_has ls1 4 [(3, .int v_2), (2, .int v_9), (0, .ref fh), (1, .int ia)] := hl1
      clear hl1
      refine sf_iinc hx hb dX0_countSegments_26 hl (k := 0) (x := v_2) (w := 1) rfl (by decide) (by decide) ⟨by omega, by omega⟩ (fun v_10 q_v_10 ls1 hl1 => ?_)
      replace hl : lv_has ls1 4 [(3, .int v_10), (2, .int v_9), (0, .ref fh), (1, .int ia)] := hl1
      clear hl1
      refine lv_goto (tgt := 4) hx hb dX0_countSegments_29 (by decide) ?_
      exact ih_1 (v_10, v_9) (show (0 ≤ v_10.toInt ∧ v_10.toInt ≤ 12) from ⟨by omega, by omega⟩) (by show (12 - v_10.toInt).toNat < (12 - v_2.toInt).toNat; omega) _ _ _ (hP.sub [1, 0, 2, 3] rfl) (hD.sub [1, 0, 2, 3] (by decide) rfl) hS (lv_sub hl [0, 1, 2, 3] rfl)
    · -- ahead of 26
      refine lv_if_eq (tgt := 26) hx hb dX0_countSegments_20 (by decide) (fun c_11 => ?_) (fun c_11 => ?_)
      · -- yes
        have k_11 : r_6.toInt = (0 : Int32).toInt := ci_eq c_11
        exact jn_8 v_3 (show True from trivial) _ _ _ (hP.sub [0, 1, 2, 3] rfl) (hD.sub [0, 1, 2, 3] (by decide) rfl) hS (lv_sub hl [0, 1, 2, 3] rfl)
      · -- no
        have k_11 : ¬ r_6.toInt = (0 : Int32).toInt := ci_ne c_11
        refine sf_iincA hx hb dX0_countSegments_23 hl (k := 1) (x := v_3) rfl (by decide) (fun v_12 ls1 hl1 => ?_)
        replace hl : lv_has ls1 4 [(2, .int v_12), (3, .int v_2), (0, .ref fh), (1, .int ia)] := hl1
        clear hl1
        exact jn_8 v_12 (show True from trivial) _ _ _ (hP.sub [0, 1, 2, 3] rfl) (hD.sub [0, 1, 2, 3] (by decide) rfl) hS (lv_sub hl [1, 0, 2, 3] rfl)
