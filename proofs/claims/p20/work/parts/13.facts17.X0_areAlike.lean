def v_X0_areAlike : List Cond := .code yX0_areAlike cX0_areAlike 6 (some .boolean) :: ([.fieldLink RX0 42 "ArraySegments$Facts" "leastAt" "[I", .fieldLink RX0 45 "ArraySegments$Facts" "greatestAt" "[I"] ++ (wsX00))
theorem inv_X0_areAlike_X0 : ∀ w ∈ wsX00, w ∈ v_X0_areAlike := fun _ h => List.mem_cons_of_mem _ (List.mem_append_right _ (h))
set_option maxRecDepth 20000 in
theorem gd_X0_areAlike : gdL v_X0_areAlike := gdC (gdW (by decide +kernel)) (gdA (gdW (by decide +kernel)) gd_wsX00)
abbrev sw_X0_areAlike (cI cJ cZ : ClassId) (fh : Nat) (f_isReached : Int32) (f_least : Value) (f_greatest : Value) (f_sites : Value) (f_maybeNull : Value) (f_known : Value) (f_lanes : Value) (f_shortest : Value) (f_longest : Value) (fa_leastAt : Nat) (fa_greatestAt : Nat) (fc_leastAt : Nat → Int32) (fc_greatestAt : Nat → Int32) (ia : Int32) (pa : Int32) (qa : Int32) : va_W := [(fh, .inr (0, [.int f_isReached, f_least, f_greatest, f_sites, f_maybeNull, f_known, f_lanes, f_shortest, f_longest, .ref fa_leastAt, .ref fa_greatestAt])), (fa_leastAt, .inl (cI, 480, .inl fc_leastAt)), (fa_greatestAt, .inl (cI, 480, .inl fc_greatestAt))]
set_option maxHeartbeats 8000000 in
set_option maxRecDepth 100000 in
theorem s_X0_areAlike (l : Launch) (dC : Nat → ClassId) (dI : Nat → Nat → Nat) (cI cJ cZ : ClassId) (fh : Nat) (f_isReached : Int32) (f_least : Value) (f_greatest : Value) (f_sites : Value) (f_maybeNull : Value) (f_known : Value) (f_lanes : Value) (f_shortest : Value) (f_longest : Value) (fa_leastAt : Nat) (fa_greatestAt : Nat) (fc_leastAt : Nat → Int32) (fc_greatestAt : Nat → Int32) (ia : Int32) (pa : Int32) (qa : Int32) (sz : Nat) (q_f_isReached : kZ f_isReached) (hy_ia : 0 ≤ ia.toInt ∧ ia.toInt ≤ 39) (hy_pa : 0 ≤ pa.toInt ∧ pa.toInt ≤ 11) (hy_qa : 0 ≤ qa.toInt ∧ qa.toInt ≤ 11) : Met l yX0_areAlike v_X0_areAlike ({ frames := 0, cells := 0, slots := 0, locals := 0 }) (va_Pc [.ref fh, .int ia, .int pa, .int qa] (cPre dC dI cI cJ cZ sz (sw_X0_areAlike cI cJ cZ fh f_isReached f_least f_greatest f_sites f_maybeNull f_known f_lanes f_shortest f_longest fa_leastAt fa_greatestAt fc_leastAt fc_greatestAt ia pa qa))) (va_Qi (fun (r : Int32) (u : Unit) => (kZ r)) (fun (u : Unit) => cPost dC dI cI cJ cZ (va_A (sw_X0_areAlike cI cJ cZ fh f_isReached f_least f_greatest f_sites f_maybeNull f_known f_lanes f_shortest f_longest fa_leastAt fa_greatestAt fc_leastAt fc_greatestAt ia pa qa) sz) [(fh, .inr (0, [.int f_isReached, f_least, f_greatest, f_sites, f_maybeNull, f_known, f_lanes, f_shortest, f_longest, .ref fa_leastAt, .ref fa_greatestAt])), (fa_leastAt, .inl (cI, 480, .inl fc_leastAt)), (fa_greatestAt, .inl (cI, 480, .inl fc_greatestAt))]) (va_A (sw_X0_areAlike cI cJ cZ fh f_isReached f_least f_greatest f_sites f_maybeNull f_known f_lanes f_shortest f_longest fa_leastAt fa_greatestAt fc_leastAt fc_greatestAt ia pa qa) sz)) 0 0 (va_A (sw_X0_areAlike cI cJ cZ fh f_isReached f_least f_greatest f_sites f_maybeNull f_known f_lanes f_shortest f_longest fa_leastAt fa_greatestAt fc_leastAt fc_greatestAt ia pa qa) sz) := by
  refine Met.ofW (cc := cX0_areAlike) (maxL := 6) (ret := (some .boolean)) (by decide) rfl ?_
  intro p e s m args below meth c s₁ B hml hv
  obtain ⟨rfl, hsz, hP, hK, hD0, hN⟩ := hv
  have hx := B.exec
  have hb := B.bytes
  have hr := B.returns
  have hts := atoms_spec (ws := v_X0_areAlike) B.pre
  have hown : s.vm.findClass RX0 = some m.cls := findClass_of_methodNamed B.named
  have hlocks := B.notSynchronized
  subst hsz
  have hD := hD0.self (sz := s.heap.size)
  generalize hAe : va_A (sw_X0_areAlike cI cJ cZ fh f_isReached f_least f_greatest f_sites f_maybeNull f_known f_lanes f_shortest f_longest fa_leastAt fa_greatestAt fc_leastAt fc_greatestAt ia pa qa) s.heap.size = A at hD ⊢
  have hA : ∀ q : Nat, s.heap.size ≤ q → A q := fun q h => by rw [← hAe]; exact Or.inr h
  clear hAe hD0
  have hS : va_S A s.heap s.heap [] := va_S.rf
  replace hP : va_P (dC, dI) vwCl [(fh, .inr (0, [.int f_isReached, f_least, f_greatest, f_sites, f_maybeNull, f_known, f_lanes, f_shortest, f_longest, .ref fa_leastAt, .ref fa_greatestAt])), (fa_leastAt, .inl (cI, 480, .inl fc_leastAt)), (fa_greatestAt, .inl (cI, 480, .inl fc_greatestAt))] s.heap := hP
  replace hD : va_D A [(fh, .inr (0, [.int f_isReached, f_least, f_greatest, f_sites, f_maybeNull, f_known, f_lanes, f_shortest, f_longest, .ref fa_leastAt, .ref fa_greatestAt])), (fa_leastAt, .inl (cI, 480, .inl fc_leastAt)), (fa_greatestAt, .inl (cI, 480, .inl fc_greatestAt))] := hD
  have hl := lv_entry ([.ref fh, .int ia, .int pa, .int qa]) (n := 6) (Nat.le_of_ble_eq_true rfl)
  rw [lg_entry_eq]
  generalize (lg_sl ([.ref fh, .int ia, .int pa, .int qa]) ++ List.replicate (6 - (lg_sl ([.ref fh, .int ia, .int pa, .int qa])).length) Slot.unset).toArray = ls at hl ⊢
  replace hl : lv_has ls 6 [(0, .ref fh), (1, .int ia), (2, .int pa), (3, .int qa)] := hl
  have z_0 : (0 : Int32).toInt = 0 := by decide
  have z_1 : (1 : Int32).toInt = 1 := by decide
  refine lv_iload_n hx hb dX0_areAlike_0 rfl (lv_at hl 1 rfl) ?_
  refine lv_bipush (v := 12) hx hb dX0_areAlike_1 (by decide) ?_
  refine sf_imul (w := ia.toInt) (z := 12) hx hb dX0_areAlike_3 rfl (by decide) ⟨by omega, by omega⟩ (fun v_1 q_v_1 => ?_)
  refine lv_iload_n hx hb dX0_areAlike_4 rfl (lv_at hl 2 rfl) ?_
  refine sf_iadd hx hb dX0_areAlike_5 ⟨by omega, by omega⟩ (fun v_2 q_v_2 => ?_)
  refine lv_istore (lv' := [(4, .int v_2), (0, .ref fh), (1, .int ia), (2, .int pa), (3, .int qa)]) hx hb dX0_areAlike_6 hl (by decide) rfl (fun ls1 hl1 => ?_)
  replace hl := hl1; clear hl1
  refine lv_iload_n hx hb dX0_areAlike_8 rfl (lv_at hl 2 rfl) ?_
  refine lv_bipush (v := 12) hx hb dX0_areAlike_9 (by decide) ?_
  refine sf_imul (w := ia.toInt) (z := 12) hx hb dX0_areAlike_11 rfl (by decide) ⟨by omega, by omega⟩ (fun v_3 q_v_3 => ?_)
  refine lv_iload_n hx hb dX0_areAlike_12 rfl (lv_at hl 4 rfl) ?_
  refine sf_iadd hx hb dX0_areAlike_13 ⟨by omega, by omega⟩ (fun v_4 q_v_4 => ?_)
  refine lv_istore (lv' := [(5, .int v_4), (4, .int v_2), (0, .ref fh), (1, .int ia), (2, .int pa), (3, .int qa)]) hx hb dX0_areAlike_14 hl (by decide) rfl (fun ls1 hl1 => ?_)
  replace hl := hl1; clear hl1
  refine lv_aload_n hx hb dX0_areAlike_16 rfl (lv_at hl 2 rfl) ?_
  refine va_get (D := (dC, dI)) (ci := 0) (v := .ref fa_leastAt) (C := RX0) (T := TX0) (N := 11) hx hb hts inv_X0_areAlike_X0 hown hK hP 0 rfl rfl 9 (by decide) (hts (.fieldLink RX0 42 "ArraySegments$Facts" "leastAt" "[I") (List.mem_of_getElem? (i := 1) rfl)) (fun _ h9 => h9) rfl dX0_areAlike_17 ?_
  refine lv_iload hx hb dX0_areAlike_20 (lv_at hl 1 rfl) ?_
  refine sf_iald kT hx hb hK hP 1 0 rfl rfl (fun _ => trivial) (vp_in_iff.mpr ⟨by omega, by omega⟩) dX0_areAlike_22 (fun v_5 q_v_5 e_v_5 => ?_)
  refine lv_aload_n hx hb dX0_areAlike_23 rfl (lv_at hl 2 rfl) ?_
  refine va_get (D := (dC, dI)) (ci := 0) (v := .ref fa_leastAt) (C := RX0) (T := TX0) (N := 11) hx hb hts inv_X0_areAlike_X0 hown hK hP 0 rfl rfl 9 (by decide) (hts (.fieldLink RX0 42 "ArraySegments$Facts" "leastAt" "[I") (List.mem_of_getElem? (i := 1) rfl)) (fun _ h9 => h9) rfl dX0_areAlike_24 ?_
  refine lv_iload hx hb dX0_areAlike_27 (lv_at hl 0 rfl) ?_
  refine sf_iald kT hx hb hK hP 1 0 rfl rfl (fun _ => trivial) (vp_in_iff.mpr ⟨by omega, by omega⟩) dX0_areAlike_29 (fun v_6 q_v_6 e_v_6 => ?_)
  refine my_join (S := Int32) (fun u => (kZ (u))) (fun u => [(fh, .inr (0, [.int f_isReached, f_least, f_greatest, f_sites, f_maybeNull, f_known, f_lanes, f_shortest, f_longest, .ref fa_leastAt, .ref fa_greatestAt])), (fa_leastAt, .inl (cI, 480, .inl fc_leastAt)), (fa_greatestAt, .inl (cI, 480, .inl fc_greatestAt))]) (fun u => [(5, .int v_4), (4, .int v_2), (0, .ref fh), (1, .int ia), (2, .int pa), (3, .int qa)]) (fun u => [.int (u)]) (nL := 6) (H0 := s.heap) (A := A) (D := (dC, dI)) (cl := vwCl) 55 (fun u_8 hu_8 H_8 locs_8 ls1 hP1 hD1 hS1 hl1 => ?_) (fun jn_8 => ?_)
  · -- behind 55
    obtain ⟨v_9, rfl⟩ : ∃ z, z = u_8 := ⟨_, rfl⟩
    replace hu_8 : (kZ v_9) := hu_8
    have q_v_9 := hu_8
    replace hP : va_P (dC, dI) vwCl [(fh, .inr (0, [.int f_isReached, f_least, f_greatest, f_sites, f_maybeNull, f_known, f_lanes, f_shortest, f_longest, .ref fa_leastAt, .ref fa_greatestAt])), (fa_leastAt, .inl (cI, 480, .inl fc_leastAt)), (fa_greatestAt, .inl (cI, 480, .inl fc_greatestAt))] H_8 := hP1
    replace hD : va_D A [(fh, .inr (0, [.int f_isReached, f_least, f_greatest, f_sites, f_maybeNull, f_known, f_lanes, f_shortest, f_longest, .ref fa_leastAt, .ref fa_greatestAt])), (fa_leastAt, .inl (cI, 480, .inl fc_leastAt)), (fa_greatestAt, .inl (cI, 480, .inl fc_greatestAt))] := hD1
    replace hS := hS1
    clear hP1 hD1 hS1
    replace hl : lv_has ls1 6 [(5, .int v_4), (4, .int v_2), (0, .ref fh), (1, .int ia), (2, .int pa), (3, .int qa)] := hl1
    clear hl1
    have hP9 := hP.sub (ws' := [(fh, .inr (0, [.int f_isReached, f_least, f_greatest, f_sites, f_maybeNull, f_known, f_lanes, f_shortest, f_longest, .ref fa_leastAt, .ref fa_greatestAt])), (fa_leastAt, .inl (cI, 480, .inl fc_leastAt)), (fa_greatestAt, .inl (cI, 480, .inl fc_greatestAt))]) [0, 1, 2] rfl
    have hD9 := hD.sub (ws' := [(fh, .inr (0, [.int f_isReached, f_least, f_greatest, f_sites, f_maybeNull, f_known, f_lanes, f_shortest, f_longest, .ref fa_leastAt, .ref fa_greatestAt])), (fa_leastAt, .inl (cI, 480, .inl fc_leastAt)), (fa_greatestAt, .inl (cI, 480, .inl fc_greatestAt))]) [0, 1, 2] (by decide) rfl
    exact W.zret (v := v_9) (ty := .boolean) hx hb hr (nar01 q_v_9) (fun t ht hW => ⟨⟨v_9, (), rfl, (show kZ v_9 from q_v_9), by rw [ht]; exact hP9, va_K.moved hW.alike hK, hD9⟩, hS.F ht⟩) hS.2.2 dX0_areAlike_55
  · -- ahead of 55
    refine lv_icmp_ne (tgt := 54) hx hb dX0_areAlike_30 (by decide) (fun c_10 => ?_) (fun c_10 => ?_)
    · -- yes
      have k_10 : ¬ v_5.toInt = v_6.toInt := ci_ne c_10
      refine lv_iconst (v := 0) hx hb dX0_areAlike_54 (by decide) ?_
      exact jn_8 (0 : Int32) (show (kZ (0 : Int32)) from (by decide)) _ _ _ (hP.sub [0, 1, 2] rfl) (hD.sub [0, 1, 2] (by decide) rfl) hS (lv_sub hl [0, 1, 2, 3, 4, 5] rfl)
    · -- no
      have k_10 : v_5.toInt = v_6.toInt := ci_eq c_10
      refine lv_aload_n hx hb dX0_areAlike_33 rfl (lv_at hl 2 rfl) ?_
      refine va_get (D := (dC, dI)) (ci := 0) (v := .ref fa_greatestAt) (C := RX0) (T := TX0) (N := 11) hx hb hts inv_X0_areAlike_X0 hown hK hP 0 rfl rfl 10 (by decide) (hts (.fieldLink RX0 45 "ArraySegments$Facts" "greatestAt" "[I") (List.mem_of_getElem? (i := 2) rfl)) (fun _ h9 => h9) rfl dX0_areAlike_34 ?_
      refine lv_iload hx hb dX0_areAlike_37 (lv_at hl 1 rfl) ?_
      refine sf_iald kT hx hb hK hP 2 0 rfl rfl (fun _ => trivial) (vp_in_iff.mpr ⟨by omega, by omega⟩) dX0_areAlike_39 (fun v_11 q_v_11 e_v_11 => ?_)
      refine lv_aload_n hx hb dX0_areAlike_40 rfl (lv_at hl 2 rfl) ?_
      refine va_get (D := (dC, dI)) (ci := 0) (v := .ref fa_greatestAt) (C := RX0) (T := TX0) (N := 11) hx hb hts inv_X0_areAlike_X0 hown hK hP 0 rfl rfl 10 (by decide) (hts (.fieldLink RX0 45 "ArraySegments$Facts" "greatestAt" "[I") (List.mem_of_getElem? (i := 2) rfl)) (fun _ h9 => h9) rfl dX0_areAlike_41 ?_
      refine lv_iload hx hb dX0_areAlike_44 (lv_at hl 0 rfl) ?_
      refine sf_iald kT hx hb hK hP 2 0 rfl rfl (fun _ => trivial) (vp_in_iff.mpr ⟨by omega, by omega⟩) dX0_areAlike_46 (fun v_12 q_v_12 e_v_12 => ?_)
      refine lv_icmp_ne (tgt := 54) hx hb dX0_areAlike_47 (by decide) (fun c_13 => ?_) (fun c_13 => ?_)
      · -- yes
        have k_13 : ¬ v_11.toInt = v_12.toInt := ci_ne c_13
        refine lv_iconst (v := 0) hx hb dX0_areAlike_54 (by decide) ?_
        exact jn_8 (0 : Int32) (show (kZ (0 : Int32)) from (by decide)) _ _ _ (hP.sub [0, 1, 2] rfl) (hD.sub [0, 1, 2] (by decide) rfl) hS (lv_sub hl [0, 1, 2, 3, 4, 5] rfl)
      · -- no
        have k_13 : v_11.toInt = v_12.toInt := ci_eq c_13
        refine lv_iconst (v := 1) hx hb dX0_areAlike_50 (by decide) ?_
        refine lv_goto (tgt := 55) hx hb dX0_areAlike_51 (by decide) ?_
        exact jn_8 (1 : Int32) (show (kZ (1 : Int32)) from (by decide)) _ _ _ (hP.sub [0, 1, 2] rfl) (hD.sub [0, 1, 2] (by decide) rfl) hS (lv_sub hl [0, 1, 2, 3, 4, 5] rfl)
