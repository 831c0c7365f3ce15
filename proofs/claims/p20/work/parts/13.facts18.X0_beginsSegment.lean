def v_X0_beginsSegment : List Cond := .code yX0_beginsSegment cX0_beginsSegment 3 (some .boolean) :: ([.methodLink RX0 106 yX0_areAlike, .instanceMethod yX0_areAlike, .selects RX0 yX0_areAlike yX0_areAlike, .initialized RX0] ++ (v_X0_areAlike))
theorem im_X0_beginsSegment_X0_areAlike : ∀ w ∈ v_X0_areAlike, w ∈ v_X0_beginsSegment := fun _ h => List.mem_cons_of_mem _ (List.mem_append_right _ (h))
set_option maxRecDepth 20000 in
theorem gd_X0_beginsSegment : gdL v_X0_beginsSegment := gdC (gdW (by decide +kernel)) (gdA (gdW (by decide +kernel)) gd_X0_areAlike)
set_option maxRecDepth 20000 in
theorem h_X0_beginsSegment_X0_areAlike_106 : GoodIn v_X0_beginsSegment (wsV RX0 106 RX0 yX0_areAlike v_X0_areAlike) := gdI [1, 2, 3, 4] rfl (by decide +kernel) (im_X0_beginsSegment_X0_areAlike) gd_X0_areAlike
abbrev sw_X0_beginsSegment (cI cJ cZ : ClassId) (fh : Nat) (f_isReached : Int32) (f_least : Value) (f_greatest : Value) (f_sites : Value) (f_maybeNull : Value) (f_known : Value) (f_lanes : Value) (f_shortest : Value) (f_longest : Value) (fa_leastAt : Nat) (fa_greatestAt : Nat) (fc_leastAt : Nat → Int32) (fc_greatestAt : Nat → Int32) (ia : Int32) (pa : Int32) : va_W := [(fh, .inr (0, [.int f_isReached, f_least, f_greatest, f_sites, f_maybeNull, f_known, f_lanes, f_shortest, f_longest, .ref fa_leastAt, .ref fa_greatestAt])), (fa_leastAt, .inl (cI, 480, .inl fc_leastAt)), (fa_greatestAt, .inl (cI, 480, .inl fc_greatestAt))]
set_option maxHeartbeats 8000000 in
set_option maxRecDepth 100000 in
theorem s_X0_beginsSegment (l : Launch) (dC : Nat → ClassId) (dI : Nat → Nat → Nat) (cI cJ cZ : ClassId) (fh : Nat) (f_isReached : Int32) (f_least : Value) (f_greatest : Value) (f_sites : Value) (f_maybeNull : Value) (f_known : Value) (f_lanes : Value) (f_shortest : Value) (f_longest : Value) (fa_leastAt : Nat) (fa_greatestAt : Nat) (fc_leastAt : Nat → Int32) (fc_greatestAt : Nat → Int32) (ia : Int32) (pa : Int32) (sz : Nat) (q_f_isReached : kZ f_isReached) (hy_ia : 0 ≤ ia.toInt ∧ ia.toInt ≤ 39) (hy_pa : 0 ≤ pa.toInt ∧ pa.toInt ≤ 11) : Met l yX0_beginsSegment v_X0_beginsSegment ({ frames := 1, cells := 0, slots := 0, locals := 25 }) (va_Pc [.ref fh, .int ia, .int pa] (cPre dC dI cI cJ cZ sz (sw_X0_beginsSegment cI cJ cZ fh f_isReached f_least f_greatest f_sites f_maybeNull f_known f_lanes f_shortest f_longest fa_leastAt fa_greatestAt fc_leastAt fc_greatestAt ia pa))) (va_Qi (fun (r : Int32) (u : Unit) => (kZ r)) (fun (u : Unit) => cPost dC dI cI cJ cZ (va_A (sw_X0_beginsSegment cI cJ cZ fh f_isReached f_least f_greatest f_sites f_maybeNull f_known f_lanes f_shortest f_longest fa_leastAt fa_greatestAt fc_leastAt fc_greatestAt ia pa) sz) [(fh, .inr (0, [.int f_isReached, f_least, f_greatest, f_sites, f_maybeNull, f_known, f_lanes, f_shortest, f_longest, .ref fa_leastAt, .ref fa_greatestAt])), (fa_leastAt, .inl (cI, 480, .inl fc_leastAt)), (fa_greatestAt, .inl (cI, 480, .inl fc_greatestAt))]) (va_A (sw_X0_beginsSegment cI cJ cZ fh f_isReached f_least f_greatest f_sites f_maybeNull f_known f_lanes f_shortest f_longest fa_leastAt fa_greatestAt fc_leastAt fc_greatestAt ia pa) sz)) 0 0 (va_A (sw_X0_beginsSegment cI cJ cZ fh f_isReached f_least f_greatest f_sites f_maybeNull f_known f_lanes f_shortest f_longest fa_leastAt fa_greatestAt fc_leastAt fc_greatestAt ia pa) sz) := by
  refine Met.ofW (cc := cX0_beginsSegment) (maxL := 3) (ret := (some .boolean)) (by decide) rfl ?_
  intro p e s m args below meth c s₁ B hml hv
  obtain ⟨rfl, hsz, hP, hK, hD0, hN⟩ := hv
  have hx := B.exec
  have hb := B.bytes
  have hr := B.returns
  have hts := atoms_spec (ws := v_X0_beginsSegment) B.pre
  have hown : s.vm.findClass RX0 = some m.cls := findClass_of_methodNamed B.named
  have hlocks := B.notSynchronized
  subst hsz
  have hD := hD0.self (sz := s.heap.size)
  generalize hAe : va_A (sw_X0_beginsSegment cI cJ cZ fh f_isReached f_least f_greatest f_sites f_maybeNull f_known f_lanes f_shortest f_longest fa_leastAt fa_greatestAt fc_leastAt fc_greatestAt ia pa) s.heap.size = A at hD ⊢
  have hA : ∀ q : Nat, s.heap.size ≤ q → A q := fun q h => by rw [← hAe]; exact Or.inr h
  clear hAe hD0
  have hS : va_S A s.heap s.heap [] := va_S.rf
  replace hP : va_P (dC, dI) vwCl [(fh, .inr (0, [.int f_isReached, f_least, f_greatest, f_sites, f_maybeNull, f_known, f_lanes, f_shortest, f_longest, .ref fa_leastAt, .ref fa_greatestAt])), (fa_leastAt, .inl (cI, 480, .inl fc_leastAt)), (fa_greatestAt, .inl (cI, 480, .inl fc_greatestAt))] s.heap := hP
  replace hD : va_D A [(fh, .inr (0, [.int f_isReached, f_least, f_greatest, f_sites, f_maybeNull, f_known, f_lanes, f_shortest, f_longest, .ref fa_leastAt, .ref fa_greatestAt])), (fa_leastAt, .inl (cI, 480, .inl fc_leastAt)), (fa_greatestAt, .inl (cI, 480, .inl fc_greatestAt))] := hD
  have hl := lv_entry ([.ref fh, .int ia, .int pa]) (n := 3) (Nat.le_of_ble_eq_true rfl)
  rw [lg_entry_eq]
  generalize (lg_sl ([.ref fh, .int ia, .int pa]) ++ List.replicate (3 - (lg_sl ([.ref fh, .int ia, .int pa])).length) Slot.unset).toArray = ls at hl ⊢
  replace hl : lv_has ls 3 [(0, .ref fh), (1, .int ia), (2, .int pa)] := hl
  have z_0 : (0 : Int32).toInt = 0 := by decide
  have z_1 : (1 : Int32).toInt = 1 := by decide
  refine lv_iload_n hx hb dX0_beginsSegment_0 rfl (lv_at hl 2 rfl) ?_
  refine my_join (S := Int32) (fun u => (kZ (u))) (fun u => [(fh, .inr (0, [.int f_isReached, f_least, f_greatest, f_sites, f_maybeNull, f_known, f_lanes, f_shortest, f_longest, .ref fa_leastAt, .ref fa_greatestAt])), (fa_leastAt, .inl (cI, 480, .inl fc_leastAt)), (fa_greatestAt, .inl (cI, 480, .inl fc_greatestAt))]) (fun u => [(0, .ref fh), (1, .int ia), (2, .int pa)]) (fun u => [.int (u)]) (nL := 3) (H0 := s.heap) (A := A) (D := (dC, dI)) (cl := vwCl) 21 (fun u_2 hu_2 H_2 locs_2 ls1 hP1 hD1 hS1 hl1 => ?_) (fun jn_2 => ?_)
  · -- behind 21
    obtain ⟨v_3, rfl⟩ : ∃ z, z = u_2 := ⟨_, rfl⟩
    replace hu_2 : (kZ v_3) := hu_2
    have q_v_3 := hu_2
    replace hP : va_P (dC, dI) vwCl [(fh, .inr (0, [.int f_isReached, f_least, f_greatest, f_sites, f_maybeNull, f_known, f_lanes, f_shortest, f_longest, .ref fa_leastAt, .ref fa_greatestAt])), (fa_leastAt, .inl (cI, 480, .inl fc_leastAt)), (fa_greatestAt, .inl (cI, 480, .inl fc_greatestAt))] H_2 := hP1
    replace hD : va_D A [(fh, .inr (0, [.int f_isReached, f_least, f_greatest, f_sites, f_maybeNull, f_known, f_lanes, f_shortest, f_longest, .ref fa_leastAt, .ref fa_greatestAt])), (fa_leastAt, .inl (cI, 480, .inl fc_leastAt)), (fa_greatestAt, .inl (cI, 480, .inl fc_greatestAt))] := hD1
    replace hS := hS1
    clear hP1 hD1 hS1
    replace hl : lv_has ls1 3 [(0, .ref fh), (1, .int ia), (2, .int pa)] := hl1
    clear hl1
    have hP9 := hP.sub (ws' := [(fh, .inr (0, [.int f_isReached, f_least, f_greatest, f_sites, f_maybeNull, f_known, f_lanes, f_shortest, f_longest, .ref fa_leastAt, .ref fa_greatestAt])), (fa_leastAt, .inl (cI, 480, .inl fc_leastAt)), (fa_greatestAt, .inl (cI, 480, .inl fc_greatestAt))]) [0, 1, 2] rfl
    have hD9 := hD.sub (ws' := [(fh, .inr (0, [.int f_isReached, f_least, f_greatest, f_sites, f_maybeNull, f_known, f_lanes, f_shortest, f_longest, .ref fa_leastAt, .ref fa_greatestAt])), (fa_leastAt, .inl (cI, 480, .inl fc_leastAt)), (fa_greatestAt, .inl (cI, 480, .inl fc_greatestAt))]) [0, 1, 2] (by decide) rfl
    exact W.zret (v := v_3) (ty := .boolean) hx hb hr (nar01 q_v_3) (fun t ht hW => ⟨⟨v_3, (), rfl, (show kZ v_3 from q_v_3), by rw [ht]; exact hP9, va_K.moved hW.alike hK, hD9⟩, hS.F ht⟩) hS.2.2 dX0_beginsSegment_21
  · -- ahead of 21
    refine lv_if_eq (tgt := 16) hx hb dX0_beginsSegment_1 (by decide) (fun c_4 => ?_) (fun c_4 => ?_)
    · -- yes
      have k_4 : pa.toInt = (0 : Int32).toInt := ci_eq c_4
      refine lv_iconst (v := 1) hx hb dX0_beginsSegment_16 (by decide) ?_
      refine lv_goto (tgt := 21) hx hb dX0_beginsSegment_17 (by decide) ?_
      exact jn_2 (1 : Int32) (show (kZ (1 : Int32)) from (by decide)) _ _ _ (hP.sub [0, 1, 2] rfl) (hD.sub [0, 1, 2] (by decide) rfl) hS (lv_sub hl [0, 1, 2] rfl)
    · -- no
      have k_4 : ¬ pa.toInt = (0 : Int32).toInt := ci_ne c_4
      refine lv_aload_n hx hb dX0_beginsSegment_4 rfl (lv_at hl 0 rfl) ?_
      refine lv_iload_n hx hb dX0_beginsSegment_5 rfl (lv_at hl 1 rfl) ?_
      refine lv_iload_n hx hb dX0_beginsSegment_6 rfl (lv_at hl 2 rfl) ?_
      refine lv_iconst (v := 1) hx hb dX0_beginsSegment_7 (by decide) ?_
      refine sf_isub hx hb dX0_beginsSegment_8 ⟨by omega, by omega⟩ (fun v_5 q_v_5 => ?_)
      refine lv_iload_n hx hb dX0_beginsSegment_9 rfl (lv_at hl 2 rfl) ?_
      have hPc := hP.sub (ws' := [(fh, .inr (0, [.int f_isReached, f_least, f_greatest, f_sites, f_maybeNull, f_known, f_lanes, f_shortest, f_longest, .ref fa_leastAt, .ref fa_greatestAt])), (fa_leastAt, .inl (cI, 480, .inl fc_leastAt)), (fa_greatestAt, .inl (cI, 480, .inl fc_greatestAt))]) [0, 1, 2] rfl
      have hDc := hD.sub (ws' := [(fh, .inr (0, [.int f_isReached, f_least, f_greatest, f_sites, f_maybeNull, f_known, f_lanes, f_shortest, f_longest, .ref fa_leastAt, .ref fa_greatestAt])), (fa_leastAt, .inl (cI, 480, .inl fc_leastAt)), (fa_greatestAt, .inl (cI, 480, .inl fc_greatestAt))]) [0, 1, 2] (by decide) rfl
      have hFc := va_free (wc := [(fh, .inr (0, [.int f_isReached, f_least, f_greatest, f_sites, f_maybeNull, f_known, f_lanes, f_shortest, f_longest, .ref fa_leastAt, .ref fa_greatestAt])), (fa_leastAt, .inl (cI, 480, .inl fc_leastAt)), (fa_greatestAt, .inl (cI, 480, .inl fc_greatestAt))]) hD hS hA [0, 1, 2] rfl
      refine va_calli (va_runV (As := [.int ia, .int v_5, .int pa]) (rest := []) ⟨hx, hb, hml, hown, hts⟩ (s_X0_areAlike l dC dI cI cJ cZ fh f_isReached f_least f_greatest f_sites f_maybeNull f_known f_lanes f_shortest f_longest fa_leastAt fa_greatestAt fc_leastAt fc_greatestAt ia v_5 pa s.heap.size q_f_isReached (by first | assumption | omega) (by first | assumption | omega) (by first | assumption | omega)) (cwV 3 hts h_X0_beginsSegment_X0_areAlike_106 rfl rfl rfl (by decide +kernel) ⟨Nat.le_of_ble_eq_true rfl, Nat.le_of_ble_eq_true rfl⟩) ⟨cPre_blind, va_recv hK hPc (ci := 0) (q0 := 0) rfl rfl, cPre_of hK hN hPc hDc⟩ rfl rfl hl.1 rfl (lv_room (Nat.le_of_ble_eq_true rfl)) dX0_beginsSegment_10 ⟨Nat.le_of_ble_eq_true rfl, Nat.le_of_ble_eq_true rfl⟩) hS (fun q _ h => hFc q h) hFc (fun r_6 u_6 t_6 H_6 locs_6 ht hvm hw_6 hB hz1 hk1 hS1 => ?_)
      obtain ⟨hP1, hK1, hD1⟩ := hB
      rw [ht] at hP1
      obtain ⟨hP2, hD2⟩ := va_join (wr := []) (w1 := [(fh, .inr (0, [.int f_isReached, f_least, f_greatest, f_sites, f_maybeNull, f_known, f_lanes, f_shortest, f_longest, .ref fa_leastAt, .ref fa_greatestAt])), (fa_leastAt, .inl (cI, 480, .inl fc_leastAt)), (fa_greatestAt, .inl (cI, 480, .inl fc_greatestAt))]) hP hD [0, 1, 2] [] rfl rfl (by decide) (by decide) hk1 hFc hP1 hD1
      clear hPc hDc hFc hP1 hD1 hK1 hk1 hz1 hvm ht
      replace hP : va_P (dC, dI) vwCl [(fh, .inr (0, [.int f_isReached, f_least, f_greatest, f_sites, f_maybeNull, f_known, f_lanes, f_shortest, f_longest, .ref fa_leastAt, .ref fa_greatestAt])), (fa_leastAt, .inl (cI, 480, .inl fc_leastAt)), (fa_greatestAt, .inl (cI, 480, .inl fc_greatestAt))] H_6 := hP2
      replace hD : va_D A [(fh, .inr (0, [.int f_isReached, f_least, f_greatest, f_sites, f_maybeNull, f_known, f_lanes, f_shortest, f_longest, .ref fa_leastAt, .ref fa_greatestAt])), (fa_leastAt, .inl (cI, 480, .inl fc_leastAt)), (fa_greatestAt, .inl (cI, 480, .inl fc_greatestAt))] := hD2
      replace hS := hS1
      clear hP2 hD2 hS1
      replace hw_6 : (kZ r_6) := hw_6
      have q_r_6 := hw_6
      refine lv_if_ne (tgt := 20) hx hb dX0_beginsSegment_13 (by decide) (fun c_7 => ?_) (fun c_7 => ?_)
      · -- yes
        have k_7 : ¬ r_6.toInt = (0 : Int32).toInt := ci_ne c_7
        refine lv_iconst (v := 0) hx hb dX0_beginsSegment_20 (by decide) ?_
        exact jn_2 (0 : Int32) (show (kZ (0 : Int32)) from (by decide)) _ _ _ (hP.sub [0, 1, 2] rfl) (hD.sub [0, 1, 2] (by decide) rfl) hS (lv_sub hl [0, 1, 2] rfl)
      · -- no
        have k_7 : r_6.toInt = (0 : Int32).toInt := ci_eq c_7
        refine lv_iconst (v := 1) hx hb dX0_beginsSegment_16 (by decide) ?_
        refine lv_goto (tgt := 21) hx hb dX0_beginsSegment_17 (by decide) ?_
        exact jn_2 (1 : Int32) (show (kZ (1 : Int32)) from (by decide)) _ _ _ (hP.sub [0, 1, 2] rfl) (hD.sub [0, 1, 2] (by decide) rfl) hS (lv_sub hl [0, 1, 2] rfl)
