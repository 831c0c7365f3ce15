def v_X1_countThrowing : List Cond := .code yX1_countThrowing cX1_countThrowing 3 (some .int) :: ([.fieldLink RX1 29 "ArraySegments$Flow" "mayThrow" "[I"] ++ (wsX10))
theorem inv_X1_countThrowing_X1 : ∀ w ∈ wsX10, w ∈ v_X1_countThrowing := fun _ h => List.mem_cons_of_mem _ (List.mem_append_right _ (h))
set_option maxRecDepth 20000 in
theorem gd_X1_countThrowing : gdL v_X1_countThrowing := gdC (gdW (by decide +kernel)) (gdA (gdW (by decide +kernel)) gd_wsX10)
abbrev sw_X1_countThrowing (cI cJ cZ : ClassId) (lh : Nat) (fh : Nat) (l_ahead : Value) (l_isOld : Int32) (l_isReached : Value) (la_mayThrow : Nat) (l_gatheredAny : Int32) (l_gatheredLeast : Int32) (l_gatheredGreatest : Int32) (lc_mayThrow : Nat → Int32) : va_W := [(lh, .inr (1, [.ref fh, l_ahead, .int l_isOld, l_isReached, .ref la_mayThrow, .int l_gatheredAny, .int l_gatheredLeast, .int l_gatheredGreatest])), (la_mayThrow, .inl (cI, 40, .inl lc_mayThrow))]
set_option maxHeartbeats 8000000 in
set_option maxRecDepth 100000 in
theorem s_X1_countThrowing (l : Launch) (dC : Nat → ClassId) (dI : Nat → Nat → Nat) (cI cJ cZ : ClassId) (lh : Nat) (fh : Nat) (l_ahead : Value) (l_isOld : Int32) (l_isReached : Value) (la_mayThrow : Nat) (l_gatheredAny : Int32) (l_gatheredLeast : Int32) (l_gatheredGreatest : Int32) (lc_mayThrow : Nat → Int32) (sz : Nat) (q_l_isOld : kZ l_isOld) (q_l_gatheredAny : kZ l_gatheredAny) : Met l yX1_countThrowing v_X1_countThrowing ({ frames := 0, cells := 0, slots := 0, locals := 0 }) (va_Pc [.ref lh] (cPre dC dI cI cJ cZ sz (sw_X1_countThrowing cI cJ cZ lh fh l_ahead l_isOld l_isReached la_mayThrow l_gatheredAny l_gatheredLeast l_gatheredGreatest lc_mayThrow))) (va_Qi (fun (r : Int32) (u : Unit) => True) (fun (u : Unit) => cPost dC dI cI cJ cZ (va_A (sw_X1_countThrowing cI cJ cZ lh fh l_ahead l_isOld l_isReached la_mayThrow l_gatheredAny l_gatheredLeast l_gatheredGreatest lc_mayThrow) sz) [(lh, .inr (1, [.ref fh, l_ahead, .int l_isOld, l_isReached, .ref la_mayThrow, .int l_gatheredAny, .int l_gatheredLeast, .int l_gatheredGreatest])), (la_mayThrow, .inl (cI, 40, .inl lc_mayThrow))]) (va_A (sw_X1_countThrowing cI cJ cZ lh fh l_ahead l_isOld l_isReached la_mayThrow l_gatheredAny l_gatheredLeast l_gatheredGreatest lc_mayThrow) sz)) 0 0 (va_A (sw_X1_countThrowing cI cJ cZ lh fh l_ahead l_isOld l_isReached la_mayThrow l_gatheredAny l_gatheredLeast l_gatheredGreatest lc_mayThrow) sz) := by
  refine Met.ofW (cc := cX1_countThrowing) (maxL := 3) (ret := (some .int)) (by decide) rfl ?_
  intro p e s m args below meth c s₁ B hml hv
  obtain ⟨rfl, hsz, hP, hK, hD0, hN⟩ := hv
  have hx := B.exec
  have hb := B.bytes
  have hr := B.returns
  have hts := atoms_spec (ws := v_X1_countThrowing) B.pre
  have hown : s.vm.findClass RX1 = some m.cls := findClass_of_methodNamed B.named
  have hlocks := B.notSynchronized
  subst hsz
  have hD := hD0.self (sz := s.heap.size)
  generalize hAe : va_A (sw_X1_countThrowing cI cJ cZ lh fh l_ahead l_isOld l_isReached la_mayThrow l_gatheredAny l_gatheredLeast l_gatheredGreatest lc_mayThrow) s.heap.size = A at hD ⊢
  have hA : ∀ q : Nat, s.heap.size ≤ q → A q := fun q h => by rw [← hAe]; exact Or.inr h
  clear hAe hD0
  have hS : va_S A s.heap s.heap [] := va_S.rf
  replace hP : va_P (dC, dI) vwCl [(lh, .inr (1, [.ref fh, l_ahead, .int l_isOld, l_isReached, .ref la_mayThrow, .int l_gatheredAny, .int l_gatheredLeast, .int l_gatheredGreatest])), (la_mayThrow, .inl (cI, 40, .inl lc_mayThrow))] s.heap := hP
  replace hD : va_D A [(lh, .inr (1, [.ref fh, l_ahead, .int l_isOld, l_isReached, .ref la_mayThrow, .int l_gatheredAny, .int l_gatheredLeast, .int l_gatheredGreatest])), (la_mayThrow, .inl (cI, 40, .inl lc_mayThrow))] := hD
  have hl := lv_entry ([.ref lh]) (n := 3) (Nat.le_of_ble_eq_true rfl)
  rw [lg_entry_eq]
  generalize (lg_sl ([.ref lh]) ++ List.replicate (3 - (lg_sl ([.ref lh])).length) Slot.unset).toArray = ls at hl ⊢
  replace hl : lv_has ls 3 [(0, .ref lh)] := hl
  have z_0 : (0 : Int32).toInt = 0 := by decide
  have z_1 : (1 : Int32).toInt = 1 := by decide
  have z_40 : (40 : Int32).toInt = 40 := by decide
  refine lv_iconst (v := 0) hx hb dX1_countThrowing_0 (by decide) ?_
  refine lv_istore_n (lv' := [(1, .int 0), (0, .ref lh)]) hx hb dX1_countThrowing_1 rfl hl (by decide) rfl (fun ls1 hl1 => ?_)
  replace hl := hl1; clear hl1
  refine lv_iconst (v := 0) hx hb dX1_countThrowing_2 (by decide) ?_
  refine lv_istore_n (lv' := [(2, .int 0), (1, .int 0), (0, .ref lh)]) hx hb dX1_countThrowing_3 rfl hl (by decide) rfl (fun ls1 hl1 => ?_)
  replace hl := hl1; clear hl1
  refine my_wloop (S := Int32 × Int32) (fun u => (0 ≤ (u.1).toInt ∧ (u.1).toInt ≤ 40)) (fun u => (40 - (u.1).toInt).toNat) (fun u => [(lh, .inr (1, [.ref fh, l_ahead, .int l_isOld, l_isReached, .ref la_mayThrow, .int l_gatheredAny, .int l_gatheredLeast, .int l_gatheredGreatest])), (la_mayThrow, .inl (cI, 40, .inl lc_mayThrow))]) (fun u => [(2, .int (u.1)), (1, .int (u.2)), (0, .ref lh)]) (H0 := s.heap) (A := A) (D := (dC, dI)) (cl := vwCl) ((0 : Int32), (0 : Int32)) (show (0 ≤ (0 : Int32).toInt ∧ (0 : Int32).toInt ≤ 40) from ⟨by omega, by omega⟩) (by exact hP) (by exact hD) hS (by exact hl) (fun u_1 hu_1 ih_1 H_1 locs_1 ls1 hP1 hD1 hS1 hl1 => ?_)
  obtain ⟨v_2, v_3⟩ := u_1
  replace hu_1 : (0 ≤ v_2.toInt ∧ v_2.toInt ≤ 40) := hu_1
  have q_v_2 := hu_1
  replace hP : va_P (dC, dI) vwCl [(lh, .inr (1, [.ref fh, l_ahead, .int l_isOld, l_isReached, .ref la_mayThrow, .int l_gatheredAny, .int l_gatheredLeast, .int l_gatheredGreatest])), (la_mayThrow, .inl (cI, 40, .inl lc_mayThrow))] H_1 := hP1
  replace hD : va_D A [(lh, .inr (1, [.ref fh, l_ahead, .int l_isOld, l_isReached, .ref la_mayThrow, .int l_gatheredAny, .int l_gatheredLeast, .int l_gatheredGreatest])), (la_mayThrow, .inl (cI, 40, .inl lc_mayThrow))] := hD1
  replace hS := hS1
  clear hP1 hD1 hS1
  replace hl : lv_has ls1 3 [(2, .int v_2), (1, .int v_3), (0, .ref lh)] := hl1
  clear hl1
  refine lv_iload_n hx hb dX1_countThrowing_4 rfl (lv_at hl 0 rfl) ?_
  refine lv_bipush (v := 40) hx hb dX1_countThrowing_5 (by decide) ?_
  refine lv_icmp_ge (tgt := 28) hx hb dX1_countThrowing_7 (by decide) (fun c_4 => ?_) (fun c_4 => ?_)
  · -- yes
    have k_4 : (40 : Int32).toInt ≤ v_2.toInt := ci_ge c_4
    refine lv_iload_n hx hb dX1_countThrowing_28 rfl (lv_at hl 1 rfl) ?_
    have hP9 := hP.sub (ws' := [(lh, .inr (1, [.ref fh, l_ahead, .int l_isOld, l_isReached, .ref la_mayThrow, .int l_gatheredAny, .int l_gatheredLeast, .int l_gatheredGreatest])), (la_mayThrow, .inl (cI, 40, .inl lc_mayThrow))]) [0, 1] rfl
    have hD9 := hD.sub (ws' := [(lh, .inr (1, [.ref fh, l_ahead, .int l_isOld, l_isReached, .ref la_mayThrow, .int l_gatheredAny, .int l_gatheredLeast, .int l_gatheredGreatest])), (la_mayThrow, .inl (cI, 40, .inl lc_mayThrow))]) [0, 1] (by decide) rfl
    exact W.iret (v := v_3) hx hb hr (fun t ht hW => ⟨⟨v_3, (), rfl, trivial, by rw [ht]; exact hP9, va_K.moved hW.alike hK, hD9⟩, hS.F ht⟩) hS.2.2 dX1_countThrowing_29
  · -- no
    have k_4 : v_2.toInt < (40 : Int32).toInt := ci_nge c_4
    refine lv_aload_n hx hb dX1_countThrowing_10 rfl (lv_at hl 2 rfl) ?_
    refine va_get (D := (dC, dI)) (ci := 1) (v := .ref la_mayThrow) (C := RX1) (T := TX1) (N := 8) hx hb hts inv_X1_countThrowing_X1 hown hK hP 0 rfl rfl 4 (by decide) (hts (.fieldLink RX1 29 "ArraySegments$Flow" "mayThrow" "[I") (List.mem_of_getElem? (i := 1) rfl)) (fun _ h9 => h9) rfl dX1_countThrowing_11 ?_
    refine lv_iload_n hx hb dX1_countThrowing_14 rfl (lv_at hl 0 rfl) ?_
    refine sf_iald kT hx hb hK hP 1 0 rfl rfl (fun _ => trivial) (vp_in_iff.mpr ⟨by omega, by omega⟩) dX1_countThrowing_15 (fun v_5 q_v_5 e_v_5 => ?_)
    refine my_join (S := Int32) (fun u => True) (fun u => [(lh, .inr (1, [.ref fh, l_ahead, .int l_isOld, l_isReached, .ref la_mayThrow, .int l_gatheredAny, .int l_gatheredLeast, .int l_gatheredGreatest])), (la_mayThrow, .inl (cI, 40, .inl lc_mayThrow))]) (fun u => [(2, .int v_2), (1, .int (u)), (0, .ref lh)]) (fun u => []) (nL := 3) (H0 := s.heap) (A := A) (D := (dC, dI)) (cl := vwCl) 22 (fun u_7 hu_7 H_7 locs_7 ls1 hP1 hD1 hS1 hl1 => ?_) (fun jn_7 => ?_)
    · -- behind 22
      obtain ⟨v_8, rfl⟩ : ∃ z, z = u_7 := ⟨_, rfl⟩
      replace hP : va_P (dC, dI) vwCl [(lh, .inr (1, [.ref fh, l_ahead, .int l_isOld, l_isReached, .ref la_mayThrow, .int l_gatheredAny, .int l_gatheredLeast, .int l_gatheredGreatest])), (la_mayThrow, .inl (cI, 40, .inl lc_mayThrow))] H_7 := hP1
      replace hD : va_D A [(lh, .inr (1, [.ref fh, l_ahead, .int l_isOld, l_isReached, .ref la_mayThrow, .int l_gatheredAny, .int l_gatheredLeast, .int l_gatheredGreatest])), (la_mayThrow, .inl (cI, 40, .inl lc_mayThrow))] := hD1
      replace hS := hS1
      clear hP1 hD1 hS1
      replace hl : lv_has ls1 3 [(2, .int v_2), (1, .int v_8), (0, .ref lh)] := hl1
      clear hl1
      refine sf_iinc hx hb dX1_countThrowing_22 hl (k := 0) (x := v_2) (w := 1) rfl (by decide) (by decide) ⟨by omega, by omega⟩ (fun v_9 q_v_9 ls1 hl1 => ?_)
      replace hl : lv_has ls1 3 [(2, .int v_9), (1, .int v_8), (0, .ref lh)] := hl1
      clear hl1
      refine lv_goto (tgt := 4) hx hb dX1_countThrowing_25 (by decide) ?_
      exact ih_1 (v_9, v_8) (show (0 ≤ v_9.toInt ∧ v_9.toInt ≤ 40) from ⟨by omega, by omega⟩) (by show (40 - v_9.toInt).toNat < (40 - v_2.toInt).toNat; omega) _ _ _ (hP.sub [0, 1] rfl) (hD.sub [0, 1] (by decide) rfl) hS (lv_sub hl [0, 1, 2] rfl)
    · -- ahead of 22
      refine lv_if_eq (tgt := 22) hx hb dX1_countThrowing_16 (by decide) (fun c_10 => ?_) (fun c_10 => ?_)
      · -- yes
        have k_10 : v_5.toInt = (0 : Int32).toInt := ci_eq c_10
        exact jn_7 v_3 (show True from trivial) _ _ _ (hP.sub [0, 1] rfl) (hD.sub [0, 1] (by decide) rfl) hS (lv_sub hl [0, 1, 2] rfl)
      · -- no
        have k_10 : ¬ v_5.toInt = (0 : Int32).toInt := ci_ne c_10
        refine sf_iincA hx hb dX1_countThrowing_19 hl (k := 1) (x := v_3) rfl (by decide) (fun v_11 ls1 hl1 => ?_)
        replace hl : lv_has ls1 3 [(1, .int v_11), (2, .int v_2), (0, .ref lh)] := hl1
        clear hl1
        exact jn_7 v_11 (show True from trivial) _ _ _ (hP.sub [0, 1] rfl) (hD.sub [0, 1] (by decide) rfl) hS (lv_sub hl [1, 0, 2] rfl)
