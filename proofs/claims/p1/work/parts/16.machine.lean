def w_X2_forget : List Cond := .code yX2_forget cX2_forget 2 none :: ([.fieldLink RX2 9 "ArraySegments$Machine" "hasRun" "Z", .fieldLink RX2 15 "ArraySegments$Machine" "thrown" "I", .fieldLink RX2 19 "ArraySegments$Machine" "thrownAt" "I", .fieldLink RX2 26 "ArraySegments$Machine" "meant" "[I", .fieldLink RX2 22 "ArraySegments$Machine" "values" "[I"] ++ wsX20)
theorem inc_X2_forget_X2 : ∀ w ∈ wsX20, w ∈ w_X2_forget := fun _ h => List.mem_cons_of_mem _ (List.mem_append_right _ h)
abbrev pw_X2_forget (cI cJ cZ : ClassId) (mh : Nat) (m1 : Nat) (m2 : Nat) (mv_hasRun : Value) (mv_thrown : Value) (mv_thrownAt : Value) (mv_lanes : Value) (mv_lengths : Value) (mv_cells : Value) (mv_state : Value) (mf1 : Nat → Int32) (mf2 : Nat → Int32) : va_W := [(mh, .inr (2, [mv_hasRun, mv_thrown, mv_thrownAt, .ref m1, .ref m2, mv_lanes, mv_lengths, mv_cells, mv_state])), (m1, .inl (cI, 6, .inl mf1)), (m2, .inl (cI, 6, .inl mf2))]
set_option maxHeartbeats 4000000 in
set_option maxRecDepth 100000 in
theorem c_X2_forget (l : Launch) (dC : Nat → ClassId) (dI : Nat → Nat → Nat) (cI cJ cZ : ClassId) (mh : Nat) (m1 : Nat) (m2 : Nat) (mv_hasRun : Value) (mv_thrown : Value) (mv_thrownAt : Value) (mv_lanes : Value) (mv_lengths : Value) (mv_cells : Value) (mv_state : Value) (mf1 : Nat → Int32) (mf2 : Nat → Int32) (sz : Nat) : Met l yX2_forget w_X2_forget ({ frames := 0, cells := 0, slots := 0, locals := 0 }) (va_Pc [.ref mh] (cPre dC dI cI cJ cZ sz (pw_X2_forget cI cJ cZ mh m1 m2 mv_hasRun mv_thrown mv_thrownAt mv_lanes mv_lengths mv_cells mv_state mf1 mf2))) (va_Qv (fun (u : Nat → Nat) => True) (fun (u : Nat → Nat) => cPost dC dI cI cJ cZ (va_A (pw_X2_forget cI cJ cZ mh m1 m2 mv_hasRun mv_thrown mv_thrownAt mv_lanes mv_lengths mv_cells mv_state mf1 mf2) sz) [(mh, .inr (2, [.int 0, .int 0, .int (-1), .ref m1, .ref m2, mv_lanes, mv_lengths, mv_cells, mv_state])), (m1, .inl (cI, 6, .inl (ov mf1 6 0))), (m2, .inl (cI, 6, .inl (ov mf2 6 (-1))))]) (va_A (pw_X2_forget cI cJ cZ mh m1 m2 mv_hasRun mv_thrown mv_thrownAt mv_lanes mv_lengths mv_cells mv_state mf1 mf2) sz)) 0 0 (va_A (pw_X2_forget cI cJ cZ mh m1 m2 mv_hasRun mv_thrown mv_thrownAt mv_lanes mv_lengths mv_cells mv_state mf1 mf2) sz) := by
  refine Met.ofW (cc := cX2_forget) (maxL := 2) (ret := none) (by decide) rfl ?_
  intro p e s m args below meth c s₁ B hml hv
  obtain ⟨rfl, hsz, hP, hK, hD0, hN⟩ := hv
  have hx := B.exec
  have hb := B.bytes
  have hr := B.returns
  have hts := atoms_spec (ws := w_X2_forget) B.pre
  have hown : s.vm.findClass RX2 = some m.cls := findClass_of_methodNamed B.named
  have hlocks := B.notSynchronized
  subst hsz
  have hD := hD0.self (sz := s.heap.size)
  generalize hAe : va_A (pw_X2_forget cI cJ cZ mh m1 m2 mv_hasRun mv_thrown mv_thrownAt mv_lanes mv_lengths mv_cells mv_state mf1 mf2) s.heap.size = A at hD ⊢
  have hA : ∀ q : Nat, s.heap.size ≤ q → A q := fun q h => by rw [← hAe]; exact Or.inr h
  clear hAe hD0
  have hS : va_S A s.heap s.heap [] := va_S.rf
  replace hP : va_P (dC, dI) vwCl [(mh, .inr (2, [mv_hasRun, mv_thrown, mv_thrownAt, .ref m1, .ref m2, mv_lanes, mv_lengths, mv_cells, mv_state])), (m1, .inl (cI, 6, .inl mf1)), (m2, .inl (cI, 6, .inl mf2))] s.heap := hP
  replace hD : va_D A [(mh, .inr (2, [mv_hasRun, mv_thrown, mv_thrownAt, .ref m1, .ref m2, mv_lanes, mv_lengths, mv_cells, mv_state])), (m1, .inl (cI, 6, .inl mf1)), (m2, .inl (cI, 6, .inl mf2))] := hD
  have hl := lv_entry ([.ref mh]) (n := 2) (Nat.le_of_ble_eq_true rfl)
  rw [lg_entry_eq]
  generalize (lg_sl ([.ref mh]) ++ List.replicate (2 - (lg_sl ([.ref mh])).length) Slot.unset).toArray = ls at hl ⊢
  replace hl : lv_has ls 2 [(0, .ref mh)] := hl
  refine lv_aload_n hx hb dX2_forget_0 rfl (lv_at hl 0 rfl) ?_
  refine lv_iconst (v := 0) hx hb dX2_forget_1 (by decide) ?_
  refine va_put (D := (dC, dI)) (ci := 2) (v := .int 0) (ty := .boolean) (C := RX2) (T := TX2) (N := 9) hx hb hts inc_X2_forget_X2 tyX2 tyX2_ok nmX2 hown hK hP hD hS 0 rfl rfl 0 (by decide) (hts (.fieldLink RX2 9 "ArraySegments$Machine" "hasRun" "Z") (List.mem_of_getElem? (i := 1) rfl)) (fun _ h9 => h9) rfl (by decide +kernel) rfl rfl (Nat.le_of_ble_eq_true rfl) dX2_forget_2 (fun H_1 locs_1 hP1 hD1 hS1 => ?_)
  replace hP : va_P (dC, dI) vwCl [(mh, .inr (2, [.int 0, mv_thrown, mv_thrownAt, .ref m1, .ref m2, mv_lanes, mv_lengths, mv_cells, mv_state])), (m1, .inl (cI, 6, .inl mf1)), (m2, .inl (cI, 6, .inl mf2))] H_1 := hP1
  replace hD : va_D A [(mh, .inr (2, [.int 0, mv_thrown, mv_thrownAt, .ref m1, .ref m2, mv_lanes, mv_lengths, mv_cells, mv_state])), (m1, .inl (cI, 6, .inl mf1)), (m2, .inl (cI, 6, .inl mf2))] := hD1
  replace hS := hS1
  clear hP1 hD1 hS1
  refine lv_aload_n hx hb dX2_forget_5 rfl (lv_at hl 0 rfl) ?_
  refine lv_iconst (v := 0) hx hb dX2_forget_6 (by decide) ?_
  refine va_put (D := (dC, dI)) (ci := 2) (v := .int 0) (ty := .int) (C := RX2) (T := TX2) (N := 9) hx hb hts inc_X2_forget_X2 tyX2 tyX2_ok nmX2 hown hK hP hD hS 0 rfl rfl 1 (by decide) (hts (.fieldLink RX2 15 "ArraySegments$Machine" "thrown" "I") (List.mem_of_getElem? (i := 2) rfl)) (fun _ h9 => h9) rfl (by decide +kernel) rfl rfl (Nat.le_of_ble_eq_true rfl) dX2_forget_7 (fun H_2 locs_2 hP1 hD1 hS1 => ?_)
  replace hP : va_P (dC, dI) vwCl [(mh, .inr (2, [.int 0, .int 0, mv_thrownAt, .ref m1, .ref m2, mv_lanes, mv_lengths, mv_cells, mv_state])), (m1, .inl (cI, 6, .inl mf1)), (m2, .inl (cI, 6, .inl mf2))] H_2 := hP1
  replace hD : va_D A [(mh, .inr (2, [.int 0, .int 0, mv_thrownAt, .ref m1, .ref m2, mv_lanes, mv_lengths, mv_cells, mv_state])), (m1, .inl (cI, 6, .inl mf1)), (m2, .inl (cI, 6, .inl mf2))] := hD1
  replace hS := hS1
  clear hP1 hD1 hS1
  refine lv_aload_n hx hb dX2_forget_10 rfl (lv_at hl 0 rfl) ?_
  refine lv_iconst (v := (-1)) hx hb dX2_forget_11 (by decide) ?_
  refine va_put (D := (dC, dI)) (ci := 2) (v := .int (-1)) (ty := .int) (C := RX2) (T := TX2) (N := 9) hx hb hts inc_X2_forget_X2 tyX2 tyX2_ok nmX2 hown hK hP hD hS 0 rfl rfl 2 (by decide) (hts (.fieldLink RX2 19 "ArraySegments$Machine" "thrownAt" "I") (List.mem_of_getElem? (i := 3) rfl)) (fun _ h9 => h9) rfl (by decide +kernel) rfl rfl (Nat.le_of_ble_eq_true rfl) dX2_forget_12 (fun H_3 locs_3 hP1 hD1 hS1 => ?_)
  replace hP : va_P (dC, dI) vwCl [(mh, .inr (2, [.int 0, .int 0, .int (-1), .ref m1, .ref m2, mv_lanes, mv_lengths, mv_cells, mv_state])), (m1, .inl (cI, 6, .inl mf1)), (m2, .inl (cI, 6, .inl mf2))] H_3 := hP1
  replace hD : va_D A [(mh, .inr (2, [.int 0, .int 0, .int (-1), .ref m1, .ref m2, mv_lanes, mv_lengths, mv_cells, mv_state])), (m1, .inl (cI, 6, .inl mf1)), (m2, .inl (cI, 6, .inl mf2))] := hD1
  replace hS := hS1
  clear hP1 hD1 hS1
  refine lv_iconst (v := 0) hx hb dX2_forget_15 (by decide) ?_
  refine lv_istore_n (lv' := [(1, .int 0), (0, .ref mh)]) hx hb dX2_forget_16 rfl hl (by decide) rfl (fun ls1 hl1 => ?_)
  replace hl := hl1; clear hl1
  refine my_loop 6 (fun i => [(mh, .inr (2, [.int 0, .int 0, .int (-1), .ref m1, .ref m2, mv_lanes, mv_lengths, mv_cells, mv_state])), (m1, .inl (cI, 6, .inl (ov mf1 i 0))), (m2, .inl (cI, 6, .inl mf2))]) (fun i => [(1, .int (nI i)), (0, .ref mh)]) (H0 := s.heap) (A := A) (D := (dC, dI)) (cl := vwCl) (by first | (simp only [ov_0, ovL_0]; exact hP) | exact hP) (by first | (simp only [ov_0, ovL_0]; exact hD) | exact hD) hS (by exact hl) (fun H_17 locs_17 ls1 hP1 hD1 hS1 hl1 => ?_) (fun i17 hlt_i17 ih_17 H_17 locs_17 ls1 hP1 hD1 hS1 hl1 => ?_)
  · -- behind
    replace hP : va_P (dC, dI) vwCl [(mh, .inr (2, [.int 0, .int 0, .int (-1), .ref m1, .ref m2, mv_lanes, mv_lengths, mv_cells, mv_state])), (m1, .inl (cI, 6, .inl (ov mf1 6 0))), (m2, .inl (cI, 6, .inl mf2))] H_17 := hP1
    replace hD : va_D A [(mh, .inr (2, [.int 0, .int 0, .int (-1), .ref m1, .ref m2, mv_lanes, mv_lengths, mv_cells, mv_state])), (m1, .inl (cI, 6, .inl (ov mf1 6 0))), (m2, .inl (cI, 6, .inl mf2))] := hD1
    replace hS := hS1
    clear hP1 hD1 hS1
    replace hl : lv_has ls1 2 [(1, .int (nI 6)), (0, .ref mh)] := hl1
    clear hl1
    refine lv_iload_n hx hb dX2_forget_17 rfl (lv_at hl 0 rfl) ?_
    refine lv_bipush (v := 6) hx hb dX2_forget_18 (by decide) ?_
    refine lv_icmp_ge (tgt := 36) hx hb dX2_forget_20 (by decide) (fun c_4 => ?_) (fun c_4 => ?_)
    · -- on
      refine lv_iconst (v := 0) hx hb dX2_forget_36 (by decide) ?_
      refine lv_istore_n (lv' := [(1, .int 0), (0, .ref mh)]) hx hb dX2_forget_37 rfl hl (by decide) rfl (fun ls1 hl1 => ?_)
      replace hl := hl1; clear hl1
      refine my_loop 6 (fun i => [(mh, .inr (2, [.int 0, .int 0, .int (-1), .ref m1, .ref m2, mv_lanes, mv_lengths, mv_cells, mv_state])), (m1, .inl (cI, 6, .inl (ov mf1 6 0))), (m2, .inl (cI, 6, .inl (ov mf2 i (-1))))]) (fun i => [(1, .int (nI i)), (0, .ref mh)]) (H0 := s.heap) (A := A) (D := (dC, dI)) (cl := vwCl) (by first | (simp only [ov_0, ovL_0]; exact hP) | exact hP) (by first | (simp only [ov_0, ovL_0]; exact hD) | exact hD) hS (by exact hl) (fun H_38 locs_38 ls1 hP1 hD1 hS1 hl1 => ?_) (fun i38 hlt_i38 ih_38 H_38 locs_38 ls1 hP1 hD1 hS1 hl1 => ?_)
      · -- behind
        replace hP : va_P (dC, dI) vwCl [(mh, .inr (2, [.int 0, .int 0, .int (-1), .ref m1, .ref m2, mv_lanes, mv_lengths, mv_cells, mv_state])), (m1, .inl (cI, 6, .inl (ov mf1 6 0))), (m2, .inl (cI, 6, .inl (ov mf2 6 (-1))))] H_38 := hP1
        replace hD : va_D A [(mh, .inr (2, [.int 0, .int 0, .int (-1), .ref m1, .ref m2, mv_lanes, mv_lengths, mv_cells, mv_state])), (m1, .inl (cI, 6, .inl (ov mf1 6 0))), (m2, .inl (cI, 6, .inl (ov mf2 6 (-1))))] := hD1
        replace hS := hS1
        clear hP1 hD1 hS1
        replace hl : lv_has ls1 2 [(1, .int (nI 6)), (0, .ref mh)] := hl1
        clear hl1
        refine lv_iload_n hx hb dX2_forget_38 rfl (lv_at hl 0 rfl) ?_
        refine lv_bipush (v := 6) hx hb dX2_forget_39 (by decide) ?_
        refine lv_icmp_ge (tgt := 57) hx hb dX2_forget_41 (by decide) (fun c_5 => ?_) (fun c_5 => ?_)
        · -- on
          have hP9 := hP.sub (ws' := [(mh, .inr (2, [.int 0, .int 0, .int (-1), .ref m1, .ref m2, mv_lanes, mv_lengths, mv_cells, mv_state])), (m1, .inl (cI, 6, .inl (ov mf1 6 0))), (m2, .inl (cI, 6, .inl (ov mf2 6 (-1))))]) [0, 1, 2] rfl
          have hD9 := hD.sub (ws' := [(mh, .inr (2, [.int 0, .int 0, .int (-1), .ref m1, .ref m2, mv_lanes, mv_lengths, mv_cells, mv_state])), (m1, .inl (cI, 6, .inl (ov mf1 6 0))), (m2, .inl (cI, 6, .inl (ov mf2 6 (-1))))]) [0, 1, 2] (by decide) rfl
          exact W.vret hx hb hr (fun t ht hW => ⟨⟨(fun _ => 0), rfl, trivial, by rw [ht]; exact hP9, va_K.moved hW.alike hK, hD9⟩, hS.F ht⟩) hS.2.2 dX2_forget_57
        · exact absurd (by decide) c_5
      · -- once
        replace hP : va_P (dC, dI) vwCl [(mh, .inr (2, [.int 0, .int 0, .int (-1), .ref m1, .ref m2, mv_lanes, mv_lengths, mv_cells, mv_state])), (m1, .inl (cI, 6, .inl (ov mf1 6 0))), (m2, .inl (cI, 6, .inl (ov mf2 i38 (-1))))] H_38 := hP1
        replace hD : va_D A [(mh, .inr (2, [.int 0, .int 0, .int (-1), .ref m1, .ref m2, mv_lanes, mv_lengths, mv_cells, mv_state])), (m1, .inl (cI, 6, .inl (ov mf1 6 0))), (m2, .inl (cI, 6, .inl (ov mf2 i38 (-1))))] := hD1
        replace hS := hS1
        clear hP1 hD1 hS1
        replace hl : lv_has ls1 2 [(1, .int (nI i38)), (0, .ref mh)] := hl1
        clear hl1
        refine lv_iload_n hx hb dX2_forget_38 rfl (lv_at hl 0 rfl) ?_
        refine lv_bipush (v := 6) hx hb dX2_forget_39 (by decide) ?_
        refine lv_icmp_ge (tgt := 57) hx hb dX2_forget_41 (by decide) (fun c_6 => ?_) (fun c_6 => ?_)
        · exact absurd c_6 (nI_ge hlt_i38 (by decide))
        · -- on
          refine lv_aload_n hx hb dX2_forget_44 rfl (lv_at hl 1 rfl) ?_
          refine va_get (D := (dC, dI)) (ci := 2) (v := .ref m2) (C := RX2) (T := TX2) (N := 9) hx hb hts inc_X2_forget_X2 hown hK hP 0 rfl rfl 4 (by decide) (hts (.fieldLink RX2 26 "ArraySegments$Machine" "meant" "[I") (List.mem_of_getElem? (i := 4) rfl)) (fun _ h9 => h9) rfl dX2_forget_45 ?_
          refine lv_iload_n hx hb dX2_forget_48 rfl (lv_at hl 0 rfl) ?_
          refine lv_iconst (v := (-1)) hx hb dX2_forget_49 (by decide) ?_
          refine va_iast hx hb hK hP hD hS 2 0 rfl rfl (vp_in_nI (by omega) (by decide)) dX2_forget_50 (fun H_7 locs_7 hP1 hD1 hS1 => ?_)
          rw [show upd (ov mf2 i38 (-1)) (nI i38 : Int32).toNatClampNeg (-1) = (ov mf2 (i38 + 1) (-1)) from ov_st mf2 (-1) (by omega)] at hP1 hD1
          replace hP : va_P (dC, dI) vwCl [(mh, .inr (2, [.int 0, .int 0, .int (-1), .ref m1, .ref m2, mv_lanes, mv_lengths, mv_cells, mv_state])), (m1, .inl (cI, 6, .inl (ov mf1 6 0))), (m2, .inl (cI, 6, .inl (ov mf2 (i38 + 1) (-1))))] H_7 := hP1
          replace hD : va_D A [(mh, .inr (2, [.int 0, .int 0, .int (-1), .ref m1, .ref m2, mv_lanes, mv_lengths, mv_cells, mv_state])), (m1, .inl (cI, 6, .inl (ov mf1 6 0))), (m2, .inl (cI, 6, .inl (ov mf2 (i38 + 1) (-1))))] := hD1
          replace hS := hS1
          clear hP1 hD1 hS1
          refine lv_iinc (v := nI (i38 + 1)) (lv' := [(1, .int (nI (i38 + 1))), (0, .ref mh)]) hx hb dX2_forget_51 hl (k := 0) rfl (by rw [show Int32.ofInt 1 = (1 : Int32) from by decide]; exact nI_1 _) (by decide) rfl (fun ls1 hl1 => ?_)
          replace hl := hl1; clear hl1
          refine lv_goto (tgt := 38) hx hb dX2_forget_54 (by decide) ?_
          exact ih_38 _ _ _ (hP.sub [0, 1, 2] rfl) (hD.sub [0, 1, 2] (by decide) rfl) hS (lv_sub hl [0, 1] rfl)
    · exact absurd (by decide) c_4
  · -- once
    replace hP : va_P (dC, dI) vwCl [(mh, .inr (2, [.int 0, .int 0, .int (-1), .ref m1, .ref m2, mv_lanes, mv_lengths, mv_cells, mv_state])), (m1, .inl (cI, 6, .inl (ov mf1 i17 0))), (m2, .inl (cI, 6, .inl mf2))] H_17 := hP1
    replace hD : va_D A [(mh, .inr (2, [.int 0, .int 0, .int (-1), .ref m1, .ref m2, mv_lanes, mv_lengths, mv_cells, mv_state])), (m1, .inl (cI, 6, .inl (ov mf1 i17 0))), (m2, .inl (cI, 6, .inl mf2))] := hD1
    replace hS := hS1
    clear hP1 hD1 hS1
    replace hl : lv_has ls1 2 [(1, .int (nI i17)), (0, .ref mh)] := hl1
    clear hl1
    refine lv_iload_n hx hb dX2_forget_17 rfl (lv_at hl 0 rfl) ?_
    refine lv_bipush (v := 6) hx hb dX2_forget_18 (by decide) ?_
    refine lv_icmp_ge (tgt := 36) hx hb dX2_forget_20 (by decide) (fun c_8 => ?_) (fun c_8 => ?_)
    · exact absurd c_8 (nI_ge hlt_i17 (by decide))
    · -- on
      refine lv_aload_n hx hb dX2_forget_23 rfl (lv_at hl 1 rfl) ?_
      refine va_get (D := (dC, dI)) (ci := 2) (v := .ref m1) (C := RX2) (T := TX2) (N := 9) hx hb hts inc_X2_forget_X2 hown hK hP 0 rfl rfl 3 (by decide) (hts (.fieldLink RX2 22 "ArraySegments$Machine" "values" "[I") (List.mem_of_getElem? (i := 5) rfl)) (fun _ h9 => h9) rfl dX2_forget_24 ?_
      refine lv_iload_n hx hb dX2_forget_27 rfl (lv_at hl 0 rfl) ?_
      refine lv_iconst (v := 0) hx hb dX2_forget_28 (by decide) ?_
      refine va_iast hx hb hK hP hD hS 1 0 rfl rfl (vp_in_nI (by omega) (by decide)) dX2_forget_29 (fun H_9 locs_9 hP1 hD1 hS1 => ?_)
      rw [show upd (ov mf1 i17 0) (nI i17 : Int32).toNatClampNeg 0 = (ov mf1 (i17 + 1) 0) from ov_st mf1 0 (by omega)] at hP1 hD1
      replace hP : va_P (dC, dI) vwCl [(mh, .inr (2, [.int 0, .int 0, .int (-1), .ref m1, .ref m2, mv_lanes, mv_lengths, mv_cells, mv_state])), (m1, .inl (cI, 6, .inl (ov mf1 (i17 + 1) 0))), (m2, .inl (cI, 6, .inl mf2))] H_9 := hP1
      replace hD : va_D A [(mh, .inr (2, [.int 0, .int 0, .int (-1), .ref m1, .ref m2, mv_lanes, mv_lengths, mv_cells, mv_state])), (m1, .inl (cI, 6, .inl (ov mf1 (i17 + 1) 0))), (m2, .inl (cI, 6, .inl mf2))] := hD1
      replace hS := hS1
      clear hP1 hD1 hS1
      refine lv_iinc (v := nI (i17 + 1)) (lv' := [(1, .int (nI (i17 + 1))), (0, .ref mh)]) hx hb dX2_forget_30 hl (k := 0) rfl (by rw [show Int32.ofInt 1 = (1 : Int32) from by decide]; exact nI_1 _) (by decide) rfl (fun ls1 hl1 => ?_)
      replace hl := hl1; clear hl1
      refine lv_goto (tgt := 17) hx hb dX2_forget_33 (by decide) ?_
      exact ih_17 _ _ _ (hP.sub [0, 1, 2] rfl) (hD.sub [0, 1, 2] (by decide) rfl) hS (lv_sub hl [0, 1] rfl)

def w_X2_perform : List Cond := .code yX2_perform cX2_perform 7 none :: ([.methodLink RX2 42 yX2_forget, .instanceMethod yX2_forget, .selects RX2 yX2_forget yX2_forget, .initialized RX2, .code yX2_forget cX2_forget 2 none, .fieldLink RX2 9 "ArraySegments$Machine" "hasRun" "Z", .fieldLink RX2 15 "ArraySegments$Machine" "thrown" "I", .fieldLink RX2 19 "ArraySegments$Machine" "thrownAt" "I", .fieldLink RX2 26 "ArraySegments$Machine" "meant" "[I", .fieldLink RX2 22 "ArraySegments$Machine" "values" "[I", .fieldLink RX2 38 "ArraySegments$Machine" "state" "J", .fieldLink RX2 45 "ArraySegments$Program" "count" "I"] ++ wsX20 ++ wsX30)
theorem inc_X2_perform_X2 : ∀ w ∈ wsX20, w ∈ w_X2_perform := fun _ h => List.mem_cons_of_mem _ (List.mem_append_left _ (List.mem_append_right _ h))
theorem inc_X2_perform_X3 : ∀ w ∈ wsX30, w ∈ w_X2_perform := fun _ h => List.mem_cons_of_mem _ (List.mem_append_right _ h)
set_option maxRecDepth 20000 in
theorem g_X2_perform_X2_forget_42 : GoodIn w_X2_perform (wsV RX2 42 RX2 yX2_forget w_X2_forget) := goodIn_r _ [1, 2, 3, 4, 5, 6, 7, 8, 9, 10, 13, 14, 15, 16, 17, 18, 19, 20, 21] (by decide +kernel) (by decide +kernel)
abbrev pw_X2_perform (cI cJ cZ : ClassId) (mh : Nat) (m1 : Nat) (m2 : Nat) (mv_hasRun : Value) (mv_thrown : Value) (mv_thrownAt : Value) (mv_lanes : Value) (mv_lengths : Value) (mv_cells : Value) (mv_state : Value) (mf1 : Nat → Int32) (mf2 : Nat → Int32) (ph : Nat) (pv_rows : Value) (pv_dropped : Value) (seed : Int64) : va_W := [(mh, .inr (2, [mv_hasRun, mv_thrown, mv_thrownAt, .ref m1, .ref m2, mv_lanes, mv_lengths, mv_cells, mv_state])), (m1, .inl (cI, 6, .inl mf1)), (m2, .inl (cI, 6, .inl mf2)), (ph, .inr (3, [pv_rows, pv_dropped, .int 0]))]
set_option maxHeartbeats 4000000 in
set_option maxRecDepth 100000 in
theorem c_X2_perform (l : Launch) (dC : Nat → ClassId) (dI : Nat → Nat → Nat) (cI cJ cZ : ClassId) (mh : Nat) (m1 : Nat) (m2 : Nat) (mv_hasRun : Value) (mv_thrown : Value) (mv_thrownAt : Value) (mv_lanes : Value) (mv_lengths : Value) (mv_cells : Value) (mv_state : Value) (mf1 : Nat → Int32) (mf2 : Nat → Int32) (ph : Nat) (pv_rows : Value) (pv_dropped : Value) (seed : Int64) (sz : Nat) : Met l yX2_perform w_X2_perform ({ frames := 1, cells := 0, slots := 0, locals := 21 }) (va_Pc [.ref mh, .ref ph, .long seed] (cPre dC dI cI cJ cZ sz (pw_X2_perform cI cJ cZ mh m1 m2 mv_hasRun mv_thrown mv_thrownAt mv_lanes mv_lengths mv_cells mv_state mf1 mf2 ph pv_rows pv_dropped seed))) (va_Qv (fun (u : Nat → Nat) => True) (fun (u : Nat → Nat) => cPost dC dI cI cJ cZ (va_A (pw_X2_perform cI cJ cZ mh m1 m2 mv_hasRun mv_thrown mv_thrownAt mv_lanes mv_lengths mv_cells mv_state mf1 mf2 ph pv_rows pv_dropped seed) sz) [(mh, .inr (2, [.int 1, .int 0, .int (-1), .ref m1, .ref m2, mv_lanes, mv_lengths, mv_cells, .long seed])), (m1, .inl (cI, 6, .inl (ov mf1 6 0))), (m2, .inl (cI, 6, .inl (ov mf2 6 (-1)))), (ph, .inr (3, [pv_rows, pv_dropped, .int 0]))]) (va_A (pw_X2_perform cI cJ cZ mh m1 m2 mv_hasRun mv_thrown mv_thrownAt mv_lanes mv_lengths mv_cells mv_state mf1 mf2 ph pv_rows pv_dropped seed) sz)) 0 0 (va_A (pw_X2_perform cI cJ cZ mh m1 m2 mv_hasRun mv_thrown mv_thrownAt mv_lanes mv_lengths mv_cells mv_state mf1 mf2 ph pv_rows pv_dropped seed) sz) := by
  refine Met.ofW (cc := cX2_perform) (maxL := 7) (ret := none) (by decide) rfl ?_
  intro p e s m args below meth c s₁ B hml hv
  obtain ⟨rfl, hsz, hP, hK, hD0, hN⟩ := hv
  have hx := B.exec
  have hb := B.bytes
  have hr := B.returns
  have hts := atoms_spec (ws := w_X2_perform) B.pre
  have hown : s.vm.findClass RX2 = some m.cls := findClass_of_methodNamed B.named
  have hlocks := B.notSynchronized
  subst hsz
  have hD := hD0.self (sz := s.heap.size)
  generalize hAe : va_A (pw_X2_perform cI cJ cZ mh m1 m2 mv_hasRun mv_thrown mv_thrownAt mv_lanes mv_lengths mv_cells mv_state mf1 mf2 ph pv_rows pv_dropped seed) s.heap.size = A at hD ⊢
  have hA : ∀ q : Nat, s.heap.size ≤ q → A q := fun q h => by rw [← hAe]; exact Or.inr h
  clear hAe hD0
  have hS : va_S A s.heap s.heap [] := va_S.rf
  replace hP : va_P (dC, dI) vwCl [(mh, .inr (2, [mv_hasRun, mv_thrown, mv_thrownAt, .ref m1, .ref m2, mv_lanes, mv_lengths, mv_cells, mv_state])), (m1, .inl (cI, 6, .inl mf1)), (m2, .inl (cI, 6, .inl mf2)), (ph, .inr (3, [pv_rows, pv_dropped, .int 0]))] s.heap := hP
  replace hD : va_D A [(mh, .inr (2, [mv_hasRun, mv_thrown, mv_thrownAt, .ref m1, .ref m2, mv_lanes, mv_lengths, mv_cells, mv_state])), (m1, .inl (cI, 6, .inl mf1)), (m2, .inl (cI, 6, .inl mf2)), (ph, .inr (3, [pv_rows, pv_dropped, .int 0]))] := hD
  have hl := lv_entry ([.ref mh, .ref ph, .long seed]) (n := 7) (Nat.le_of_ble_eq_true rfl)
  rw [lg_entry_eq]
  generalize (lg_sl ([.ref mh, .ref ph, .long seed]) ++ List.replicate (7 - (lg_sl ([.ref mh, .ref ph, .long seed])).length) Slot.unset).toArray = ls at hl ⊢
  replace hl : lv_has ls 7 [(0, .ref mh), (1, .ref ph), (2, .long seed)] := hl
  refine lv_aload_n hx hb dX2_perform_0 rfl (lv_at hl 0 rfl) ?_
  have hPc := hP.sub (ws' := [(mh, .inr (2, [mv_hasRun, mv_thrown, mv_thrownAt, .ref m1, .ref m2, mv_lanes, mv_lengths, mv_cells, mv_state])), (m1, .inl (cI, 6, .inl mf1)), (m2, .inl (cI, 6, .inl mf2))]) [0, 1, 2] rfl
  have hDc := hD.sub (ws' := [(mh, .inr (2, [mv_hasRun, mv_thrown, mv_thrownAt, .ref m1, .ref m2, mv_lanes, mv_lengths, mv_cells, mv_state])), (m1, .inl (cI, 6, .inl mf1)), (m2, .inl (cI, 6, .inl mf2))]) [0, 1, 2] (by decide) rfl
  have hFc := va_free (wc := [(mh, .inr (2, [mv_hasRun, mv_thrown, mv_thrownAt, .ref m1, .ref m2, mv_lanes, mv_lengths, mv_cells, mv_state])), (m1, .inl (cI, 6, .inl mf1)), (m2, .inl (cI, 6, .inl mf2))]) hD hS hA [0, 1, 2] rfl
  refine va_callv (va_runV (As := []) (rest := []) ⟨hx, hb, hml, hown, hts⟩ (c_X2_forget l dC dI cI cJ cZ mh m1 m2 mv_hasRun mv_thrown mv_thrownAt mv_lanes mv_lengths mv_cells mv_state mf1 mf2 s.heap.size) (cwV 0 hts g_X2_perform_X2_forget_42 rfl rfl rfl (by decide +kernel) ⟨Nat.le_of_ble_eq_true rfl, Nat.le_of_ble_eq_true rfl⟩) ⟨cPre_blind, va_recv hK hPc (ci := 2) (q0 := 0) rfl rfl, cPre_of hK hN hPc hDc⟩ rfl rfl hl.1 rfl (lv_room (Nat.le_of_ble_eq_true rfl)) dX2_perform_1 ⟨Nat.le_of_ble_eq_true rfl, Nat.le_of_ble_eq_true rfl⟩) hS (fun q _ h => hFc q h) hFc (fun u_1 t_1 H_1 locs_1 ht hvm hw_1 hB hz1 hk1 hS1 => ?_)
  obtain ⟨hP1, hK1, hD1⟩ := hB
  rw [ht] at hP1
  obtain ⟨hP2, hD2⟩ := va_join (wr := [(ph, .inr (3, [pv_rows, pv_dropped, .int 0]))]) (w1 := [(mh, .inr (2, [.int 0, .int 0, .int (-1), .ref m1, .ref m2, mv_lanes, mv_lengths, mv_cells, mv_state])), (m1, .inl (cI, 6, .inl (ov mf1 6 0))), (m2, .inl (cI, 6, .inl (ov mf2 6 (-1))))]) hP hD [0, 1, 2] [3] rfl rfl (by decide) (by decide) hk1 hFc hP1 hD1
  clear hPc hDc hFc hP1 hD1 hK1 hk1 hz1 hvm ht
  replace hP : va_P (dC, dI) vwCl [(ph, .inr (3, [pv_rows, pv_dropped, .int 0])), (mh, .inr (2, [.int 0, .int 0, .int (-1), .ref m1, .ref m2, mv_lanes, mv_lengths, mv_cells, mv_state])), (m1, .inl (cI, 6, .inl (ov mf1 6 0))), (m2, .inl (cI, 6, .inl (ov mf2 6 (-1))))] H_1 := hP2
  replace hD : va_D A [(ph, .inr (3, [pv_rows, pv_dropped, .int 0])), (mh, .inr (2, [.int 0, .int 0, .int (-1), .ref m1, .ref m2, mv_lanes, mv_lengths, mv_cells, mv_state])), (m1, .inl (cI, 6, .inl (ov mf1 6 0))), (m2, .inl (cI, 6, .inl (ov mf2 6 (-1))))] := hD2
  replace hS := hS1
  clear hP2 hD2 hS1
  refine lv_aload_n hx hb dX2_perform_4 rfl (lv_at hl 0 rfl) ?_
  refine lv_iconst (v := 1) hx hb dX2_perform_5 (by decide) ?_
  refine va_put (D := (dC, dI)) (ci := 2) (v := .int 1) (ty := .boolean) (C := RX2) (T := TX2) (N := 9) hx hb hts inc_X2_perform_X2 tyX2 tyX2_ok nmX2 hown hK hP hD hS 1 rfl rfl 0 (by decide) (hts (.fieldLink RX2 9 "ArraySegments$Machine" "hasRun" "Z") (List.mem_of_getElem? (i := 6) rfl)) (fun _ h9 => h9) rfl (by decide +kernel) rfl rfl (Nat.le_of_ble_eq_true rfl) dX2_perform_6 (fun H_2 locs_2 hP1 hD1 hS1 => ?_)
  replace hP : va_P (dC, dI) vwCl [(ph, .inr (3, [pv_rows, pv_dropped, .int 0])), (mh, .inr (2, [.int 1, .int 0, .int (-1), .ref m1, .ref m2, mv_lanes, mv_lengths, mv_cells, mv_state])), (m1, .inl (cI, 6, .inl (ov mf1 6 0))), (m2, .inl (cI, 6, .inl (ov mf2 6 (-1))))] H_2 := hP1
  replace hD : va_D A [(ph, .inr (3, [pv_rows, pv_dropped, .int 0])), (mh, .inr (2, [.int 1, .int 0, .int (-1), .ref m1, .ref m2, mv_lanes, mv_lengths, mv_cells, mv_state])), (m1, .inl (cI, 6, .inl (ov mf1 6 0))), (m2, .inl (cI, 6, .inl (ov mf2 6 (-1))))] := hD1
  replace hS := hS1
  clear hP1 hD1 hS1
  refine lv_aload_n hx hb dX2_perform_9 rfl (lv_at hl 0 rfl) ?_
  refine lv_lload_n hx hb dX2_perform_10 rfl (lv_at hl 2 rfl) ?_
  refine va_put (D := (dC, dI)) (ci := 2) (v := .long seed) (ty := .long) (C := RX2) (T := TX2) (N := 9) hx hb hts inc_X2_perform_X2 tyX2 tyX2_ok nmX2 hown hK hP hD hS 1 rfl rfl 8 (by decide) (hts (.fieldLink RX2 38 "ArraySegments$Machine" "state" "J") (List.mem_of_getElem? (i := 11) rfl)) (fun _ h9 => h9) rfl (by decide +kernel) rfl rfl (Nat.le_of_ble_eq_true rfl) dX2_perform_11 (fun H_3 locs_3 hP1 hD1 hS1 => ?_)
  replace hP : va_P (dC, dI) vwCl [(ph, .inr (3, [pv_rows, pv_dropped, .int 0])), (mh, .inr (2, [.int 1, .int 0, .int (-1), .ref m1, .ref m2, mv_lanes, mv_lengths, mv_cells, .long seed])), (m1, .inl (cI, 6, .inl (ov mf1 6 0))), (m2, .inl (cI, 6, .inl (ov mf2 6 (-1))))] H_3 := hP1
  replace hD : va_D A [(ph, .inr (3, [pv_rows, pv_dropped, .int 0])), (mh, .inr (2, [.int 1, .int 0, .int (-1), .ref m1, .ref m2, mv_lanes, mv_lengths, mv_cells, .long seed])), (m1, .inl (cI, 6, .inl (ov mf1 6 0))), (m2, .inl (cI, 6, .inl (ov mf2 6 (-1))))] := hD1
  replace hS := hS1
  clear hP1 hD1 hS1
  refine lv_iconst (v := 0) hx hb dX2_perform_14 (by decide) ?_
  refine lv_istore (lv' := [(4, .int 0), (0, .ref mh), (1, .ref ph), (2, .long seed)]) hx hb dX2_perform_15 hl (by decide) rfl (fun ls1 hl1 => ?_)
  replace hl := hl1; clear hl1
  refine lv_iconst (v := 1) hx hb dX2_perform_17 (by decide) ?_
  refine lv_istore (lv' := [(5, .int 1), (4, .int 0), (0, .ref mh), (1, .ref ph), (2, .long seed)]) hx hb dX2_perform_18 hl (by decide) rfl (fun ls1 hl1 => ?_)
  replace hl := hl1; clear hl1
  refine lv_iconst (v := 0) hx hb dX2_perform_20 (by decide) ?_
  refine lv_istore (lv' := [(6, .int 0), (5, .int 1), (4, .int 0), (0, .ref mh), (1, .ref ph), (2, .long seed)]) hx hb dX2_perform_21 hl (by decide) rfl (fun ls1 hl1 => ?_)
  replace hl := hl1; clear hl1
  refine lv_iload hx hb dX2_perform_23 (lv_at hl 0 rfl) ?_
  refine lv_aload_n hx hb dX2_perform_25 rfl (lv_at hl 4 rfl) ?_
  refine va_get (D := (dC, dI)) (ci := 3) (v := .int 0) (C := RX3) (T := TX3) (N := 3) hx hb hts inc_X2_perform_X3 hown hK hP 0 rfl rfl 2 (by decide) (hts (.fieldLink RX2 45 "ArraySegments$Program" "count" "I") (List.mem_of_getElem? (i := 12) rfl)) (fun _ h9 => h9) rfl dX2_perform_26 ?_
  refine lv_icmp_ge (tgt := 139) hx hb dX2_perform_29 (by decide) (fun c_4 => ?_) (fun c_4 => ?_)
  · -- on
    have hP9 := hP.sub (ws' := [(mh, .inr (2, [.int 1, .int 0, .int (-1), .ref m1, .ref m2, mv_lanes, mv_lengths, mv_cells, .long seed])), (m1, .inl (cI, 6, .inl (ov mf1 6 0))), (m2, .inl (cI, 6, .inl (ov mf2 6 (-1)))), (ph, .inr (3, [pv_rows, pv_dropped, .int 0]))]) [1, 2, 3, 0] rfl
    have hD9 := hD.sub (ws' := [(mh, .inr (2, [.int 1, .int 0, .int (-1), .ref m1, .ref m2, mv_lanes, mv_lengths, mv_cells, .long seed])), (m1, .inl (cI, 6, .inl (ov mf1 6 0))), (m2, .inl (cI, 6, .inl (ov mf2 6 (-1)))), (ph, .inr (3, [pv_rows, pv_dropped, .int 0]))]) [1, 2, 3, 0] (by decide) rfl
    exact W.vret hx hb hr (fun t ht hW => ⟨⟨(fun _ => 0), rfl, trivial, by rw [ht]; exact hP9, va_K.moved hW.alike hK, hD9⟩, hS.F ht⟩) hS.2.2 dX2_perform_139
  · exact absurd (by decide) c_4

def w_X2_init : List Cond := .code yX2_init cX2_init 1 none :: ([.methodLink RX2 3 objectInit, .instanceMethod objectInit, .code objectInit ⟨#[0xb1]⟩ 1 none, .fieldLink RX2 9 "ArraySegments$Machine" "hasRun" "Z", .fieldLink RX2 15 "ArraySegments$Machine" "thrown" "I", .fieldLink RX2 19 "ArraySegments$Machine" "thrownAt" "I", .arrayClass .int, .fieldLink RX2 22 "ArraySegments$Machine" "values" "[I", .fieldLink RX2 26 "ArraySegments$Machine" "meant" "[I", .fieldLink RX2 29 "ArraySegments$Machine" "lanes" "[I", .fieldLink RX2 32 "ArraySegments$Machine" "lengths" "[I", .fieldLink RX2 35 "ArraySegments$Machine" "cells" "[I", .fieldLink RX2 38 "ArraySegments$Machine" "state" "J", .methodLink RX2 42 yX2_forget, .instanceMethod yX2_forget, .selects RX2 yX2_forget yX2_forget, .initialized RX2, .code yX2_forget cX2_forget 2 none] ++ wsX20)
theorem inc_X2_init_X2 : ∀ w ∈ wsX20, w ∈ w_X2_init := fun _ h => List.mem_cons_of_mem _ (List.mem_append_right _ h)
set_option maxRecDepth 20000 in
theorem g_X2_init_X2_forget_42 : GoodIn w_X2_init (wsV RX2 42 RX2 yX2_forget w_X2_forget) := goodIn_r _ [14, 15, 16, 17, 18, 4, 5, 6, 9, 8, 19, 20, 21, 22, 23, 24, 25, 26, 27] (by decide +kernel) (by decide +kernel)
abbrev pw_X2_init (cI cJ cZ : ClassId) (mh : Nat) : va_W := [(mh, .inr (2, [.int 0, .int 0, .int 0, .null, .null, .null, .null, .null, .long 0]))]
set_option maxHeartbeats 4000000 in
set_option maxRecDepth 100000 in
theorem c_X2_init (l : Launch) (dC : Nat → ClassId) (dI : Nat → Nat → Nat) (cI cJ cZ : ClassId) (mh : Nat) (sz : Nat) : Met l yX2_init w_X2_init ({ frames := 1, cells := 5, slots := 572, locals := 21 }) (va_Pc [.ref mh] (cPre dC dI cI cJ cZ sz (pw_X2_init cI cJ cZ mh))) (va_Qv (fun (u : Nat → Nat) => True) (fun (u : Nat → Nat) => cPost dC dI cI cJ cZ (va_A (pw_X2_init cI cJ cZ mh) sz) [(mh, .inr (2, [.int 0, .int 0, .int (-1), .ref (u 0), .ref (u 1), .ref (u 2), .ref (u 3), .ref (u 4), .long 0])), ((u 0), .inl (cI, 6, .inl (ov (fun _ => 0) 6 0))), ((u 1), .inl (cI, 6, .inl (ov (fun _ => 0) 6 (-1)))), ((u 2), .inl (cI, 40, .inl (fun _ => 0))), ((u 3), .inl (cI, 40, .inl (fun _ => 0))), ((u 4), .inl (cI, 480, .inl (fun _ => 0)))]) (va_A (pw_X2_init cI cJ cZ mh) sz)) 5 572 (va_A (pw_X2_init cI cJ cZ mh) sz) := by
  refine Met.ofW (cc := cX2_init) (maxL := 1) (ret := none) (by decide) rfl ?_
  intro p e s m args below meth c s₁ B hml hv
  obtain ⟨rfl, hsz, hP, hK, hD0, hN⟩ := hv
  have hx := B.exec
  have hb := B.bytes
  have hr := B.returns
  have hts := atoms_spec (ws := w_X2_init) B.pre
  have hown : s.vm.findClass RX2 = some m.cls := findClass_of_methodNamed B.named
  have hlocks := B.notSynchronized
  have hin : meth.name = "<init>" := (name_of_methodNamed B.named B.method).1
  subst hsz
  have hD := hD0.self (sz := s.heap.size)
  generalize hAe : va_A (pw_X2_init cI cJ cZ mh) s.heap.size = A at hD ⊢
  have hA : ∀ q : Nat, s.heap.size ≤ q → A q := fun q h => by rw [← hAe]; exact Or.inr h
  clear hAe hD0
  have hS : va_S A s.heap s.heap [] := va_S.rf
  replace hP : va_P (dC, dI) vwCl [(mh, .inr (2, [.int 0, .int 0, .int 0, .null, .null, .null, .null, .null, .long 0]))] s.heap := hP
  replace hD : va_D A [(mh, .inr (2, [.int 0, .int 0, .int 0, .null, .null, .null, .null, .null, .long 0]))] := hD
  have hl := lv_entry ([.ref mh]) (n := 1) (Nat.le_of_ble_eq_true rfl)
  rw [lg_entry_eq]
  generalize (lg_sl ([.ref mh]) ++ List.replicate (1 - (lg_sl ([.ref mh])).length) Slot.unset).toArray = ls at hl ⊢
  replace hl : lv_has ls 1 [(0, .ref mh)] := hl
  refine lv_aload_n hx hb dX2_init_0 rfl (lv_at hl 0 rfl) ?_
  refine W.objInit hx hb hown (hts (.methodLink RX2 3 objectInit) (List.mem_of_getElem? (i := 1) rfl)) (hts (.instanceMethod objectInit) (List.mem_of_getElem? (i := 2) rfl)) (hts (.code objectInit ⟨#[0xb1]⟩ 1 none) (List.mem_of_getElem? (i := 3) rfl)) rfl (by rw [hml]; exact hl.1) rfl dX2_init_1 (Nat.le_of_ble_eq_true rfl) (Nat.le_of_ble_eq_true rfl) ?_
  refine W.eq (g2 := F0 m 4 _ []) rfl ?_
  refine lv_aload_n hx hb dX2_init_4 rfl (lv_at hl 0 rfl) ?_
  refine lv_iconst (v := 0) hx hb dX2_init_5 (by decide) ?_
  refine va_put (D := (dC, dI)) (ci := 2) (v := .int 0) (ty := .boolean) (C := RX2) (T := TX2) (N := 9) hx hb hts inc_X2_init_X2 tyX2 tyX2_ok nmX2 hown hK hP hD hS 0 rfl rfl 0 (by decide) (hts (.fieldLink RX2 9 "ArraySegments$Machine" "hasRun" "Z") (List.mem_of_getElem? (i := 4) rfl)) (fun _ h9 => h9) rfl (by decide +kernel) rfl rfl (Nat.le_of_ble_eq_true rfl) dX2_init_6 (fun H_1 locs_1 hP1 hD1 hS1 => ?_)
  replace hP : va_P (dC, dI) vwCl [(mh, .inr (2, [.int 0, .int 0, .int 0, .null, .null, .null, .null, .null, .long 0]))] H_1 := hP1
  replace hD : va_D A [(mh, .inr (2, [.int 0, .int 0, .int 0, .null, .null, .null, .null, .null, .long 0]))] := hD1
  replace hS := hS1
  clear hP1 hD1 hS1
  refine lv_aload_n hx hb dX2_init_9 rfl (lv_at hl 0 rfl) ?_
  refine lv_iconst (v := 0) hx hb dX2_init_10 (by decide) ?_
  refine va_put (D := (dC, dI)) (ci := 2) (v := .int 0) (ty := .int) (C := RX2) (T := TX2) (N := 9) hx hb hts inc_X2_init_X2 tyX2 tyX2_ok nmX2 hown hK hP hD hS 0 rfl rfl 1 (by decide) (hts (.fieldLink RX2 15 "ArraySegments$Machine" "thrown" "I") (List.mem_of_getElem? (i := 5) rfl)) (fun _ h9 => h9) rfl (by decide +kernel) rfl rfl (Nat.le_of_ble_eq_true rfl) dX2_init_11 (fun H_2 locs_2 hP1 hD1 hS1 => ?_)
  replace hP : va_P (dC, dI) vwCl [(mh, .inr (2, [.int 0, .int 0, .int 0, .null, .null, .null, .null, .null, .long 0]))] H_2 := hP1
  replace hD : va_D A [(mh, .inr (2, [.int 0, .int 0, .int 0, .null, .null, .null, .null, .null, .long 0]))] := hD1
  replace hS := hS1
  clear hP1 hD1 hS1
  refine lv_aload_n hx hb dX2_init_14 rfl (lv_at hl 0 rfl) ?_
  refine lv_iconst (v := (-1)) hx hb dX2_init_15 (by decide) ?_
  refine va_put (D := (dC, dI)) (ci := 2) (v := .int (-1)) (ty := .int) (C := RX2) (T := TX2) (N := 9) hx hb hts inc_X2_init_X2 tyX2 tyX2_ok nmX2 hown hK hP hD hS 0 rfl rfl 2 (by decide) (hts (.fieldLink RX2 19 "ArraySegments$Machine" "thrownAt" "I") (List.mem_of_getElem? (i := 6) rfl)) (fun _ h9 => h9) rfl (by decide +kernel) rfl rfl (Nat.le_of_ble_eq_true rfl) dX2_init_16 (fun H_3 locs_3 hP1 hD1 hS1 => ?_)
  replace hP : va_P (dC, dI) vwCl [(mh, .inr (2, [.int 0, .int 0, .int (-1), .null, .null, .null, .null, .null, .long 0]))] H_3 := hP1
  replace hD : va_D A [(mh, .inr (2, [.int 0, .int 0, .int (-1), .null, .null, .null, .null, .null, .long 0]))] := hD1
  replace hS := hS1
  clear hP1 hD1 hS1
  refine lv_aload_n hx hb dX2_init_19 rfl (lv_at hl 0 rfl) ?_
  refine lv_bipush (v := 6) hx hb dX2_init_20 (by decide) ?_
  refine my_newaI hx hb (hts (.arrayClass .int) (List.mem_of_getElem? (i := 7) rfl)) hK hP hD hS hA (N' := 6) (by decide) (by decide) (by decide) (Nat.le_of_ble_eq_true rfl) (Nat.le_of_ble_eq_true rfl) dX2_init_22 (fun q_4 H_4 hP1 hD1 hS1 => ?_)
  replace hP : va_P (dC, dI) vwCl [(mh, .inr (2, [.int 0, .int 0, .int (-1), .null, .null, .null, .null, .null, .long 0])), (q_4, .inl (cI, 6, .inl (fun _ => 0)))] H_4 := hP1
  replace hD : va_D A [(mh, .inr (2, [.int 0, .int 0, .int (-1), .null, .null, .null, .null, .null, .long 0])), (q_4, .inl (cI, 6, .inl (fun _ => 0)))] := hD1
  replace hS := hS1
  clear hP1 hD1 hS1
  refine W.widen (k := 1) (n := 6) (Nat.le_of_ble_eq_true rfl) (Nat.le_of_ble_eq_true rfl) ?_
  refine va_putF (D := (dC, dI)) (ci := 2) (v := .ref q_4) (ty := .array .int) (C := RX2) (T := TX2) (N := 9) hx hb hts inc_X2_init_X2 tyX2 tyX2_ok nmX2 hown hK hP hD hS 0 rfl rfl 3 (by decide) (hts (.fieldLink RX2 22 "ArraySegments$Machine" "values" "[I") (List.mem_of_getElem? (i := 8) rfl)) (fun _ h9 => h9) rfl hin rfl (by decide +kernel) rfl rfl (Nat.le_of_ble_eq_true rfl) dX2_init_24 (fun H_5 locs_5 hP1 hD1 hS1 => ?_)
  replace hP : va_P (dC, dI) vwCl [(mh, .inr (2, [.int 0, .int 0, .int (-1), .ref q_4, .null, .null, .null, .null, .long 0])), (q_4, .inl (cI, 6, .inl (fun _ => 0)))] H_5 := hP1
  replace hD : va_D A [(mh, .inr (2, [.int 0, .int 0, .int (-1), .ref q_4, .null, .null, .null, .null, .long 0])), (q_4, .inl (cI, 6, .inl (fun _ => 0)))] := hD1
  replace hS := hS1
  clear hP1 hD1 hS1
  refine lv_aload_n hx hb dX2_init_27 rfl (lv_at hl 0 rfl) ?_
  refine lv_bipush (v := 6) hx hb dX2_init_28 (by decide) ?_
  refine my_newaI hx hb (hts (.arrayClass .int) (List.mem_of_getElem? (i := 7) rfl)) hK hP hD hS hA (N' := 6) (by decide) (by decide) (by decide) (Nat.le_of_ble_eq_true rfl) (Nat.le_of_ble_eq_true rfl) dX2_init_30 (fun q_6 H_6 hP1 hD1 hS1 => ?_)
  replace hP : va_P (dC, dI) vwCl [(mh, .inr (2, [.int 0, .int 0, .int (-1), .ref q_4, .null, .null, .null, .null, .long 0])), (q_4, .inl (cI, 6, .inl (fun _ => 0))), (q_6, .inl (cI, 6, .inl (fun _ => 0)))] H_6 := hP1
  replace hD : va_D A [(mh, .inr (2, [.int 0, .int 0, .int (-1), .ref q_4, .null, .null, .null, .null, .long 0])), (q_4, .inl (cI, 6, .inl (fun _ => 0))), (q_6, .inl (cI, 6, .inl (fun _ => 0)))] := hD1
  replace hS := hS1
  clear hP1 hD1 hS1
  refine W.widen (k := 2) (n := 12) (Nat.le_of_ble_eq_true rfl) (Nat.le_of_ble_eq_true rfl) ?_
  refine va_putF (D := (dC, dI)) (ci := 2) (v := .ref q_6) (ty := .array .int) (C := RX2) (T := TX2) (N := 9) hx hb hts inc_X2_init_X2 tyX2 tyX2_ok nmX2 hown hK hP hD hS 0 rfl rfl 4 (by decide) (hts (.fieldLink RX2 26 "ArraySegments$Machine" "meant" "[I") (List.mem_of_getElem? (i := 9) rfl)) (fun _ h9 => h9) rfl hin rfl (by decide +kernel) rfl rfl (Nat.le_of_ble_eq_true rfl) dX2_init_32 (fun H_7 locs_7 hP1 hD1 hS1 => ?_)
  replace hP : va_P (dC, dI) vwCl [(mh, .inr (2, [.int 0, .int 0, .int (-1), .ref q_4, .ref q_6, .null, .null, .null, .long 0])), (q_4, .inl (cI, 6, .inl (fun _ => 0))), (q_6, .inl (cI, 6, .inl (fun _ => 0)))] H_7 := hP1
  replace hD : va_D A [(mh, .inr (2, [.int 0, .int 0, .int (-1), .ref q_4, .ref q_6, .null, .null, .null, .long 0])), (q_4, .inl (cI, 6, .inl (fun _ => 0))), (q_6, .inl (cI, 6, .inl (fun _ => 0)))] := hD1
  replace hS := hS1
  clear hP1 hD1 hS1
  refine lv_aload_n hx hb dX2_init_35 rfl (lv_at hl 0 rfl) ?_
  refine lv_bipush (v := 40) hx hb dX2_init_36 (by decide) ?_
  refine my_newaI hx hb (hts (.arrayClass .int) (List.mem_of_getElem? (i := 7) rfl)) hK hP hD hS hA (N' := 40) (by decide) (by decide) (by decide) (Nat.le_of_ble_eq_true rfl) (Nat.le_of_ble_eq_true rfl) dX2_init_38 (fun q_8 H_8 hP1 hD1 hS1 => ?_)
  replace hP : va_P (dC, dI) vwCl [(mh, .inr (2, [.int 0, .int 0, .int (-1), .ref q_4, .ref q_6, .null, .null, .null, .long 0])), (q_4, .inl (cI, 6, .inl (fun _ => 0))), (q_6, .inl (cI, 6, .inl (fun _ => 0))), (q_8, .inl (cI, 40, .inl (fun _ => 0)))] H_8 := hP1
  replace hD : va_D A [(mh, .inr (2, [.int 0, .int 0, .int (-1), .ref q_4, .ref q_6, .null, .null, .null, .long 0])), (q_4, .inl (cI, 6, .inl (fun _ => 0))), (q_6, .inl (cI, 6, .inl (fun _ => 0))), (q_8, .inl (cI, 40, .inl (fun _ => 0)))] := hD1
  replace hS := hS1
  clear hP1 hD1 hS1
  refine W.widen (k := 3) (n := 52) (Nat.le_of_ble_eq_true rfl) (Nat.le_of_ble_eq_true rfl) ?_
  refine va_putF (D := (dC, dI)) (ci := 2) (v := .ref q_8) (ty := .array .int) (C := RX2) (T := TX2) (N := 9) hx hb hts inc_X2_init_X2 tyX2 tyX2_ok nmX2 hown hK hP hD hS 0 rfl rfl 5 (by decide) (hts (.fieldLink RX2 29 "ArraySegments$Machine" "lanes" "[I") (List.mem_of_getElem? (i := 10) rfl)) (fun _ h9 => h9) rfl hin rfl (by decide +kernel) rfl rfl (Nat.le_of_ble_eq_true rfl) dX2_init_40 (fun H_9 locs_9 hP1 hD1 hS1 => ?_)
  replace hP : va_P (dC, dI) vwCl [(mh, .inr (2, [.int 0, .int 0, .int (-1), .ref q_4, .ref q_6, .ref q_8, .null, .null, .long 0])), (q_4, .inl (cI, 6, .inl (fun _ => 0))), (q_6, .inl (cI, 6, .inl (fun _ => 0))), (q_8, .inl (cI, 40, .inl (fun _ => 0)))] H_9 := hP1
  replace hD : va_D A [(mh, .inr (2, [.int 0, .int 0, .int (-1), .ref q_4, .ref q_6, .ref q_8, .null, .null, .long 0])), (q_4, .inl (cI, 6, .inl (fun _ => 0))), (q_6, .inl (cI, 6, .inl (fun _ => 0))), (q_8, .inl (cI, 40, .inl (fun _ => 0)))] := hD1
  replace hS := hS1
  clear hP1 hD1 hS1
  refine lv_aload_n hx hb dX2_init_43 rfl (lv_at hl 0 rfl) ?_
  refine lv_bipush (v := 40) hx hb dX2_init_44 (by decide) ?_
  refine my_newaI hx hb (hts (.arrayClass .int) (List.mem_of_getElem? (i := 7) rfl)) hK hP hD hS hA (N' := 40) (by decide) (by decide) (by decide) (Nat.le_of_ble_eq_true rfl) (Nat.le_of_ble_eq_true rfl) dX2_init_46 (fun q_10 H_10 hP1 hD1 hS1 => ?_)
  replace hP : va_P (dC, dI) vwCl [(mh, .inr (2, [.int 0, .int 0, .int (-1), .ref q_4, .ref q_6, .ref q_8, .null, .null, .long 0])), (q_4, .inl (cI, 6, .inl (fun _ => 0))), (q_6, .inl (cI, 6, .inl (fun _ => 0))), (q_8, .inl (cI, 40, .inl (fun _ => 0))), (q_10, .inl (cI, 40, .inl (fun _ => 0)))] H_10 := hP1
  replace hD : va_D A [(mh, .inr (2, [.int 0, .int 0, .int (-1), .ref q_4, .ref q_6, .ref q_8, .null, .null, .long 0])), (q_4, .inl (cI, 6, .inl (fun _ => 0))), (q_6, .inl (cI, 6, .inl (fun _ => 0))), (q_8, .inl (cI, 40, .inl (fun _ => 0))), (q_10, .inl (cI, 40, .inl (fun _ => 0)))] := hD1
  replace hS := hS1
  clear hP1 hD1 hS1
  refine W.widen (k := 4) (n := 92) (Nat.le_of_ble_eq_true rfl) (Nat.le_of_ble_eq_true rfl) ?_
  refine va_putF (D := (dC, dI)) (ci := 2) (v := .ref q_10) (ty := .array .int) (C := RX2) (T := TX2) (N := 9) hx hb hts inc_X2_init_X2 tyX2 tyX2_ok nmX2 hown hK hP hD hS 0 rfl rfl 6 (by decide) (hts (.fieldLink RX2 32 "ArraySegments$Machine" "lengths" "[I") (List.mem_of_getElem? (i := 11) rfl)) (fun _ h9 => h9) rfl hin rfl (by decide +kernel) rfl rfl (Nat.le_of_ble_eq_true rfl) dX2_init_48 (fun H_11 locs_11 hP1 hD1 hS1 => ?_)
  replace hP : va_P (dC, dI) vwCl [(mh, .inr (2, [.int 0, .int 0, .int (-1), .ref q_4, .ref q_6, .ref q_8, .ref q_10, .null, .long 0])), (q_4, .inl (cI, 6, .inl (fun _ => 0))), (q_6, .inl (cI, 6, .inl (fun _ => 0))), (q_8, .inl (cI, 40, .inl (fun _ => 0))), (q_10, .inl (cI, 40, .inl (fun _ => 0)))] H_11 := hP1
  replace hD : va_D A [(mh, .inr (2, [.int 0, .int 0, .int (-1), .ref q_4, .ref q_6, .ref q_8, .ref q_10, .null, .long 0])), (q_4, .inl (cI, 6, .inl (fun _ => 0))), (q_6, .inl (cI, 6, .inl (fun _ => 0))), (q_8, .inl (cI, 40, .inl (fun _ => 0))), (q_10, .inl (cI, 40, .inl (fun _ => 0)))] := hD1
  replace hS := hS1
  clear hP1 hD1 hS1
  refine lv_aload_n hx hb dX2_init_51 rfl (lv_at hl 0 rfl) ?_
  refine lv_sipush (v := 480) hx hb dX2_init_52 (by decide) ?_
  refine my_newaI hx hb (hts (.arrayClass .int) (List.mem_of_getElem? (i := 7) rfl)) hK hP hD hS hA (N' := 480) (by decide) (by decide) (by decide) (Nat.le_of_ble_eq_true rfl) (Nat.le_of_ble_eq_true rfl) dX2_init_55 (fun q_12 H_12 hP1 hD1 hS1 => ?_)
  replace hP : va_P (dC, dI) vwCl [(mh, .inr (2, [.int 0, .int 0, .int (-1), .ref q_4, .ref q_6, .ref q_8, .ref q_10, .null, .long 0])), (q_4, .inl (cI, 6, .inl (fun _ => 0))), (q_6, .inl (cI, 6, .inl (fun _ => 0))), (q_8, .inl (cI, 40, .inl (fun _ => 0))), (q_10, .inl (cI, 40, .inl (fun _ => 0))), (q_12, .inl (cI, 480, .inl (fun _ => 0)))] H_12 := hP1
  replace hD : va_D A [(mh, .inr (2, [.int 0, .int 0, .int (-1), .ref q_4, .ref q_6, .ref q_8, .ref q_10, .null, .long 0])), (q_4, .inl (cI, 6, .inl (fun _ => 0))), (q_6, .inl (cI, 6, .inl (fun _ => 0))), (q_8, .inl (cI, 40, .inl (fun _ => 0))), (q_10, .inl (cI, 40, .inl (fun _ => 0))), (q_12, .inl (cI, 480, .inl (fun _ => 0)))] := hD1
  replace hS := hS1
  clear hP1 hD1 hS1
  refine W.widen (k := 5) (n := 572) (Nat.le_of_ble_eq_true rfl) (Nat.le_of_ble_eq_true rfl) ?_
  refine va_putF (D := (dC, dI)) (ci := 2) (v := .ref q_12) (ty := .array .int) (C := RX2) (T := TX2) (N := 9) hx hb hts inc_X2_init_X2 tyX2 tyX2_ok nmX2 hown hK hP hD hS 0 rfl rfl 7 (by decide) (hts (.fieldLink RX2 35 "ArraySegments$Machine" "cells" "[I") (List.mem_of_getElem? (i := 12) rfl)) (fun _ h9 => h9) rfl hin rfl (by decide +kernel) rfl rfl (Nat.le_of_ble_eq_true rfl) dX2_init_57 (fun H_13 locs_13 hP1 hD1 hS1 => ?_)
  replace hP : va_P (dC, dI) vwCl [(mh, .inr (2, [.int 0, .int 0, .int (-1), .ref q_4, .ref q_6, .ref q_8, .ref q_10, .ref q_12, .long 0])), (q_4, .inl (cI, 6, .inl (fun _ => 0))), (q_6, .inl (cI, 6, .inl (fun _ => 0))), (q_8, .inl (cI, 40, .inl (fun _ => 0))), (q_10, .inl (cI, 40, .inl (fun _ => 0))), (q_12, .inl (cI, 480, .inl (fun _ => 0)))] H_13 := hP1
  replace hD : va_D A [(mh, .inr (2, [.int 0, .int 0, .int (-1), .ref q_4, .ref q_6, .ref q_8, .ref q_10, .ref q_12, .long 0])), (q_4, .inl (cI, 6, .inl (fun _ => 0))), (q_6, .inl (cI, 6, .inl (fun _ => 0))), (q_8, .inl (cI, 40, .inl (fun _ => 0))), (q_10, .inl (cI, 40, .inl (fun _ => 0))), (q_12, .inl (cI, 480, .inl (fun _ => 0)))] := hD1
  replace hS := hS1
  clear hP1 hD1 hS1
  refine lv_aload_n hx hb dX2_init_60 rfl (lv_at hl 0 rfl) ?_
  refine lv_lconst (v := 0) hx hb dX2_init_61 (by decide) ?_
  refine va_put (D := (dC, dI)) (ci := 2) (v := .long 0) (ty := .long) (C := RX2) (T := TX2) (N := 9) hx hb hts inc_X2_init_X2 tyX2 tyX2_ok nmX2 hown hK hP hD hS 0 rfl rfl 8 (by decide) (hts (.fieldLink RX2 38 "ArraySegments$Machine" "state" "J") (List.mem_of_getElem? (i := 13) rfl)) (fun _ h9 => h9) rfl (by decide +kernel) rfl rfl (Nat.le_of_ble_eq_true rfl) dX2_init_62 (fun H_14 locs_14 hP1 hD1 hS1 => ?_)
  replace hP : va_P (dC, dI) vwCl [(mh, .inr (2, [.int 0, .int 0, .int (-1), .ref q_4, .ref q_6, .ref q_8, .ref q_10, .ref q_12, .long 0])), (q_4, .inl (cI, 6, .inl (fun _ => 0))), (q_6, .inl (cI, 6, .inl (fun _ => 0))), (q_8, .inl (cI, 40, .inl (fun _ => 0))), (q_10, .inl (cI, 40, .inl (fun _ => 0))), (q_12, .inl (cI, 480, .inl (fun _ => 0)))] H_14 := hP1
  replace hD : va_D A [(mh, .inr (2, [.int 0, .int 0, .int (-1), .ref q_4, .ref q_6, .ref q_8, .ref q_10, .ref q_12, .long 0])), (q_4, .inl (cI, 6, .inl (fun _ => 0))), (q_6, .inl (cI, 6, .inl (fun _ => 0))), (q_8, .inl (cI, 40, .inl (fun _ => 0))), (q_10, .inl (cI, 40, .inl (fun _ => 0))), (q_12, .inl (cI, 480, .inl (fun _ => 0)))] := hD1
  replace hS := hS1
  clear hP1 hD1 hS1
  refine lv_aload_n hx hb dX2_init_65 rfl (lv_at hl 0 rfl) ?_
  have hPc := hP.sub (ws' := [(mh, .inr (2, [.int 0, .int 0, .int (-1), .ref q_4, .ref q_6, .ref q_8, .ref q_10, .ref q_12, .long 0])), (q_4, .inl (cI, 6, .inl (fun _ => 0))), (q_6, .inl (cI, 6, .inl (fun _ => 0)))]) [0, 1, 2] rfl
  have hDc := hD.sub (ws' := [(mh, .inr (2, [.int 0, .int 0, .int (-1), .ref q_4, .ref q_6, .ref q_8, .ref q_10, .ref q_12, .long 0])), (q_4, .inl (cI, 6, .inl (fun _ => 0))), (q_6, .inl (cI, 6, .inl (fun _ => 0)))]) [0, 1, 2] (by decide) rfl
  have hFc := va_free (wc := [(mh, .inr (2, [.int 0, .int 0, .int (-1), .ref q_4, .ref q_6, .ref q_8, .ref q_10, .ref q_12, .long 0])), (q_4, .inl (cI, 6, .inl (fun _ => 0))), (q_6, .inl (cI, 6, .inl (fun _ => 0)))]) hD hS hA [0, 1, 2] rfl
  refine va_callv (va_runV (As := []) (rest := []) ⟨hx, hb, hml, hown, hts⟩ (c_X2_forget l dC dI cI cJ cZ mh q_4 q_6 (.int 0) (.int 0) (.int (-1)) (.ref q_8) (.ref q_10) (.ref q_12) (.long 0) (fun _ => 0) (fun _ => 0) H_14.size) (cwV 0 hts g_X2_init_X2_forget_42 rfl rfl rfl (by decide +kernel) ⟨Nat.le_of_ble_eq_true rfl, Nat.le_of_ble_eq_true rfl⟩) ⟨cPre_blind, va_recv hK hPc (ci := 2) (q0 := 0) rfl rfl, cPre_of hK hN hPc hDc⟩ rfl rfl hl.1 rfl (lv_room (Nat.le_of_ble_eq_true rfl)) dX2_init_66 ⟨Nat.le_of_ble_eq_true rfl, Nat.le_of_ble_eq_true rfl⟩) hS (fun q _ h => hFc q h) hFc (fun u_15 t_15 H_15 locs_15 ht hvm hw_15 hB hz1 hk1 hS1 => ?_)
  obtain ⟨hP1, hK1, hD1⟩ := hB
  rw [ht] at hP1
  obtain ⟨hP2, hD2⟩ := va_join (wr := [(q_8, .inl (cI, 40, .inl (fun _ => 0))), (q_10, .inl (cI, 40, .inl (fun _ => 0))), (q_12, .inl (cI, 480, .inl (fun _ => 0)))]) (w1 := [(mh, .inr (2, [.int 0, .int 0, .int (-1), .ref q_4, .ref q_6, .ref q_8, .ref q_10, .ref q_12, .long 0])), (q_4, .inl (cI, 6, .inl (ov (fun _ => 0) 6 0))), (q_6, .inl (cI, 6, .inl (ov (fun _ => 0) 6 (-1))))]) hP hD [0, 1, 2] [3, 4, 5] rfl rfl (by decide) (by decide) hk1 hFc hP1 hD1
  clear hPc hDc hFc hP1 hD1 hK1 hk1 hz1 hvm ht
  replace hP : va_P (dC, dI) vwCl [(q_8, .inl (cI, 40, .inl (fun _ => 0))), (q_10, .inl (cI, 40, .inl (fun _ => 0))), (q_12, .inl (cI, 480, .inl (fun _ => 0))), (mh, .inr (2, [.int 0, .int 0, .int (-1), .ref q_4, .ref q_6, .ref q_8, .ref q_10, .ref q_12, .long 0])), (q_4, .inl (cI, 6, .inl (ov (fun _ => 0) 6 0))), (q_6, .inl (cI, 6, .inl (ov (fun _ => 0) 6 (-1))))] H_15 := hP2
  replace hD : va_D A [(q_8, .inl (cI, 40, .inl (fun _ => 0))), (q_10, .inl (cI, 40, .inl (fun _ => 0))), (q_12, .inl (cI, 480, .inl (fun _ => 0))), (mh, .inr (2, [.int 0, .int 0, .int (-1), .ref q_4, .ref q_6, .ref q_8, .ref q_10, .ref q_12, .long 0])), (q_4, .inl (cI, 6, .inl (ov (fun _ => 0) 6 0))), (q_6, .inl (cI, 6, .inl (ov (fun _ => 0) 6 (-1))))] := hD2
  replace hS := hS1
  clear hP2 hD2 hS1
  have hP9 := hP.sub (ws' := [(mh, .inr (2, [.int 0, .int 0, .int (-1), .ref q_4, .ref q_6, .ref q_8, .ref q_10, .ref q_12, .long 0])), (q_4, .inl (cI, 6, .inl (ov (fun _ => 0) 6 0))), (q_6, .inl (cI, 6, .inl (ov (fun _ => 0) 6 (-1)))), (q_8, .inl (cI, 40, .inl (fun _ => 0))), (q_10, .inl (cI, 40, .inl (fun _ => 0))), (q_12, .inl (cI, 480, .inl (fun _ => 0)))]) [3, 4, 5, 0, 1, 2] rfl
  have hD9 := hD.sub (ws' := [(mh, .inr (2, [.int 0, .int 0, .int (-1), .ref q_4, .ref q_6, .ref q_8, .ref q_10, .ref q_12, .long 0])), (q_4, .inl (cI, 6, .inl (ov (fun _ => 0) 6 0))), (q_6, .inl (cI, 6, .inl (ov (fun _ => 0) 6 (-1)))), (q_8, .inl (cI, 40, .inl (fun _ => 0))), (q_10, .inl (cI, 40, .inl (fun _ => 0))), (q_12, .inl (cI, 480, .inl (fun _ => 0)))]) [3, 4, 5, 0, 1, 2] (by decide) rfl
  refine W.widen (k := 5) (n := 572) (Nat.le_of_ble_eq_true rfl) (Nat.le_of_ble_eq_true rfl) ?_
  exact W.vret hx hb hr (fun t ht hW => ⟨⟨(fun k => match k with | 0 => q_4 | 1 => q_6 | 2 => q_8 | 3 => q_10 | 4 => q_12 | _ => 0), rfl, trivial, by rw [ht]; exact hP9, va_K.moved hW.alike hK, hD9⟩, hS.F ht⟩) hS.2.2 dX2_init_69
