def w_X3_hasAct : List Cond := .code yX3_hasAct cX3_hasAct 2 (some .boolean) :: ([.fieldLink RX3 19 "ArraySegments$Program" "count" "I"] ++ wsX30)
theorem inc_X3_hasAct_X3 : ∀ w ∈ wsX30, w ∈ w_X3_hasAct := fun _ h => List.mem_cons_of_mem _ (List.mem_append_right _ h)
abbrev pw_X3_hasAct (cI cJ cZ : ClassId) (ph : Nat) (pv_rows : Value) (pv_dropped : Value) (ia : Int32) : va_W := [(ph, .inr (3, [pv_rows, pv_dropped, .int 0]))]
set_option maxHeartbeats 4000000 in
set_option maxRecDepth 100000 in
theorem c_X3_hasAct (l : Launch) (dC : Nat → ClassId) (dI : Nat → Nat → Nat) (cI cJ cZ : ClassId) (ph : Nat) (pv_rows : Value) (pv_dropped : Value) (ia : Int32) (sz : Nat) : Met l yX3_hasAct w_X3_hasAct ({ frames := 0, cells := 0, slots := 0, locals := 0 }) (va_Pc [.ref ph, .int ia] (cPre dC dI cI cJ cZ sz (pw_X3_hasAct cI cJ cZ ph pv_rows pv_dropped ia))) (va_Qi (fun (r : Int32) (u : Nat → Nat) => r = 0) (fun (u : Nat → Nat) => cPost dC dI cI cJ cZ (va_A (pw_X3_hasAct cI cJ cZ ph pv_rows pv_dropped ia) sz) [(ph, .inr (3, [pv_rows, pv_dropped, .int 0]))]) (va_A (pw_X3_hasAct cI cJ cZ ph pv_rows pv_dropped ia) sz)) 0 0 (va_A (pw_X3_hasAct cI cJ cZ ph pv_rows pv_dropped ia) sz) := by
  refine Met.ofW (cc := cX3_hasAct) (maxL := 2) (ret := (some .boolean)) (by decide) rfl ?_
  intro p e s m args below meth c s₁ B hml hv
  obtain ⟨rfl, hsz, hP, hK, hD0, hN⟩ := hv
  have hx := B.exec
  have hb := B.bytes
  have hr := B.returns
  have hts := atoms_spec (ws := w_X3_hasAct) B.pre
  have hown : s.vm.findClass RX3 = some m.cls := findClass_of_methodNamed B.named
  have hlocks := B.notSynchronized
  subst hsz
  have hD := hD0.self (sz := s.heap.size)
  generalize hAe : va_A (pw_X3_hasAct cI cJ cZ ph pv_rows pv_dropped ia) s.heap.size = A at hD ⊢
  have hA : ∀ q : Nat, s.heap.size ≤ q → A q := fun q h => by rw [← hAe]; exact Or.inr h
  clear hAe hD0
  have hS : va_S A s.heap s.heap [] := va_S.rf
  replace hP : va_P (dC, dI) vwCl [(ph, .inr (3, [pv_rows, pv_dropped, .int 0]))] s.heap := hP
  replace hD : va_D A [(ph, .inr (3, [pv_rows, pv_dropped, .int 0]))] := hD
  have hl := lv_entry ([.ref ph, .int ia]) (n := 2) (Nat.le_of_ble_eq_true rfl)
  rw [lg_entry_eq]
  generalize (lg_sl ([.ref ph, .int ia]) ++ List.replicate (2 - (lg_sl ([.ref ph, .int ia])).length) Slot.unset).toArray = ls at hl ⊢
  replace hl : lv_has ls 2 [(0, .ref ph), (1, .int ia)] := hl
  refine lv_iload_n hx hb dX3_hasAct_0 rfl (lv_at hl 1 rfl) ?_
  refine lv_if_lt (tgt := 22) hx hb dX3_hasAct_1 (by decide) (fun c_1 => ?_) (fun c_1 => ?_)
  · -- yes
    have k_1 : (ia.toInt : Int) < (0 : Int) := by first | exact lt_i c_1 | simpa using lt_i c_1
    refine lv_iconst (v := 0) hx hb dX3_hasAct_22 (by decide) ?_
    have hP9 := hP.sub (ws' := [(ph, .inr (3, [pv_rows, pv_dropped, .int 0]))]) [0] rfl
    have hD9 := hD.sub (ws' := [(ph, .inr (3, [pv_rows, pv_dropped, .int 0]))]) [0] (by decide) rfl
    exact W.zret (v := 0) (ty := .boolean) hx hb hr rfl (fun t ht hW => ⟨⟨0, (fun _ => 0), rfl, rfl, by rw [ht]; exact hP9, va_K.moved hW.alike hK, hD9⟩, hS.F ht⟩) hS.2.2 dX3_hasAct_23
  · -- no
    have k_1 : (0 : Int) ≤ (ia.toInt : Int) := by first | exact nlt_i c_1 | simpa using nlt_i c_1
    refine lv_iload_n hx hb dX3_hasAct_4 rfl (lv_at hl 1 rfl) ?_
    refine lv_aload_n hx hb dX3_hasAct_5 rfl (lv_at hl 0 rfl) ?_
    refine va_get (D := (dC, dI)) (ci := 3) (v := .int 0) (C := RX3) (T := TX3) (N := 3) hx hb hts inc_X3_hasAct_X3 hown hK hP 0 rfl rfl 2 (by decide) (hts (.fieldLink RX3 19 "ArraySegments$Program" "count" "I") (List.mem_of_getElem? (i := 1) rfl)) (fun _ h9 => h9) rfl dX3_hasAct_6 ?_
    refine lv_icmp_ge (tgt := 22) hx hb dX3_hasAct_9 (by decide) (fun c_2 => ?_) (fun c_2 => ?_)
    · -- yes
      have k_2 : (0 : Int) ≤ (ia.toInt : Int) := by first | exact le_i c_2 | simpa using le_i c_2
      refine lv_iconst (v := 0) hx hb dX3_hasAct_22 (by decide) ?_
      have hP9 := hP.sub (ws' := [(ph, .inr (3, [pv_rows, pv_dropped, .int 0]))]) [0] rfl
      have hD9 := hD.sub (ws' := [(ph, .inr (3, [pv_rows, pv_dropped, .int 0]))]) [0] (by decide) rfl
      exact W.zret (v := 0) (ty := .boolean) hx hb hr rfl (fun t ht hW => ⟨⟨0, (fun _ => 0), rfl, rfl, by rw [ht]; exact hP9, va_K.moved hW.alike hK, hD9⟩, hS.F ht⟩) hS.2.2 dX3_hasAct_23
    · -- no
      have k_2 : (ia.toInt : Int) < (0 : Int) := by first | exact nle_i c_2 | simpa using nle_i c_2
      exfalso; omega

def w_X3_append : List Cond := .code yX3_append cX3_append 8 (some .int) :: ([.fieldLink RX3 19 "ArraySegments$Program" "count" "I", .fieldLink RX3 11 "ArraySegments$Program" "rows" "[I", .fieldLink RX3 15 "ArraySegments$Program" "dropped" "[Z"] ++ wsX30)
theorem inc_X3_append_X3 : ∀ w ∈ wsX30, w ∈ w_X3_append := fun _ h => List.mem_cons_of_mem _ (List.mem_append_right _ h)
abbrev pw_X3_append (cI cJ cZ : ClassId) (ph : Nat) (pr : Nat) (pd : Nat) (rf : Nat → Int32) (df : Nat → Int32) (ka : Int32) (aa : Int32) (ba : Int32) (ca : Int32) (da : Int32) (ea : Int32) : va_W := [(ph, .inr (3, [.ref pr, .ref pd, .int 0])), (pr, .inl (cI, 240, .inl rf)), (pd, .inl (cZ, 40, .inl df))]
set_option maxHeartbeats 4000000 in
set_option maxRecDepth 100000 in
theorem c_X3_append (l : Launch) (dC : Nat → ClassId) (dI : Nat → Nat → Nat) (cI cJ cZ : ClassId) (ph : Nat) (pr : Nat) (pd : Nat) (rf : Nat → Int32) (df : Nat → Int32) (ka : Int32) (aa : Int32) (ba : Int32) (ca : Int32) (da : Int32) (ea : Int32) (sz : Nat) : Met l yX3_append w_X3_append ({ frames := 0, cells := 0, slots := 0, locals := 0 }) (va_Pc [.ref ph, .int ka, .int aa, .int ba, .int ca, .int da, .int ea] (cPre dC dI cI cJ cZ sz (pw_X3_append cI cJ cZ ph pr pd rf df ka aa ba ca da ea))) (va_Qi (fun (r : Int32) (u : Nat → Nat) => r = 0) (fun (u : Nat → Nat) => cPost dC dI cI cJ cZ (va_A (pw_X3_append cI cJ cZ ph pr pd rf df ka aa ba ca da ea) sz) []) (va_A (pw_X3_append cI cJ cZ ph pr pd rf df ka aa ba ca da ea) sz)) 0 0 (va_A (pw_X3_append cI cJ cZ ph pr pd rf df ka aa ba ca da ea) sz) := by
  refine Met.ofW (cc := cX3_append) (maxL := 8) (ret := (some .int)) (by decide) rfl ?_
  intro p e s m args below meth c s₁ B hml hv
  obtain ⟨rfl, hsz, hP, hK, hD0, hN⟩ := hv
  have hx := B.exec
  have hb := B.bytes
  have hr := B.returns
  have hts := atoms_spec (ws := w_X3_append) B.pre
  have hown : s.vm.findClass RX3 = some m.cls := findClass_of_methodNamed B.named
  have hlocks := B.notSynchronized
  subst hsz
  have hD := hD0.self (sz := s.heap.size)
  generalize hAe : va_A (pw_X3_append cI cJ cZ ph pr pd rf df ka aa ba ca da ea) s.heap.size = A at hD ⊢
  have hA : ∀ q : Nat, s.heap.size ≤ q → A q := fun q h => by rw [← hAe]; exact Or.inr h
  clear hAe hD0
  have hS : va_S A s.heap s.heap [] := va_S.rf
  replace hP : va_P (dC, dI) vwCl [(ph, .inr (3, [.ref pr, .ref pd, .int 0])), (pr, .inl (cI, 240, .inl rf)), (pd, .inl (cZ, 40, .inl df))] s.heap := hP
  replace hD : va_D A [(ph, .inr (3, [.ref pr, .ref pd, .int 0])), (pr, .inl (cI, 240, .inl rf)), (pd, .inl (cZ, 40, .inl df))] := hD
  have hl := lv_entry ([.ref ph, .int ka, .int aa, .int ba, .int ca, .int da, .int ea]) (n := 8) (Nat.le_of_ble_eq_true rfl)
  rw [lg_entry_eq]
  generalize (lg_sl ([.ref ph, .int ka, .int aa, .int ba, .int ca, .int da, .int ea]) ++ List.replicate (8 - (lg_sl ([.ref ph, .int ka, .int aa, .int ba, .int ca, .int da, .int ea])).length) Slot.unset).toArray = ls at hl ⊢
  replace hl : lv_has ls 8 [(0, .ref ph), (1, .int ka), (2, .int aa), (3, .int ba), (4, .int ca), (5, .int da), (6, .int ea)] := hl
  refine lv_aload_n hx hb dX3_append_0 rfl (lv_at hl 0 rfl) ?_
  refine va_get (D := (dC, dI)) (ci := 3) (v := .int 0) (C := RX3) (T := TX3) (N := 3) hx hb hts inc_X3_append_X3 hown hK hP 0 rfl rfl 2 (by decide) (hts (.fieldLink RX3 19 "ArraySegments$Program" "count" "I") (List.mem_of_getElem? (i := 1) rfl)) (fun _ h9 => h9) rfl dX3_append_1 ?_
  refine lv_bipush (v := 6) hx hb dX3_append_4 (by decide) ?_
  refine lv_imul hx hb dX3_append_6 ?_
  refine my_topi (y := 0) (by decide) ?_
  refine lv_istore (lv' := [(7, .int 0), (0, .ref ph), (1, .int ka), (2, .int aa), (3, .int ba), (4, .int ca), (5, .int da), (6, .int ea)]) hx hb dX3_append_7 hl (by decide) rfl (fun ls1 hl1 => ?_)
  replace hl := hl1; clear hl1
  refine lv_aload_n hx hb dX3_append_9 rfl (lv_at hl 1 rfl) ?_
  refine va_get (D := (dC, dI)) (ci := 3) (v := .ref pr) (C := RX3) (T := TX3) (N := 3) hx hb hts inc_X3_append_X3 hown hK hP 0 rfl rfl 0 (by decide) (hts (.fieldLink RX3 11 "ArraySegments$Program" "rows" "[I") (List.mem_of_getElem? (i := 2) rfl)) (fun _ h9 => h9) rfl dX3_append_10 ?_
  refine lv_iload hx hb dX3_append_13 (lv_at hl 0 rfl) ?_
  refine lv_iload_n hx hb dX3_append_15 rfl (lv_at hl 2 rfl) ?_
  refine va_iast hx hb hK hP hD hS 1 0 rfl rfl (vp_in_iff.mpr (by decide)) dX3_append_16 (fun H_1 locs_1 hP1 hD1 hS1 => ?_)
  rw [show upd rf (0 : Int32).toNatClampNeg ka = (upd rf 0 ka) from by rfl] at hP1 hD1
  replace hP : va_P (dC, dI) vwCl [(ph, .inr (3, [.ref pr, .ref pd, .int 0])), (pr, .inl (cI, 240, .inl (upd rf 0 ka))), (pd, .inl (cZ, 40, .inl df))] H_1 := hP1
  replace hD : va_D A [(ph, .inr (3, [.ref pr, .ref pd, .int 0])), (pr, .inl (cI, 240, .inl (upd rf 0 ka))), (pd, .inl (cZ, 40, .inl df))] := hD1
  replace hS := hS1
  clear hP1 hD1 hS1
  refine lv_aload_n hx hb dX3_append_17 rfl (lv_at hl 1 rfl) ?_
  refine va_get (D := (dC, dI)) (ci := 3) (v := .ref pr) (C := RX3) (T := TX3) (N := 3) hx hb hts inc_X3_append_X3 hown hK hP 0 rfl rfl 0 (by decide) (hts (.fieldLink RX3 11 "ArraySegments$Program" "rows" "[I") (List.mem_of_getElem? (i := 2) rfl)) (fun _ h9 => h9) rfl dX3_append_18 ?_
  refine lv_iload hx hb dX3_append_21 (lv_at hl 0 rfl) ?_
  refine lv_iconst (v := 1) hx hb dX3_append_23 (by decide) ?_
  refine lv_iadd hx hb dX3_append_24 ?_
  refine my_topi (y := 1) (by decide) ?_
  refine lv_iload_n hx hb dX3_append_25 rfl (lv_at hl 3 rfl) ?_
  refine va_iast hx hb hK hP hD hS 1 0 rfl rfl (vp_in_iff.mpr (by decide)) dX3_append_26 (fun H_2 locs_2 hP1 hD1 hS1 => ?_)
  rw [show upd (upd rf 0 ka) (1 : Int32).toNatClampNeg aa = (upd (upd rf 0 ka) 1 aa) from by rfl] at hP1 hD1
  replace hP : va_P (dC, dI) vwCl [(ph, .inr (3, [.ref pr, .ref pd, .int 0])), (pr, .inl (cI, 240, .inl (upd (upd rf 0 ka) 1 aa))), (pd, .inl (cZ, 40, .inl df))] H_2 := hP1
  replace hD : va_D A [(ph, .inr (3, [.ref pr, .ref pd, .int 0])), (pr, .inl (cI, 240, .inl (upd (upd rf 0 ka) 1 aa))), (pd, .inl (cZ, 40, .inl df))] := hD1
  replace hS := hS1
  clear hP1 hD1 hS1
  refine lv_aload_n hx hb dX3_append_27 rfl (lv_at hl 1 rfl) ?_
  refine va_get (D := (dC, dI)) (ci := 3) (v := .ref pr) (C := RX3) (T := TX3) (N := 3) hx hb hts inc_X3_append_X3 hown hK hP 0 rfl rfl 0 (by decide) (hts (.fieldLink RX3 11 "ArraySegments$Program" "rows" "[I") (List.mem_of_getElem? (i := 2) rfl)) (fun _ h9 => h9) rfl dX3_append_28 ?_
  refine lv_iload hx hb dX3_append_31 (lv_at hl 0 rfl) ?_
  refine lv_iconst (v := 2) hx hb dX3_append_33 (by decide) ?_
  refine lv_iadd hx hb dX3_append_34 ?_
  refine my_topi (y := 2) (by decide) ?_
  refine lv_iload_n hx hb dX3_append_35 rfl (lv_at hl 4 rfl) ?_
  refine va_iast hx hb hK hP hD hS 1 0 rfl rfl (vp_in_iff.mpr (by decide)) dX3_append_36 (fun H_3 locs_3 hP1 hD1 hS1 => ?_)
  rw [show upd (upd (upd rf 0 ka) 1 aa) (2 : Int32).toNatClampNeg ba = (upd (upd (upd rf 0 ka) 1 aa) 2 ba) from by rfl] at hP1 hD1
  replace hP : va_P (dC, dI) vwCl [(ph, .inr (3, [.ref pr, .ref pd, .int 0])), (pr, .inl (cI, 240, .inl (upd (upd (upd rf 0 ka) 1 aa) 2 ba))), (pd, .inl (cZ, 40, .inl df))] H_3 := hP1
  replace hD : va_D A [(ph, .inr (3, [.ref pr, .ref pd, .int 0])), (pr, .inl (cI, 240, .inl (upd (upd (upd rf 0 ka) 1 aa) 2 ba))), (pd, .inl (cZ, 40, .inl df))] := hD1
  replace hS := hS1
  clear hP1 hD1 hS1
  refine lv_aload_n hx hb dX3_append_37 rfl (lv_at hl 1 rfl) ?_
  refine va_get (D := (dC, dI)) (ci := 3) (v := .ref pr) (C := RX3) (T := TX3) (N := 3) hx hb hts inc_X3_append_X3 hown hK hP 0 rfl rfl 0 (by decide) (hts (.fieldLink RX3 11 "ArraySegments$Program" "rows" "[I") (List.mem_of_getElem? (i := 2) rfl)) (fun _ h9 => h9) rfl dX3_append_38 ?_
  refine lv_iload hx hb dX3_append_41 (lv_at hl 0 rfl) ?_
  refine lv_iconst (v := 3) hx hb dX3_append_43 (by decide) ?_
  refine lv_iadd hx hb dX3_append_44 ?_
  refine my_topi (y := 3) (by decide) ?_
  refine lv_iload hx hb dX3_append_45 (lv_at hl 5 rfl) ?_
  refine va_iast hx hb hK hP hD hS 1 0 rfl rfl (vp_in_iff.mpr (by decide)) dX3_append_47 (fun H_4 locs_4 hP1 hD1 hS1 => ?_)
  rw [show upd (upd (upd (upd rf 0 ka) 1 aa) 2 ba) (3 : Int32).toNatClampNeg ca = (upd (upd (upd (upd rf 0 ka) 1 aa) 2 ba) 3 ca) from by rfl] at hP1 hD1
  replace hP : va_P (dC, dI) vwCl [(ph, .inr (3, [.ref pr, .ref pd, .int 0])), (pr, .inl (cI, 240, .inl (upd (upd (upd (upd rf 0 ka) 1 aa) 2 ba) 3 ca))), (pd, .inl (cZ, 40, .inl df))] H_4 := hP1
  replace hD : va_D A [(ph, .inr (3, [.ref pr, .ref pd, .int 0])), (pr, .inl (cI, 240, .inl (upd (upd (upd (upd rf 0 ka) 1 aa) 2 ba) 3 ca))), (pd, .inl (cZ, 40, .inl df))] := hD1
  replace hS := hS1
  clear hP1 hD1 hS1
  refine lv_aload_n hx hb dX3_append_48 rfl (lv_at hl 1 rfl) ?_
  refine va_get (D := (dC, dI)) (ci := 3) (v := .ref pr) (C := RX3) (T := TX3) (N := 3) hx hb hts inc_X3_append_X3 hown hK hP 0 rfl rfl 0 (by decide) (hts (.fieldLink RX3 11 "ArraySegments$Program" "rows" "[I") (List.mem_of_getElem? (i := 2) rfl)) (fun _ h9 => h9) rfl dX3_append_49 ?_
  refine lv_iload hx hb dX3_append_52 (lv_at hl 0 rfl) ?_
  refine lv_iconst (v := 4) hx hb dX3_append_54 (by decide) ?_
  refine lv_iadd hx hb dX3_append_55 ?_
  refine my_topi (y := 4) (by decide) ?_
  refine lv_iload hx hb dX3_append_56 (lv_at hl 6 rfl) ?_
  refine va_iast hx hb hK hP hD hS 1 0 rfl rfl (vp_in_iff.mpr (by decide)) dX3_append_58 (fun H_5 locs_5 hP1 hD1 hS1 => ?_)
  rw [show upd (upd (upd (upd (upd rf 0 ka) 1 aa) 2 ba) 3 ca) (4 : Int32).toNatClampNeg da = (upd (upd (upd (upd (upd rf 0 ka) 1 aa) 2 ba) 3 ca) 4 da) from by rfl] at hP1 hD1
  replace hP : va_P (dC, dI) vwCl [(ph, .inr (3, [.ref pr, .ref pd, .int 0])), (pr, .inl (cI, 240, .inl (upd (upd (upd (upd (upd rf 0 ka) 1 aa) 2 ba) 3 ca) 4 da))), (pd, .inl (cZ, 40, .inl df))] H_5 := hP1
  replace hD : va_D A [(ph, .inr (3, [.ref pr, .ref pd, .int 0])), (pr, .inl (cI, 240, .inl (upd (upd (upd (upd (upd rf 0 ka) 1 aa) 2 ba) 3 ca) 4 da))), (pd, .inl (cZ, 40, .inl df))] := hD1
  replace hS := hS1
  clear hP1 hD1 hS1
  refine lv_aload_n hx hb dX3_append_59 rfl (lv_at hl 1 rfl) ?_
  refine va_get (D := (dC, dI)) (ci := 3) (v := .ref pr) (C := RX3) (T := TX3) (N := 3) hx hb hts inc_X3_append_X3 hown hK hP 0 rfl rfl 0 (by decide) (hts (.fieldLink RX3 11 "ArraySegments$Program" "rows" "[I") (List.mem_of_getElem? (i := 2) rfl)) (fun _ h9 => h9) rfl dX3_append_60 ?_
  refine lv_iload hx hb dX3_append_63 (lv_at hl 0 rfl) ?_
  refine lv_iconst (v := 5) hx hb dX3_append_65 (by decide) ?_
  refine lv_iadd hx hb dX3_append_66 ?_
  refine my_topi (y := 5) (by decide) ?_
  refine lv_iload hx hb dX3_append_67 (lv_at hl 7 rfl) ?_
  refine va_iast hx hb hK hP hD hS 1 0 rfl rfl (vp_in_iff.mpr (by decide)) dX3_append_69 (fun H_6 locs_6 hP1 hD1 hS1 => ?_)
  rw [show upd (upd (upd (upd (upd (upd rf 0 ka) 1 aa) 2 ba) 3 ca) 4 da) (5 : Int32).toNatClampNeg ea = (upd (upd (upd (upd (upd (upd rf 0 ka) 1 aa) 2 ba) 3 ca) 4 da) 5 ea) from by rfl] at hP1 hD1
  replace hP : va_P (dC, dI) vwCl [(ph, .inr (3, [.ref pr, .ref pd, .int 0])), (pr, .inl (cI, 240, .inl (upd (upd (upd (upd (upd (upd rf 0 ka) 1 aa) 2 ba) 3 ca) 4 da) 5 ea))), (pd, .inl (cZ, 40, .inl df))] H_6 := hP1
  replace hD : va_D A [(ph, .inr (3, [.ref pr, .ref pd, .int 0])), (pr, .inl (cI, 240, .inl (upd (upd (upd (upd (upd (upd rf 0 ka) 1 aa) 2 ba) 3 ca) 4 da) 5 ea))), (pd, .inl (cZ, 40, .inl df))] := hD1
  replace hS := hS1
  clear hP1 hD1 hS1
  refine lv_aload_n hx hb dX3_append_70 rfl (lv_at hl 1 rfl) ?_
  refine va_get (D := (dC, dI)) (ci := 3) (v := .ref pd) (C := RX3) (T := TX3) (N := 3) hx hb hts inc_X3_append_X3 hown hK hP 0 rfl rfl 1 (by decide) (hts (.fieldLink RX3 15 "ArraySegments$Program" "dropped" "[Z") (List.mem_of_getElem? (i := 3) rfl)) (fun _ h9 => h9) rfl dX3_append_71 ?_
  refine lv_aload_n hx hb dX3_append_74 rfl (lv_at hl 1 rfl) ?_
  refine va_get (D := (dC, dI)) (ci := 3) (v := .int 0) (C := RX3) (T := TX3) (N := 3) hx hb hts inc_X3_append_X3 hown hK hP 0 rfl rfl 2 (by decide) (hts (.fieldLink RX3 19 "ArraySegments$Program" "count" "I") (List.mem_of_getElem? (i := 1) rfl)) (fun _ h9 => h9) rfl dX3_append_75 ?_
  refine lv_iconst (v := 0) hx hb dX3_append_78 (by decide) ?_
  refine va_zast hx hb hK hP hD hS 2 2 rfl rfl (vp_in_iff.mpr (by decide)) dX3_append_79 (fun H_7 locs_7 hP1 hD1 hS1 => ?_)
  rw [show upd df (0 : Int32).toNatClampNeg (vp_nar .boolean 0) = (upd df 0 0) from by rfl] at hP1 hD1
  replace hP : va_P (dC, dI) vwCl [(ph, .inr (3, [.ref pr, .ref pd, .int 0])), (pr, .inl (cI, 240, .inl (upd (upd (upd (upd (upd (upd rf 0 ka) 1 aa) 2 ba) 3 ca) 4 da) 5 ea))), (pd, .inl (cZ, 40, .inl (upd df 0 0)))] H_7 := hP1
  replace hD : va_D A [(ph, .inr (3, [.ref pr, .ref pd, .int 0])), (pr, .inl (cI, 240, .inl (upd (upd (upd (upd (upd (upd rf 0 ka) 1 aa) 2 ba) 3 ca) 4 da) 5 ea))), (pd, .inl (cZ, 40, .inl (upd df 0 0)))] := hD1
  replace hS := hS1
  clear hP1 hD1 hS1
  refine lv_aload_n hx hb dX3_append_80 rfl (lv_at hl 1 rfl) ?_
  refine lv_dup hx hb dX3_append_81 rfl ?_
  refine va_get (D := (dC, dI)) (ci := 3) (v := .int 0) (C := RX3) (T := TX3) (N := 3) hx hb hts inc_X3_append_X3 hown hK hP 0 rfl rfl 2 (by decide) (hts (.fieldLink RX3 19 "ArraySegments$Program" "count" "I") (List.mem_of_getElem? (i := 1) rfl)) (fun _ h9 => h9) rfl dX3_append_82 ?_
  refine lv_iconst (v := 1) hx hb dX3_append_85 (by decide) ?_
  refine lv_iadd hx hb dX3_append_86 ?_
  refine my_topi (y := 1) (by decide) ?_
  refine va_put (D := (dC, dI)) (ci := 3) (v := .int 1) (ty := .int) (C := RX3) (T := TX3) (N := 3) hx hb hts inc_X3_append_X3 tyX3 tyX3_ok nmX3 hown hK hP hD hS 0 rfl rfl 2 (by decide) (hts (.fieldLink RX3 19 "ArraySegments$Program" "count" "I") (List.mem_of_getElem? (i := 1) rfl)) (fun _ h9 => h9) rfl (by decide +kernel) rfl rfl (Nat.le_of_ble_eq_true rfl) dX3_append_87 (fun H_8 locs_8 hP1 hD1 hS1 => ?_)
  replace hP : va_P (dC, dI) vwCl [(ph, .inr (3, [.ref pr, .ref pd, .int 1])), (pr, .inl (cI, 240, .inl (upd (upd (upd (upd (upd (upd rf 0 ka) 1 aa) 2 ba) 3 ca) 4 da) 5 ea))), (pd, .inl (cZ, 40, .inl (upd df 0 0)))] H_8 := hP1
  replace hD : va_D A [(ph, .inr (3, [.ref pr, .ref pd, .int 1])), (pr, .inl (cI, 240, .inl (upd (upd (upd (upd (upd (upd rf 0 ka) 1 aa) 2 ba) 3 ca) 4 da) 5 ea))), (pd, .inl (cZ, 40, .inl (upd df 0 0)))] := hD1
  replace hS := hS1
  clear hP1 hD1 hS1
  refine lv_aload_n hx hb dX3_append_90 rfl (lv_at hl 1 rfl) ?_
  refine va_get (D := (dC, dI)) (ci := 3) (v := .int 1) (C := RX3) (T := TX3) (N := 3) hx hb hts inc_X3_append_X3 hown hK hP 0 rfl rfl 2 (by decide) (hts (.fieldLink RX3 19 "ArraySegments$Program" "count" "I") (List.mem_of_getElem? (i := 1) rfl)) (fun _ h9 => h9) rfl dX3_append_91 ?_
  refine lv_iconst (v := 1) hx hb dX3_append_94 (by decide) ?_
  refine lv_isub hx hb dX3_append_95 ?_
  refine my_topi (y := 0) (by decide) ?_
  have hP9 := hP.sub (ws' := []) [] rfl
  have hD9 := hD.sub (ws' := []) [] (by decide) rfl
  exact W.iret (v := 0) hx hb hr (fun t ht hW => ⟨⟨0, (fun _ => 0), rfl, rfl, by rw [ht]; exact hP9, va_K.moved hW.alike hK, hD9⟩, hS.F ht⟩) hS.2.2 dX3_append_96

def w_X3_removeAll : List Cond := .code yX3_removeAll cX3_removeAll 1 none :: ([.fieldLink RX3 19 "ArraySegments$Program" "count" "I"] ++ wsX30)
theorem inc_X3_removeAll_X3 : ∀ w ∈ wsX30, w ∈ w_X3_removeAll := fun _ h => List.mem_cons_of_mem _ (List.mem_append_right _ h)
abbrev pw_X3_removeAll (cI cJ cZ : ClassId) (ph : Nat) (pv_rows : Value) (pv_dropped : Value) : va_W := [(ph, .inr (3, [pv_rows, pv_dropped, .int 0]))]
set_option maxHeartbeats 4000000 in
set_option maxRecDepth 100000 in
theorem c_X3_removeAll (l : Launch) (dC : Nat → ClassId) (dI : Nat → Nat → Nat) (cI cJ cZ : ClassId) (ph : Nat) (pv_rows : Value) (pv_dropped : Value) (sz : Nat) : Met l yX3_removeAll w_X3_removeAll ({ frames := 0, cells := 0, slots := 0, locals := 0 }) (va_Pc [.ref ph] (cPre dC dI cI cJ cZ sz (pw_X3_removeAll cI cJ cZ ph pv_rows pv_dropped))) (va_Qv (fun (u : Nat → Nat) => True) (fun (u : Nat → Nat) => cPost dC dI cI cJ cZ (va_A (pw_X3_removeAll cI cJ cZ ph pv_rows pv_dropped) sz) [(ph, .inr (3, [pv_rows, pv_dropped, .int 0]))]) (va_A (pw_X3_removeAll cI cJ cZ ph pv_rows pv_dropped) sz)) 0 0 (va_A (pw_X3_removeAll cI cJ cZ ph pv_rows pv_dropped) sz) := by
  refine Met.ofW (cc := cX3_removeAll) (maxL := 1) (ret := none) (by decide) rfl ?_
  intro p e s m args below meth c s₁ B hml hv
  obtain ⟨rfl, hsz, hP, hK, hD0, hN⟩ := hv
  have hx := B.exec
  have hb := B.bytes
  have hr := B.returns
  have hts := atoms_spec (ws := w_X3_removeAll) B.pre
  have hown : s.vm.findClass RX3 = some m.cls := findClass_of_methodNamed B.named
  have hlocks := B.notSynchronized
  subst hsz
  have hD := hD0.self (sz := s.heap.size)
  generalize hAe : va_A (pw_X3_removeAll cI cJ cZ ph pv_rows pv_dropped) s.heap.size = A at hD ⊢
  have hA : ∀ q : Nat, s.heap.size ≤ q → A q := fun q h => by rw [← hAe]; exact Or.inr h
  clear hAe hD0
  have hS : va_S A s.heap s.heap [] := va_S.rf
  replace hP : va_P (dC, dI) vwCl [(ph, .inr (3, [pv_rows, pv_dropped, .int 0]))] s.heap := hP
  replace hD : va_D A [(ph, .inr (3, [pv_rows, pv_dropped, .int 0]))] := hD
  have hl := lv_entry ([.ref ph]) (n := 1) (Nat.le_of_ble_eq_true rfl)
  rw [lg_entry_eq]
  generalize (lg_sl ([.ref ph]) ++ List.replicate (1 - (lg_sl ([.ref ph])).length) Slot.unset).toArray = ls at hl ⊢
  replace hl : lv_has ls 1 [(0, .ref ph)] := hl
  refine lv_aload_n hx hb dX3_removeAll_0 rfl (lv_at hl 0 rfl) ?_
  refine lv_iconst (v := 0) hx hb dX3_removeAll_1 (by decide) ?_
  refine va_put (D := (dC, dI)) (ci := 3) (v := .int 0) (ty := .int) (C := RX3) (T := TX3) (N := 3) hx hb hts inc_X3_removeAll_X3 tyX3 tyX3_ok nmX3 hown hK hP hD hS 0 rfl rfl 2 (by decide) (hts (.fieldLink RX3 19 "ArraySegments$Program" "count" "I") (List.mem_of_getElem? (i := 1) rfl)) (fun _ h9 => h9) rfl (by decide +kernel) rfl rfl (Nat.le_of_ble_eq_true rfl) dX3_removeAll_2 (fun H_1 locs_1 hP1 hD1 hS1 => ?_)
  replace hP : va_P (dC, dI) vwCl [(ph, .inr (3, [pv_rows, pv_dropped, .int 0]))] H_1 := hP1
  replace hD : va_D A [(ph, .inr (3, [pv_rows, pv_dropped, .int 0]))] := hD1
  replace hS := hS1
  clear hP1 hD1 hS1
  have hP9 := hP.sub (ws' := [(ph, .inr (3, [pv_rows, pv_dropped, .int 0]))]) [0] rfl
  have hD9 := hD.sub (ws' := [(ph, .inr (3, [pv_rows, pv_dropped, .int 0]))]) [0] (by decide) rfl
  exact W.vret hx hb hr (fun t ht hW => ⟨⟨(fun _ => 0), rfl, trivial, by rw [ht]; exact hP9, va_K.moved hW.alike hK, hD9⟩, hS.F ht⟩) hS.2.2 dX3_removeAll_5

def w_X3_countKept : List Cond := .code yX3_countKept cX3_countKept 3 (some .int) :: ([.fieldLink RX3 19 "ArraySegments$Program" "count" "I"] ++ wsX30)
theorem inc_X3_countKept_X3 : ∀ w ∈ wsX30, w ∈ w_X3_countKept := fun _ h => List.mem_cons_of_mem _ (List.mem_append_right _ h)
abbrev pw_X3_countKept (cI cJ cZ : ClassId) (ph : Nat) (pv_rows : Value) (pv_dropped : Value) : va_W := [(ph, .inr (3, [pv_rows, pv_dropped, .int 0]))]
set_option maxHeartbeats 4000000 in
set_option maxRecDepth 100000 in
theorem c_X3_countKept (l : Launch) (dC : Nat → ClassId) (dI : Nat → Nat → Nat) (cI cJ cZ : ClassId) (ph : Nat) (pv_rows : Value) (pv_dropped : Value) (sz : Nat) : Met l yX3_countKept w_X3_countKept ({ frames := 0, cells := 0, slots := 0, locals := 0 }) (va_Pc [.ref ph] (cPre dC dI cI cJ cZ sz (pw_X3_countKept cI cJ cZ ph pv_rows pv_dropped))) (va_Qi (fun (r : Int32) (u : Nat → Nat) => r = 0) (fun (u : Nat → Nat) => cPost dC dI cI cJ cZ (va_A (pw_X3_countKept cI cJ cZ ph pv_rows pv_dropped) sz) [(ph, .inr (3, [pv_rows, pv_dropped, .int 0]))]) (va_A (pw_X3_countKept cI cJ cZ ph pv_rows pv_dropped) sz)) 0 0 (va_A (pw_X3_countKept cI cJ cZ ph pv_rows pv_dropped) sz) := by
  refine Met.ofW (cc := cX3_countKept) (maxL := 3) (ret := (some .int)) (by decide) rfl ?_
  intro p e s m args below meth c s₁ B hml hv
  obtain ⟨rfl, hsz, hP, hK, hD0, hN⟩ := hv
  have hx := B.exec
  have hb := B.bytes
  have hr := B.returns
  have hts := atoms_spec (ws := w_X3_countKept) B.pre
  have hown : s.vm.findClass RX3 = some m.cls := findClass_of_methodNamed B.named
  have hlocks := B.notSynchronized
  subst hsz
  have hD := hD0.self (sz := s.heap.size)
  generalize hAe : va_A (pw_X3_countKept cI cJ cZ ph pv_rows pv_dropped) s.heap.size = A at hD ⊢
  have hA : ∀ q : Nat, s.heap.size ≤ q → A q := fun q h => by rw [← hAe]; exact Or.inr h
  clear hAe hD0
  have hS : va_S A s.heap s.heap [] := va_S.rf
  replace hP : va_P (dC, dI) vwCl [(ph, .inr (3, [pv_rows, pv_dropped, .int 0]))] s.heap := hP
  replace hD : va_D A [(ph, .inr (3, [pv_rows, pv_dropped, .int 0]))] := hD
  have hl := lv_entry ([.ref ph]) (n := 3) (Nat.le_of_ble_eq_true rfl)
  rw [lg_entry_eq]
  generalize (lg_sl ([.ref ph]) ++ List.replicate (3 - (lg_sl ([.ref ph])).length) Slot.unset).toArray = ls at hl ⊢
  replace hl : lv_has ls 3 [(0, .ref ph)] := hl
  refine lv_iconst (v := 0) hx hb dX3_countKept_0 (by decide) ?_
  refine lv_istore_n (lv' := [(1, .int 0), (0, .ref ph)]) hx hb dX3_countKept_1 rfl hl (by decide) rfl (fun ls1 hl1 => ?_)
  replace hl := hl1; clear hl1
  refine lv_iconst (v := 0) hx hb dX3_countKept_2 (by decide) ?_
  refine lv_istore_n (lv' := [(2, .int 0), (1, .int 0), (0, .ref ph)]) hx hb dX3_countKept_3 rfl hl (by decide) rfl (fun ls1 hl1 => ?_)
  replace hl := hl1; clear hl1
  refine lv_iload_n hx hb dX3_countKept_4 rfl (lv_at hl 0 rfl) ?_
  refine lv_aload_n hx hb dX3_countKept_5 rfl (lv_at hl 2 rfl) ?_
  refine va_get (D := (dC, dI)) (ci := 3) (v := .int 0) (C := RX3) (T := TX3) (N := 3) hx hb hts inc_X3_countKept_X3 hown hK hP 0 rfl rfl 2 (by decide) (hts (.fieldLink RX3 19 "ArraySegments$Program" "count" "I") (List.mem_of_getElem? (i := 1) rfl)) (fun _ h9 => h9) rfl dX3_countKept_6 ?_
  refine lv_icmp_ge (tgt := 30) hx hb dX3_countKept_9 (by decide) (fun c_1 => ?_) (fun c_1 => ?_)
  · -- on
    refine lv_iload_n hx hb dX3_countKept_30 rfl (lv_at hl 1 rfl) ?_
    have hP9 := hP.sub (ws' := [(ph, .inr (3, [pv_rows, pv_dropped, .int 0]))]) [0] rfl
    have hD9 := hD.sub (ws' := [(ph, .inr (3, [pv_rows, pv_dropped, .int 0]))]) [0] (by decide) rfl
    exact W.iret (v := 0) hx hb hr (fun t ht hW => ⟨⟨0, (fun _ => 0), rfl, rfl, by rw [ht]; exact hP9, va_K.moved hW.alike hK, hD9⟩, hS.F ht⟩) hS.2.2 dX3_countKept_31
  · exact absurd (by decide) c_1

def w_X3_init : List Cond := .code yX3_init cX3_init 1 none :: ([.methodLink RX3 3 objectInit, .instanceMethod objectInit, .code objectInit ⟨#[0xb1]⟩ 1 none, .arrayClass .int, .fieldLink RX3 11 "ArraySegments$Program" "rows" "[I", .arrayClass .boolean, .fieldLink RX3 15 "ArraySegments$Program" "dropped" "[Z", .fieldLink RX3 19 "ArraySegments$Program" "count" "I"] ++ wsX30)
theorem inc_X3_init_X3 : ∀ w ∈ wsX30, w ∈ w_X3_init := fun _ h => List.mem_cons_of_mem _ (List.mem_append_right _ h)
abbrev pw_X3_init (cI cJ cZ : ClassId) (ph : Nat) : va_W := [(ph, .inr (3, [.null, .null, .int 0]))]
set_option maxHeartbeats 4000000 in
set_option maxRecDepth 100000 in
theorem c_X3_init (l : Launch) (dC : Nat → ClassId) (dI : Nat → Nat → Nat) (cI cJ cZ : ClassId) (ph : Nat) (sz : Nat) : Met l yX3_init w_X3_init ({ frames := 1, cells := 2, slots := 280, locals := 12 }) (va_Pc [.ref ph] (cPre dC dI cI cJ cZ sz (pw_X3_init cI cJ cZ ph))) (va_Qv (fun (u : Nat → Nat) => True) (fun (u : Nat → Nat) => cPost dC dI cI cJ cZ (va_A (pw_X3_init cI cJ cZ ph) sz) [(ph, .inr (3, [.ref (u 0), .ref (u 1), .int 0])), ((u 0), .inl (cI, 240, .inl (fun _ => 0))), ((u 1), .inl (cZ, 40, .inl (fun _ => 0)))]) (va_A (pw_X3_init cI cJ cZ ph) sz)) 2 280 (va_A (pw_X3_init cI cJ cZ ph) sz) := by
  refine Met.ofW (cc := cX3_init) (maxL := 1) (ret := none) (by decide) rfl ?_
  intro p e s m args below meth c s₁ B hml hv
  obtain ⟨rfl, hsz, hP, hK, hD0, hN⟩ := hv
  have hx := B.exec
  have hb := B.bytes
  have hr := B.returns
  have hts := atoms_spec (ws := w_X3_init) B.pre
  have hown : s.vm.findClass RX3 = some m.cls := findClass_of_methodNamed B.named
  have hlocks := B.notSynchronized
  have hin : meth.name = "<init>" := (name_of_methodNamed B.named B.method).1
  subst hsz
  have hD := hD0.self (sz := s.heap.size)
  generalize hAe : va_A (pw_X3_init cI cJ cZ ph) s.heap.size = A at hD ⊢
  have hA : ∀ q : Nat, s.heap.size ≤ q → A q := fun q h => by rw [← hAe]; exact Or.inr h
  clear hAe hD0
  have hS : va_S A s.heap s.heap [] := va_S.rf
  replace hP : va_P (dC, dI) vwCl [(ph, .inr (3, [.null, .null, .int 0]))] s.heap := hP
  replace hD : va_D A [(ph, .inr (3, [.null, .null, .int 0]))] := hD
  have hl := lv_entry ([.ref ph]) (n := 1) (Nat.le_of_ble_eq_true rfl)
  rw [lg_entry_eq]
  generalize (lg_sl ([.ref ph]) ++ List.replicate (1 - (lg_sl ([.ref ph])).length) Slot.unset).toArray = ls at hl ⊢
  replace hl : lv_has ls 1 [(0, .ref ph)] := hl
  refine lv_aload_n hx hb dX3_init_0 rfl (lv_at hl 0 rfl) ?_
  refine W.objInit hx hb hown (hts (.methodLink RX3 3 objectInit) (List.mem_of_getElem? (i := 1) rfl)) (hts (.instanceMethod objectInit) (List.mem_of_getElem? (i := 2) rfl)) (hts (.code objectInit ⟨#[0xb1]⟩ 1 none) (List.mem_of_getElem? (i := 3) rfl)) rfl (by rw [hml]; exact hl.1) rfl dX3_init_1 (Nat.le_of_ble_eq_true rfl) (Nat.le_of_ble_eq_true rfl) ?_
  refine W.eq (g2 := F0 m 4 _ []) rfl ?_
  refine lv_aload_n hx hb dX3_init_4 rfl (lv_at hl 0 rfl) ?_
  refine lv_sipush (v := 240) hx hb dX3_init_5 (by decide) ?_
  refine my_newaI hx hb (hts (.arrayClass .int) (List.mem_of_getElem? (i := 4) rfl)) hK hP hD hS hA (N' := 240) (by decide) (by decide) (by decide) (Nat.le_of_ble_eq_true rfl) (Nat.le_of_ble_eq_true rfl) dX3_init_8 (fun q_1 H_1 hP1 hD1 hS1 => ?_)
  replace hP : va_P (dC, dI) vwCl [(ph, .inr (3, [.null, .null, .int 0])), (q_1, .inl (cI, 240, .inl (fun _ => 0)))] H_1 := hP1
  replace hD : va_D A [(ph, .inr (3, [.null, .null, .int 0])), (q_1, .inl (cI, 240, .inl (fun _ => 0)))] := hD1
  replace hS := hS1
  clear hP1 hD1 hS1
  refine W.widen (k := 1) (n := 240) (Nat.le_of_ble_eq_true rfl) (Nat.le_of_ble_eq_true rfl) ?_
  refine va_putF (D := (dC, dI)) (ci := 3) (v := .ref q_1) (ty := .array .int) (C := RX3) (T := TX3) (N := 3) hx hb hts inc_X3_init_X3 tyX3 tyX3_ok nmX3 hown hK hP hD hS 0 rfl rfl 0 (by decide) (hts (.fieldLink RX3 11 "ArraySegments$Program" "rows" "[I") (List.mem_of_getElem? (i := 5) rfl)) (fun _ h9 => h9) rfl hin rfl (by decide +kernel) rfl rfl (Nat.le_of_ble_eq_true rfl) dX3_init_10 (fun H_2 locs_2 hP1 hD1 hS1 => ?_)
  replace hP : va_P (dC, dI) vwCl [(ph, .inr (3, [.ref q_1, .null, .int 0])), (q_1, .inl (cI, 240, .inl (fun _ => 0)))] H_2 := hP1
  replace hD : va_D A [(ph, .inr (3, [.ref q_1, .null, .int 0])), (q_1, .inl (cI, 240, .inl (fun _ => 0)))] := hD1
  replace hS := hS1
  clear hP1 hD1 hS1
  refine lv_aload_n hx hb dX3_init_13 rfl (lv_at hl 0 rfl) ?_
  refine lv_bipush (v := 40) hx hb dX3_init_14 (by decide) ?_
  refine my_newaZ hx hb (hts (.arrayClass .boolean) (List.mem_of_getElem? (i := 6) rfl)) hK hP hD hS hA (N' := 40) (by decide) (by decide) (by decide) (Nat.le_of_ble_eq_true rfl) (Nat.le_of_ble_eq_true rfl) dX3_init_16 (fun q_3 H_3 hP1 hD1 hS1 => ?_)
  replace hP : va_P (dC, dI) vwCl [(ph, .inr (3, [.ref q_1, .null, .int 0])), (q_1, .inl (cI, 240, .inl (fun _ => 0))), (q_3, .inl (cZ, 40, .inl (fun _ => 0)))] H_3 := hP1
  replace hD : va_D A [(ph, .inr (3, [.ref q_1, .null, .int 0])), (q_1, .inl (cI, 240, .inl (fun _ => 0))), (q_3, .inl (cZ, 40, .inl (fun _ => 0)))] := hD1
  replace hS := hS1
  clear hP1 hD1 hS1
  refine W.widen (k := 2) (n := 280) (Nat.le_of_ble_eq_true rfl) (Nat.le_of_ble_eq_true rfl) ?_
  refine va_putF (D := (dC, dI)) (ci := 3) (v := .ref q_3) (ty := .array .boolean) (C := RX3) (T := TX3) (N := 3) hx hb hts inc_X3_init_X3 tyX3 tyX3_ok nmX3 hown hK hP hD hS 0 rfl rfl 1 (by decide) (hts (.fieldLink RX3 15 "ArraySegments$Program" "dropped" "[Z") (List.mem_of_getElem? (i := 7) rfl)) (fun _ h9 => h9) rfl hin rfl (by decide +kernel) rfl rfl (Nat.le_of_ble_eq_true rfl) dX3_init_18 (fun H_4 locs_4 hP1 hD1 hS1 => ?_)
  replace hP : va_P (dC, dI) vwCl [(ph, .inr (3, [.ref q_1, .ref q_3, .int 0])), (q_1, .inl (cI, 240, .inl (fun _ => 0))), (q_3, .inl (cZ, 40, .inl (fun _ => 0)))] H_4 := hP1
  replace hD : va_D A [(ph, .inr (3, [.ref q_1, .ref q_3, .int 0])), (q_1, .inl (cI, 240, .inl (fun _ => 0))), (q_3, .inl (cZ, 40, .inl (fun _ => 0)))] := hD1
  replace hS := hS1
  clear hP1 hD1 hS1
  refine lv_aload_n hx hb dX3_init_21 rfl (lv_at hl 0 rfl) ?_
  refine lv_iconst (v := 0) hx hb dX3_init_22 (by decide) ?_
  refine va_put (D := (dC, dI)) (ci := 3) (v := .int 0) (ty := .int) (C := RX3) (T := TX3) (N := 3) hx hb hts inc_X3_init_X3 tyX3 tyX3_ok nmX3 hown hK hP hD hS 0 rfl rfl 2 (by decide) (hts (.fieldLink RX3 19 "ArraySegments$Program" "count" "I") (List.mem_of_getElem? (i := 8) rfl)) (fun _ h9 => h9) rfl (by decide +kernel) rfl rfl (Nat.le_of_ble_eq_true rfl) dX3_init_23 (fun H_5 locs_5 hP1 hD1 hS1 => ?_)
  replace hP : va_P (dC, dI) vwCl [(ph, .inr (3, [.ref q_1, .ref q_3, .int 0])), (q_1, .inl (cI, 240, .inl (fun _ => 0))), (q_3, .inl (cZ, 40, .inl (fun _ => 0)))] H_5 := hP1
  replace hD : va_D A [(ph, .inr (3, [.ref q_1, .ref q_3, .int 0])), (q_1, .inl (cI, 240, .inl (fun _ => 0))), (q_3, .inl (cZ, 40, .inl (fun _ => 0)))] := hD1
  replace hS := hS1
  clear hP1 hD1 hS1
  have hP9 := hP.sub (ws' := [(ph, .inr (3, [.ref q_1, .ref q_3, .int 0])), (q_1, .inl (cI, 240, .inl (fun _ => 0))), (q_3, .inl (cZ, 40, .inl (fun _ => 0)))]) [0, 1, 2] rfl
  have hD9 := hD.sub (ws' := [(ph, .inr (3, [.ref q_1, .ref q_3, .int 0])), (q_1, .inl (cI, 240, .inl (fun _ => 0))), (q_3, .inl (cZ, 40, .inl (fun _ => 0)))]) [0, 1, 2] (by decide) rfl
  refine W.widen (k := 2) (n := 280) (Nat.le_of_ble_eq_true rfl) (Nat.le_of_ble_eq_true rfl) ?_
  exact W.vret hx hb hr (fun t ht hW => ⟨⟨(fun k => match k with | 0 => q_1 | 1 => q_3 | _ => 0), rfl, trivial, by rw [ht]; exact hP9, va_K.moved hW.alike hK, hD9⟩, hS.F ht⟩) hS.2.2 dX3_init_26
