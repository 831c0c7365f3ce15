def w_X0_setSpan : List Cond := .code yX0_setSpan cX0_setSpan 4 none :: ([.fieldLink RX0 15 "ArraySegments$Facts" "least" "[I", .fieldLink RX0 19 "ArraySegments$Facts" "greatest" "[I"] ++ wsX00)
theorem inc_X0_setSpan_X0 : ∀ w ∈ wsX00, w ∈ w_X0_setSpan := fun _ h => List.mem_cons_of_mem _ (List.mem_append_right _ h)
abbrev pw_X0_setSpan (cI cJ cZ : ClassId) (fh : Nat) (f1 : Nat) (f2 : Nat) (fr : Int32) (fv_sites : Value) (fv_maybeNull : Value) (fv_known : Value) (fv_lanes : Value) (fv_shortest : Value) (fv_longest : Value) (fv_leastAt : Value) (fv_greatestAt : Value) (fl : Nat → Int32) (fg : Nat → Int32) (xa : Int32) (loa : Int32) (hia : Int32) : va_W := [(fh, .inr (0, [.int fr, .ref f1, .ref f2, fv_sites, fv_maybeNull, fv_known, fv_lanes, fv_shortest, fv_longest, fv_leastAt, fv_greatestAt])), (f1, .inl (cI, 6, .inl fl)), (f2, .inl (cI, 6, .inl fg))]
set_option maxHeartbeats 4000000 in
set_option maxRecDepth 100000 in
theorem c_X0_setSpan (l : Launch) (dC : Nat → ClassId) (dI : Nat → Nat → Nat) (cI cJ cZ : ClassId) (fh : Nat) (f1 : Nat) (f2 : Nat) (fr : Int32) (fv_sites : Value) (fv_maybeNull : Value) (fv_known : Value) (fv_lanes : Value) (fv_shortest : Value) (fv_longest : Value) (fv_leastAt : Value) (fv_greatestAt : Value) (fl : Nat → Int32) (fg : Nat → Int32) (xa : Int32) (loa : Int32) (hia : Int32) (sz : Nat) (hxa : V6 xa) : Met l yX0_setSpan w_X0_setSpan ({ frames := 0, cells := 0, slots := 0, locals := 0 }) (va_Pc [.ref fh, .int xa, .int loa, .int hia] (cPre dC dI cI cJ cZ sz (pw_X0_setSpan cI cJ cZ fh f1 f2 fr fv_sites fv_maybeNull fv_known fv_lanes fv_shortest fv_longest fv_leastAt fv_greatestAt fl fg xa loa hia))) (va_Qv (fun (u : Nat → Nat) => True) (fun (u : Nat → Nat) => cPost dC dI cI cJ cZ (va_A (pw_X0_setSpan cI cJ cZ fh f1 f2 fr fv_sites fv_maybeNull fv_known fv_lanes fv_shortest fv_longest fv_leastAt fv_greatestAt fl fg xa loa hia) sz) [(fh, .inr (0, [.int fr, .ref f1, .ref f2, fv_sites, fv_maybeNull, fv_known, fv_lanes, fv_shortest, fv_longest, fv_leastAt, fv_greatestAt])), (f1, .inl (cI, 6, .inl (upd fl ((xa).toNatClampNeg) loa))), (f2, .inl (cI, 6, .inl (upd fg ((xa).toNatClampNeg) hia)))]) (va_A (pw_X0_setSpan cI cJ cZ fh f1 f2 fr fv_sites fv_maybeNull fv_known fv_lanes fv_shortest fv_longest fv_leastAt fv_greatestAt fl fg xa loa hia) sz)) 0 0 (va_A (pw_X0_setSpan cI cJ cZ fh f1 f2 fr fv_sites fv_maybeNull fv_known fv_lanes fv_shortest fv_longest fv_leastAt fv_greatestAt fl fg xa loa hia) sz) := by
  refine Met.ofW (cc := cX0_setSpan) (maxL := 4) (ret := none) (by decide) rfl ?_
  intro p e s m args below meth c s₁ B hml hv
  obtain ⟨rfl, hsz, hP, hK, hD0, hN⟩ := hv
  have hx := B.exec
  have hb := B.bytes
  have hr := B.returns
  have hts := atoms_spec (ws := w_X0_setSpan) B.pre
  have hown : s.vm.findClass RX0 = some m.cls := findClass_of_methodNamed B.named
  have hlocks := B.notSynchronized
  subst hsz
  have hD := hD0.self (sz := s.heap.size)
  generalize hAe : va_A (pw_X0_setSpan cI cJ cZ fh f1 f2 fr fv_sites fv_maybeNull fv_known fv_lanes fv_shortest fv_longest fv_leastAt fv_greatestAt fl fg xa loa hia) s.heap.size = A at hD ⊢
  have hA : ∀ q : Nat, s.heap.size ≤ q → A q := fun q h => by rw [← hAe]; exact Or.inr h
  clear hAe hD0
  have hS : va_S A s.heap s.heap [] := va_S.rf
  replace hP : va_P (dC, dI) vwCl [(fh, .inr (0, [.int fr, .ref f1, .ref f2, fv_sites, fv_maybeNull, fv_known, fv_lanes, fv_shortest, fv_longest, fv_leastAt, fv_greatestAt])), (f1, .inl (cI, 6, .inl fl)), (f2, .inl (cI, 6, .inl fg))] s.heap := hP
  replace hD : va_D A [(fh, .inr (0, [.int fr, .ref f1, .ref f2, fv_sites, fv_maybeNull, fv_known, fv_lanes, fv_shortest, fv_longest, fv_leastAt, fv_greatestAt])), (f1, .inl (cI, 6, .inl fl)), (f2, .inl (cI, 6, .inl fg))] := hD
  have hl := lv_entry ([.ref fh, .int xa, .int loa, .int hia]) (n := 4) (Nat.le_of_ble_eq_true rfl)
  rw [lg_entry_eq]
  generalize (lg_sl ([.ref fh, .int xa, .int loa, .int hia]) ++ List.replicate (4 - (lg_sl ([.ref fh, .int xa, .int loa, .int hia])).length) Slot.unset).toArray = ls at hl ⊢
  replace hl : lv_has ls 4 [(0, .ref fh), (1, .int xa), (2, .int loa), (3, .int hia)] := hl
  refine lv_aload_n hx hb dX0_setSpan_0 rfl (lv_at hl 0 rfl) ?_
  refine va_get (D := (dC, dI)) (ci := 0) (v := .ref f1) (C := RX0) (T := TX0) (N := 11) hx hb hts inc_X0_setSpan_X0 hown hK hP 0 rfl rfl 1 (by decide) (hts (.fieldLink RX0 15 "ArraySegments$Facts" "least" "[I") (List.mem_of_getElem? (i := 1) rfl)) (fun _ h9 => h9) rfl dX0_setSpan_1 ?_
  refine lv_iload_n hx hb dX0_setSpan_4 rfl (lv_at hl 1 rfl) ?_
  refine lv_iload_n hx hb dX0_setSpan_5 rfl (lv_at hl 2 rfl) ?_
  refine va_iast hx hb hK hP hD hS 1 0 rfl rfl (v6_in hxa) dX0_setSpan_6 (fun H_1 locs_1 hP1 hD1 hS1 => ?_)
  replace hP : va_P (dC, dI) vwCl [(fh, .inr (0, [.int fr, .ref f1, .ref f2, fv_sites, fv_maybeNull, fv_known, fv_lanes, fv_shortest, fv_longest, fv_leastAt, fv_greatestAt])), (f1, .inl (cI, 6, .inl (upd fl ((xa).toNatClampNeg) loa))), (f2, .inl (cI, 6, .inl fg))] H_1 := hP1
  replace hD : va_D A [(fh, .inr (0, [.int fr, .ref f1, .ref f2, fv_sites, fv_maybeNull, fv_known, fv_lanes, fv_shortest, fv_longest, fv_leastAt, fv_greatestAt])), (f1, .inl (cI, 6, .inl (upd fl ((xa).toNatClampNeg) loa))), (f2, .inl (cI, 6, .inl fg))] := hD1
  replace hS := hS1
  clear hP1 hD1 hS1
  refine lv_aload_n hx hb dX0_setSpan_7 rfl (lv_at hl 0 rfl) ?_
  refine va_get (D := (dC, dI)) (ci := 0) (v := .ref f2) (C := RX0) (T := TX0) (N := 11) hx hb hts inc_X0_setSpan_X0 hown hK hP 0 rfl rfl 2 (by decide) (hts (.fieldLink RX0 19 "ArraySegments$Facts" "greatest" "[I") (List.mem_of_getElem? (i := 2) rfl)) (fun _ h9 => h9) rfl dX0_setSpan_8 ?_
  refine lv_iload_n hx hb dX0_setSpan_11 rfl (lv_at hl 1 rfl) ?_
  refine lv_iload_n hx hb dX0_setSpan_12 rfl (lv_at hl 3 rfl) ?_
  refine va_iast hx hb hK hP hD hS 2 0 rfl rfl (v6_in hxa) dX0_setSpan_13 (fun H_2 locs_2 hP1 hD1 hS1 => ?_)
  replace hP : va_P (dC, dI) vwCl [(fh, .inr (0, [.int fr, .ref f1, .ref f2, fv_sites, fv_maybeNull, fv_known, fv_lanes, fv_shortest, fv_longest, fv_leastAt, fv_greatestAt])), (f1, .inl (cI, 6, .inl (upd fl ((xa).toNatClampNeg) loa))), (f2, .inl (cI, 6, .inl (upd fg ((xa).toNatClampNeg) hia)))] H_2 := hP1
  replace hD : va_D A [(fh, .inr (0, [.int fr, .ref f1, .ref f2, fv_sites, fv_maybeNull, fv_known, fv_lanes, fv_shortest, fv_longest, fv_leastAt, fv_greatestAt])), (f1, .inl (cI, 6, .inl (upd fl ((xa).toNatClampNeg) loa))), (f2, .inl (cI, 6, .inl (upd fg ((xa).toNatClampNeg) hia)))] := hD1
  replace hS := hS1
  clear hP1 hD1 hS1
  have hP9 := hP.sub (ws' := [(fh, .inr (0, [.int fr, .ref f1, .ref f2, fv_sites, fv_maybeNull, fv_known, fv_lanes, fv_shortest, fv_longest, fv_leastAt, fv_greatestAt])), (f1, .inl (cI, 6, .inl (upd fl ((xa).toNatClampNeg) loa))), (f2, .inl (cI, 6, .inl (upd fg ((xa).toNatClampNeg) hia)))]) [0, 1, 2] rfl
  have hD9 := hD.sub (ws' := [(fh, .inr (0, [.int fr, .ref f1, .ref f2, fv_sites, fv_maybeNull, fv_known, fv_lanes, fv_shortest, fv_longest, fv_leastAt, fv_greatestAt])), (f1, .inl (cI, 6, .inl (upd fl ((xa).toNatClampNeg) loa))), (f2, .inl (cI, 6, .inl (upd fg ((xa).toNatClampNeg) hia)))]) [0, 1, 2] (by decide) rfl
  exact W.vret hx hb hr (fun t ht hW => ⟨⟨(fun _ => 0), rfl, trivial, by rw [ht]; exact hP9, va_K.moved hW.alike hK, hD9⟩, hS.F ht⟩) hS.2.2 dX0_setSpan_14

def w_X0_begin : List Cond := .code yX0_begin cX0_begin 2 none :: ([.fieldLink RX0 9 "ArraySegments$Facts" "isReached" "Z", .fieldLink RX0 30 "ArraySegments$Facts" "known" "[Z", .fieldLink RX0 22 "ArraySegments$Facts" "sites" "[J", .fieldLink RX0 26 "ArraySegments$Facts" "maybeNull" "[Z", .methodLink RX0 48 yX0_setSpan, .instanceMethod yX0_setSpan, .selects RX0 yX0_setSpan yX0_setSpan, .initialized RX0, .code yX0_setSpan cX0_setSpan 4 none, .fieldLink RX0 15 "ArraySegments$Facts" "least" "[I", .fieldLink RX0 19 "ArraySegments$Facts" "greatest" "[I"] ++ wsX00)
theorem inc_X0_begin_X0 : ∀ w ∈ wsX00, w ∈ w_X0_begin := fun _ h => List.mem_cons_of_mem _ (List.mem_append_right _ h)
set_option maxRecDepth 20000 in
theorem g_X0_begin_X0_setSpan_48 : GoodIn w_X0_begin (wsV RX0 48 RX0 yX0_setSpan w_X0_setSpan) := goodIn_r _ [5, 6, 7, 8, 9, 10, 11, 12, 13, 14, 15, 16, 17, 18, 19, 20, 21, 22] (by decide +kernel) (by decide +kernel)
abbrev pw_X0_begin (cI cJ cZ : ClassId) (fh : Nat) (f1 : Nat) (f2 : Nat) (f3 : Nat) (f4 : Nat) (f5 : Nat) (fr : Int32) (fw_lanes : Value) (fw_shortest : Value) (fw_longest : Value) (fw_leastAt : Value) (fw_greatestAt : Value) (fl : Nat → Int32) (fg : Nat → Int32) (fs : Nat → Int64) (fm : Nat → Int32) (fk : Nat → Int32) : va_W := [(fh, .inr (0, [.int fr, .ref f1, .ref f2, .ref f3, .ref f4, .ref f5, fw_lanes, fw_shortest, fw_longest, fw_leastAt, fw_greatestAt])), (f1, .inl (cI, 6, .inl fl)), (f2, .inl (cI, 6, .inl fg)), (f3, .inl (cJ, 6, .inr (.inl fs))), (f4, .inl (cZ, 6, .inl fm)), (f5, .inl (cZ, 40, .inl fk))]
set_option maxHeartbeats 4000000 in
set_option maxRecDepth 100000 in
theorem c_X0_begin (l : Launch) (dC : Nat → ClassId) (dI : Nat → Nat → Nat) (cI cJ cZ : ClassId) (fh : Nat) (f1 : Nat) (f2 : Nat) (f3 : Nat) (f4 : Nat) (f5 : Nat) (fr : Int32) (fw_lanes : Value) (fw_shortest : Value) (fw_longest : Value) (fw_leastAt : Value) (fw_greatestAt : Value) (fl : Nat → Int32) (fg : Nat → Int32) (fs : Nat → Int64) (fm : Nat → Int32) (fk : Nat → Int32) (sz : Nat) : Met l yX0_begin w_X0_begin ({ frames := 1, cells := 0, slots := 0, locals := 23 }) (va_Pc [.ref fh] (cPre dC dI cI cJ cZ sz (pw_X0_begin cI cJ cZ fh f1 f2 f3 f4 f5 fr fw_lanes fw_shortest fw_longest fw_leastAt fw_greatestAt fl fg fs fm fk))) (va_Qv (fun (u : Nat → Nat) => True) (fun (u : Nat → Nat) => cPost dC dI cI cJ cZ (va_A (pw_X0_begin cI cJ cZ fh f1 f2 f3 f4 f5 fr fw_lanes fw_shortest fw_longest fw_leastAt fw_greatestAt fl fg fs fm fk) sz) [(fh, .inr (0, [.int 1, .ref f1, .ref f2, .ref f3, .ref f4, .ref f5, fw_lanes, fw_shortest, fw_longest, fw_leastAt, fw_greatestAt])), (f1, .inl (cI, 6, .inl (ov fl 6 0))), (f2, .inl (cI, 6, .inl (ov fg 6 0))), (f3, .inl (cJ, 6, .inr (.inl (ovL fs 6 0)))), (f4, .inl (cZ, 6, .inl (ov fm 6 1))), (f5, .inl (cZ, 40, .inl (ov fk 40 0)))]) (va_A (pw_X0_begin cI cJ cZ fh f1 f2 f3 f4 f5 fr fw_lanes fw_shortest fw_longest fw_leastAt fw_greatestAt fl fg fs fm fk) sz)) 0 0 (va_A (pw_X0_begin cI cJ cZ fh f1 f2 f3 f4 f5 fr fw_lanes fw_shortest fw_longest fw_leastAt fw_greatestAt fl fg fs fm fk) sz) := by
  refine Met.ofW (cc := cX0_begin) (maxL := 2) (ret := none) (by decide) rfl ?_
  intro p e s m args below meth c s₁ B hml hv
  obtain ⟨rfl, hsz, hP, hK, hD0, hN⟩ := hv
  have hx := B.exec
  have hb := B.bytes
  have hr := B.returns
  have hts := atoms_spec (ws := w_X0_begin) B.pre
  have hown : s.vm.findClass RX0 = some m.cls := findClass_of_methodNamed B.named
  have hlocks := B.notSynchronized
  subst hsz
  have hD := hD0.self (sz := s.heap.size)
  generalize hAe : va_A (pw_X0_begin cI cJ cZ fh f1 f2 f3 f4 f5 fr fw_lanes fw_shortest fw_longest fw_leastAt fw_greatestAt fl fg fs fm fk) s.heap.size = A at hD ⊢
  have hA : ∀ q : Nat, s.heap.size ≤ q → A q := fun q h => by rw [← hAe]; exact Or.inr h
  clear hAe hD0
  have hS : va_S A s.heap s.heap [] := va_S.rf
  replace hP : va_P (dC, dI) vwCl [(fh, .inr (0, [.int fr, .ref f1, .ref f2, .ref f3, .ref f4, .ref f5, fw_lanes, fw_shortest, fw_longest, fw_leastAt, fw_greatestAt])), (f1, .inl (cI, 6, .inl fl)), (f2, .inl (cI, 6, .inl fg)), (f3, .inl (cJ, 6, .inr (.inl fs))), (f4, .inl (cZ, 6, .inl fm)), (f5, .inl (cZ, 40, .inl fk))] s.heap := hP
  replace hD : va_D A [(fh, .inr (0, [.int fr, .ref f1, .ref f2, .ref f3, .ref f4, .ref f5, fw_lanes, fw_shortest, fw_longest, fw_leastAt, fw_greatestAt])), (f1, .inl (cI, 6, .inl fl)), (f2, .inl (cI, 6, .inl fg)), (f3, .inl (cJ, 6, .inr (.inl fs))), (f4, .inl (cZ, 6, .inl fm)), (f5, .inl (cZ, 40, .inl fk))] := hD
  have hl := lv_entry ([.ref fh]) (n := 2) (Nat.le_of_ble_eq_true rfl)
  rw [lg_entry_eq]
  generalize (lg_sl ([.ref fh]) ++ List.replicate (2 - (lg_sl ([.ref fh])).length) Slot.unset).toArray = ls at hl ⊢
  replace hl : lv_has ls 2 [(0, .ref fh)] := hl
  refine lv_aload_n hx hb dX0_begin_0 rfl (lv_at hl 0 rfl) ?_
  refine lv_iconst (v := 1) hx hb dX0_begin_1 (by decide) ?_
  refine va_put (D := (dC, dI)) (ci := 0) (v := .int 1) (ty := .boolean) (C := RX0) (T := TX0) (N := 11) hx hb hts inc_X0_begin_X0 tyX0 tyX0_ok nmX0 hown hK hP hD hS 0 rfl rfl 0 (by decide) (hts (.fieldLink RX0 9 "ArraySegments$Facts" "isReached" "Z") (List.mem_of_getElem? (i := 1) rfl)) (fun _ h9 => h9) rfl (by decide +kernel) rfl rfl (Nat.le_of_ble_eq_true rfl) dX0_begin_2 (fun H_1 locs_1 hP1 hD1 hS1 => ?_)
  replace hP : va_P (dC, dI) vwCl [(fh, .inr (0, [.int 1, .ref f1, .ref f2, .ref f3, .ref f4, .ref f5, fw_lanes, fw_shortest, fw_longest, fw_leastAt, fw_greatestAt])), (f1, .inl (cI, 6, .inl fl)), (f2, .inl (cI, 6, .inl fg)), (f3, .inl (cJ, 6, .inr (.inl fs))), (f4, .inl (cZ, 6, .inl fm)), (f5, .inl (cZ, 40, .inl fk))] H_1 := hP1
  replace hD : va_D A [(fh, .inr (0, [.int 1, .ref f1, .ref f2, .ref f3, .ref f4, .ref f5, fw_lanes, fw_shortest, fw_longest, fw_leastAt, fw_greatestAt])), (f1, .inl (cI, 6, .inl fl)), (f2, .inl (cI, 6, .inl fg)), (f3, .inl (cJ, 6, .inr (.inl fs))), (f4, .inl (cZ, 6, .inl fm)), (f5, .inl (cZ, 40, .inl fk))] := hD1
  replace hS := hS1
  clear hP1 hD1 hS1
  refine lv_iconst (v := 0) hx hb dX0_begin_5 (by decide) ?_
  refine lv_istore_n (lv' := [(1, .int 0), (0, .ref fh)]) hx hb dX0_begin_6 rfl hl (by decide) rfl (fun ls1 hl1 => ?_)
  replace hl := hl1; clear hl1
  refine my_loop 6 (fun i => [(fh, .inr (0, [.int 1, .ref f1, .ref f2, .ref f3, .ref f4, .ref f5, fw_lanes, fw_shortest, fw_longest, fw_leastAt, fw_greatestAt])), (f1, .inl (cI, 6, .inl (ov fl i 0))), (f2, .inl (cI, 6, .inl (ov fg i 0))), (f3, .inl (cJ, 6, .inr (.inl fs))), (f4, .inl (cZ, 6, .inl fm)), (f5, .inl (cZ, 40, .inl fk))]) (fun i => [(1, .int (nI i)), (0, .ref fh)]) (H0 := s.heap) (A := A) (D := (dC, dI)) (cl := vwCl) (by first | (simp only [ov_0, ovL_0]; exact hP) | exact hP) (by first | (simp only [ov_0, ovL_0]; exact hD) | exact hD) hS (by exact hl) (fun H_7 locs_7 ls1 hP1 hD1 hS1 hl1 => ?_) (fun i7 hlt_i7 ih_7 H_7 locs_7 ls1 hP1 hD1 hS1 hl1 => ?_)
  · -- behind
    replace hP : va_P (dC, dI) vwCl [(fh, .inr (0, [.int 1, .ref f1, .ref f2, .ref f3, .ref f4, .ref f5, fw_lanes, fw_shortest, fw_longest, fw_leastAt, fw_greatestAt])), (f1, .inl (cI, 6, .inl (ov fl 6 0))), (f2, .inl (cI, 6, .inl (ov fg 6 0))), (f3, .inl (cJ, 6, .inr (.inl fs))), (f4, .inl (cZ, 6, .inl fm)), (f5, .inl (cZ, 40, .inl fk))] H_7 := hP1
    replace hD : va_D A [(fh, .inr (0, [.int 1, .ref f1, .ref f2, .ref f3, .ref f4, .ref f5, fw_lanes, fw_shortest, fw_longest, fw_leastAt, fw_greatestAt])), (f1, .inl (cI, 6, .inl (ov fl 6 0))), (f2, .inl (cI, 6, .inl (ov fg 6 0))), (f3, .inl (cJ, 6, .inr (.inl fs))), (f4, .inl (cZ, 6, .inl fm)), (f5, .inl (cZ, 40, .inl fk))] := hD1
    replace hS := hS1
    clear hP1 hD1 hS1
    replace hl : lv_has ls1 2 [(1, .int (nI 6)), (0, .ref fh)] := hl1
    clear hl1
    refine lv_iload_n hx hb dX0_begin_7 rfl (lv_at hl 0 rfl) ?_
    refine lv_bipush (v := 6) hx hb dX0_begin_8 (by decide) ?_
    refine lv_icmp_ge (tgt := 26) hx hb dX0_begin_10 (by decide) (fun c_2 => ?_) (fun c_2 => ?_)
    · -- on
      refine lv_iconst (v := 0) hx hb dX0_begin_26 (by decide) ?_
      refine lv_istore_n (lv' := [(1, .int 0), (0, .ref fh)]) hx hb dX0_begin_27 rfl hl (by decide) rfl (fun ls1 hl1 => ?_)
      replace hl := hl1; clear hl1
      refine my_loop 6 (fun i => [(fh, .inr (0, [.int 1, .ref f1, .ref f2, .ref f3, .ref f4, .ref f5, fw_lanes, fw_shortest, fw_longest, fw_leastAt, fw_greatestAt])), (f1, .inl (cI, 6, .inl (ov fl 6 0))), (f2, .inl (cI, 6, .inl (ov fg 6 0))), (f3, .inl (cJ, 6, .inr (.inl (ovL fs i 0)))), (f4, .inl (cZ, 6, .inl (ov fm i 1))), (f5, .inl (cZ, 40, .inl fk))]) (fun i => [(1, .int (nI i)), (0, .ref fh)]) (H0 := s.heap) (A := A) (D := (dC, dI)) (cl := vwCl) (by first | (simp only [ov_0, ovL_0]; exact hP) | exact hP) (by first | (simp only [ov_0, ovL_0]; exact hD) | exact hD) hS (by exact hl) (fun H_28 locs_28 ls1 hP1 hD1 hS1 hl1 => ?_) (fun i28 hlt_i28 ih_28 H_28 locs_28 ls1 hP1 hD1 hS1 hl1 => ?_)
      · -- behind
        replace hP : va_P (dC, dI) vwCl [(fh, .inr (0, [.int 1, .ref f1, .ref f2, .ref f3, .ref f4, .ref f5, fw_lanes, fw_shortest, fw_longest, fw_leastAt, fw_greatestAt])), (f1, .inl (cI, 6, .inl (ov fl 6 0))), (f2, .inl (cI, 6, .inl (ov fg 6 0))), (f3, .inl (cJ, 6, .inr (.inl (ovL fs 6 0)))), (f4, .inl (cZ, 6, .inl (ov fm 6 1))), (f5, .inl (cZ, 40, .inl fk))] H_28 := hP1
        replace hD : va_D A [(fh, .inr (0, [.int 1, .ref f1, .ref f2, .ref f3, .ref f4, .ref f5, fw_lanes, fw_shortest, fw_longest, fw_leastAt, fw_greatestAt])), (f1, .inl (cI, 6, .inl (ov fl 6 0))), (f2, .inl (cI, 6, .inl (ov fg 6 0))), (f3, .inl (cJ, 6, .inr (.inl (ovL fs 6 0)))), (f4, .inl (cZ, 6, .inl (ov fm 6 1))), (f5, .inl (cZ, 40, .inl fk))] := hD1
        replace hS := hS1
        clear hP1 hD1 hS1
        replace hl : lv_has ls1 2 [(1, .int (nI 6)), (0, .ref fh)] := hl1
        clear hl1
        refine lv_iload_n hx hb dX0_begin_28 rfl (lv_at hl 0 rfl) ?_
        refine lv_bipush (v := 6) hx hb dX0_begin_29 (by decide) ?_
        refine lv_icmp_ge (tgt := 54) hx hb dX0_begin_31 (by decide) (fun c_3 => ?_) (fun c_3 => ?_)
        · -- on
          refine lv_iconst (v := 0) hx hb dX0_begin_54 (by decide) ?_
          refine lv_istore_n (lv' := [(1, .int 0), (0, .ref fh)]) hx hb dX0_begin_55 rfl hl (by decide) rfl (fun ls1 hl1 => ?_)
          replace hl := hl1; clear hl1
          refine my_loop 40 (fun i => [(fh, .inr (0, [.int 1, .ref f1, .ref f2, .ref f3, .ref f4, .ref f5, fw_lanes, fw_shortest, fw_longest, fw_leastAt, fw_greatestAt])), (f1, .inl (cI, 6, .inl (ov fl 6 0))), (f2, .inl (cI, 6, .inl (ov fg 6 0))), (f3, .inl (cJ, 6, .inr (.inl (ovL fs 6 0)))), (f4, .inl (cZ, 6, .inl (ov fm 6 1))), (f5, .inl (cZ, 40, .inl (ov fk i 0)))]) (fun i => [(1, .int (nI i)), (0, .ref fh)]) (H0 := s.heap) (A := A) (D := (dC, dI)) (cl := vwCl) (by first | (simp only [ov_0, ovL_0]; exact hP) | exact hP) (by first | (simp only [ov_0, ovL_0]; exact hD) | exact hD) hS (by exact hl) (fun H_56 locs_56 ls1 hP1 hD1 hS1 hl1 => ?_) (fun i56 hlt_i56 ih_56 H_56 locs_56 ls1 hP1 hD1 hS1 hl1 => ?_)
          · -- behind
            replace hP : va_P (dC, dI) vwCl [(fh, .inr (0, [.int 1, .ref f1, .ref f2, .ref f3, .ref f4, .ref f5, fw_lanes, fw_shortest, fw_longest, fw_leastAt, fw_greatestAt])), (f1, .inl (cI, 6, .inl (ov fl 6 0))), (f2, .inl (cI, 6, .inl (ov fg 6 0))), (f3, .inl (cJ, 6, .inr (.inl (ovL fs 6 0)))), (f4, .inl (cZ, 6, .inl (ov fm 6 1))), (f5, .inl (cZ, 40, .inl (ov fk 40 0)))] H_56 := hP1
            replace hD : va_D A [(fh, .inr (0, [.int 1, .ref f1, .ref f2, .ref f3, .ref f4, .ref f5, fw_lanes, fw_shortest, fw_longest, fw_leastAt, fw_greatestAt])), (f1, .inl (cI, 6, .inl (ov fl 6 0))), (f2, .inl (cI, 6, .inl (ov fg 6 0))), (f3, .inl (cJ, 6, .inr (.inl (ovL fs 6 0)))), (f4, .inl (cZ, 6, .inl (ov fm 6 1))), (f5, .inl (cZ, 40, .inl (ov fk 40 0)))] := hD1
            replace hS := hS1
            clear hP1 hD1 hS1
            replace hl : lv_has ls1 2 [(1, .int (nI 40)), (0, .ref fh)] := hl1
            clear hl1
            refine lv_iload_n hx hb dX0_begin_56 rfl (lv_at hl 0 rfl) ?_
            refine lv_bipush (v := 40) hx hb dX0_begin_57 (by decide) ?_
            refine lv_icmp_ge (tgt := 75) hx hb dX0_begin_59 (by decide) (fun c_4 => ?_) (fun c_4 => ?_)
            · -- on
              have hP9 := hP.sub (ws' := [(fh, .inr (0, [.int 1, .ref f1, .ref f2, .ref f3, .ref f4, .ref f5, fw_lanes, fw_shortest, fw_longest, fw_leastAt, fw_greatestAt])), (f1, .inl (cI, 6, .inl (ov fl 6 0))), (f2, .inl (cI, 6, .inl (ov fg 6 0))), (f3, .inl (cJ, 6, .inr (.inl (ovL fs 6 0)))), (f4, .inl (cZ, 6, .inl (ov fm 6 1))), (f5, .inl (cZ, 40, .inl (ov fk 40 0)))]) [0, 1, 2, 3, 4, 5] rfl
              have hD9 := hD.sub (ws' := [(fh, .inr (0, [.int 1, .ref f1, .ref f2, .ref f3, .ref f4, .ref f5, fw_lanes, fw_shortest, fw_longest, fw_leastAt, fw_greatestAt])), (f1, .inl (cI, 6, .inl (ov fl 6 0))), (f2, .inl (cI, 6, .inl (ov fg 6 0))), (f3, .inl (cJ, 6, .inr (.inl (ovL fs 6 0)))), (f4, .inl (cZ, 6, .inl (ov fm 6 1))), (f5, .inl (cZ, 40, .inl (ov fk 40 0)))]) [0, 1, 2, 3, 4, 5] (by decide) rfl
              exact W.vret hx hb hr (fun t ht hW => ⟨⟨(fun _ => 0), rfl, trivial, by rw [ht]; exact hP9, va_K.moved hW.alike hK, hD9⟩, hS.F ht⟩) hS.2.2 dX0_begin_75
            · exact absurd (by decide) c_4
          · -- once
            replace hP : va_P (dC, dI) vwCl [(fh, .inr (0, [.int 1, .ref f1, .ref f2, .ref f3, .ref f4, .ref f5, fw_lanes, fw_shortest, fw_longest, fw_leastAt, fw_greatestAt])), (f1, .inl (cI, 6, .inl (ov fl 6 0))), (f2, .inl (cI, 6, .inl (ov fg 6 0))), (f3, .inl (cJ, 6, .inr (.inl (ovL fs 6 0)))), (f4, .inl (cZ, 6, .inl (ov fm 6 1))), (f5, .inl (cZ, 40, .inl (ov fk i56 0)))] H_56 := hP1
            replace hD : va_D A [(fh, .inr (0, [.int 1, .ref f1, .ref f2, .ref f3, .ref f4, .ref f5, fw_lanes, fw_shortest, fw_longest, fw_leastAt, fw_greatestAt])), (f1, .inl (cI, 6, .inl (ov fl 6 0))), (f2, .inl (cI, 6, .inl (ov fg 6 0))), (f3, .inl (cJ, 6, .inr (.inl (ovL fs 6 0)))), (f4, .inl (cZ, 6, .inl (ov fm 6 1))), (f5, .inl (cZ, 40, .inl (ov fk i56 0)))] := hD1
            replace hS := hS1
            clear hP1 hD1 hS1
            replace hl : lv_has ls1 2 [(1, .int (nI i56)), (0, .ref fh)] := hl1
            clear hl1
            refine lv_iload_n hx hb dX0_begin_56 rfl (lv_at hl 0 rfl) ?_
            refine lv_bipush (v := 40) hx hb dX0_begin_57 (by decide) ?_
            refine lv_icmp_ge (tgt := 75) hx hb dX0_begin_59 (by decide) (fun c_5 => ?_) (fun c_5 => ?_)
            · exact absurd c_5 (nI_ge hlt_i56 (by decide))
            · -- on
              refine lv_aload_n hx hb dX0_begin_62 rfl (lv_at hl 1 rfl) ?_
              refine va_get (D := (dC, dI)) (ci := 0) (v := .ref f5) (C := RX0) (T := TX0) (N := 11) hx hb hts inc_X0_begin_X0 hown hK hP 0 rfl rfl 5 (by decide) (hts (.fieldLink RX0 30 "ArraySegments$Facts" "known" "[Z") (List.mem_of_getElem? (i := 2) rfl)) (fun _ h9 => h9) rfl dX0_begin_63 ?_
              refine lv_iload_n hx hb dX0_begin_66 rfl (lv_at hl 0 rfl) ?_
              refine lv_iconst (v := 0) hx hb dX0_begin_67 (by decide) ?_
              refine va_zast hx hb hK hP hD hS 5 2 rfl rfl (vp_in_nI (by omega) (by decide)) dX0_begin_68 (fun H_6 locs_6 hP1 hD1 hS1 => ?_)
              rw [show upd (ov fk i56 0) (nI i56 : Int32).toNatClampNeg (vp_nar .boolean 0) = (ov fk (i56 + 1) 0) from ov_stZ fk 0 (by omega) (by decide)] at hP1 hD1
              replace hP : va_P (dC, dI) vwCl [(fh, .inr (0, [.int 1, .ref f1, .ref f2, .ref f3, .ref f4, .ref f5, fw_lanes, fw_shortest, fw_longest, fw_leastAt, fw_greatestAt])), (f1, .inl (cI, 6, .inl (ov fl 6 0))), (f2, .inl (cI, 6, .inl (ov fg 6 0))), (f3, .inl (cJ, 6, .inr (.inl (ovL fs 6 0)))), (f4, .inl (cZ, 6, .inl (ov fm 6 1))), (f5, .inl (cZ, 40, .inl (ov fk (i56 + 1) 0)))] H_6 := hP1
              replace hD : va_D A [(fh, .inr (0, [.int 1, .ref f1, .ref f2, .ref f3, .ref f4, .ref f5, fw_lanes, fw_shortest, fw_longest, fw_leastAt, fw_greatestAt])), (f1, .inl (cI, 6, .inl (ov fl 6 0))), (f2, .inl (cI, 6, .inl (ov fg 6 0))), (f3, .inl (cJ, 6, .inr (.inl (ovL fs 6 0)))), (f4, .inl (cZ, 6, .inl (ov fm 6 1))), (f5, .inl (cZ, 40, .inl (ov fk (i56 + 1) 0)))] := hD1
              replace hS := hS1
              clear hP1 hD1 hS1
              refine lv_iinc (v := nI (i56 + 1)) (lv' := [(1, .int (nI (i56 + 1))), (0, .ref fh)]) hx hb dX0_begin_69 hl (k := 0) rfl (by rw [show Int32.ofInt 1 = (1 : Int32) from by decide]; exact nI_1 _) (by decide) rfl (fun ls1 hl1 => ?_)
              replace hl := hl1; clear hl1
              refine lv_goto (tgt := 56) hx hb dX0_begin_72 (by decide) ?_
              exact ih_56 _ _ _ (hP.sub [0, 1, 2, 3, 4, 5] rfl) (hD.sub [0, 1, 2, 3, 4, 5] (by decide) rfl) hS (lv_sub hl [0, 1] rfl)
        · exact absurd (by decide) c_3
      · -- once
        replace hP : va_P (dC, dI) vwCl [(fh, .inr (0, [.int 1, .ref f1, .ref f2, .ref f3, .ref f4, .ref f5, fw_lanes, fw_shortest, fw_longest, fw_leastAt, fw_greatestAt])), (f1, .inl (cI, 6, .inl (ov fl 6 0))), (f2, .inl (cI, 6, .inl (ov fg 6 0))), (f3, .inl (cJ, 6, .inr (.inl (ovL fs i28 0)))), (f4, .inl (cZ, 6, .inl (ov fm i28 1))), (f5, .inl (cZ, 40, .inl fk))] H_28 := hP1
        replace hD : va_D A [(fh, .inr (0, [.int 1, .ref f1, .ref f2, .ref f3, .ref f4, .ref f5, fw_lanes, fw_shortest, fw_longest, fw_leastAt, fw_greatestAt])), (f1, .inl (cI, 6, .inl (ov fl 6 0))), (f2, .inl (cI, 6, .inl (ov fg 6 0))), (f3, .inl (cJ, 6, .inr (.inl (ovL fs i28 0)))), (f4, .inl (cZ, 6, .inl (ov fm i28 1))), (f5, .inl (cZ, 40, .inl fk))] := hD1
        replace hS := hS1
        clear hP1 hD1 hS1
        replace hl : lv_has ls1 2 [(1, .int (nI i28)), (0, .ref fh)] := hl1
        clear hl1
        refine lv_iload_n hx hb dX0_begin_28 rfl (lv_at hl 0 rfl) ?_
        refine lv_bipush (v := 6) hx hb dX0_begin_29 (by decide) ?_
        refine lv_icmp_ge (tgt := 54) hx hb dX0_begin_31 (by decide) (fun c_7 => ?_) (fun c_7 => ?_)
        · exact absurd c_7 (nI_ge hlt_i28 (by decide))
        · -- on
          refine lv_aload_n hx hb dX0_begin_34 rfl (lv_at hl 1 rfl) ?_
          refine va_get (D := (dC, dI)) (ci := 0) (v := .ref f3) (C := RX0) (T := TX0) (N := 11) hx hb hts inc_X0_begin_X0 hown hK hP 0 rfl rfl 3 (by decide) (hts (.fieldLink RX0 22 "ArraySegments$Facts" "sites" "[J") (List.mem_of_getElem? (i := 3) rfl)) (fun _ h9 => h9) rfl dX0_begin_35 ?_
          refine lv_iload_n hx hb dX0_begin_38 rfl (lv_at hl 0 rfl) ?_
          refine lv_lconst (v := 0) hx hb dX0_begin_39 (by decide) ?_
          refine va_last hx hb hK hP hD hS 3 1 rfl rfl (vp_in_nI (by omega) (by decide)) dX0_begin_40 (fun H_8 locs_8 hP1 hD1 hS1 => ?_)
          rw [show vp_updL (ovL fs i28 0) (nI i28 : Int32).toNatClampNeg 0 = (ovL fs (i28 + 1) 0) from ovL_st fs 0 (by omega)] at hP1 hD1
          replace hP : va_P (dC, dI) vwCl [(fh, .inr (0, [.int 1, .ref f1, .ref f2, .ref f3, .ref f4, .ref f5, fw_lanes, fw_shortest, fw_longest, fw_leastAt, fw_greatestAt])), (f1, .inl (cI, 6, .inl (ov fl 6 0))), (f2, .inl (cI, 6, .inl (ov fg 6 0))), (f3, .inl (cJ, 6, .inr (.inl (ovL fs (i28 + 1) 0)))), (f4, .inl (cZ, 6, .inl (ov fm i28 1))), (f5, .inl (cZ, 40, .inl fk))] H_8 := hP1
          replace hD : va_D A [(fh, .inr (0, [.int 1, .ref f1, .ref f2, .ref f3, .ref f4, .ref f5, fw_lanes, fw_shortest, fw_longest, fw_leastAt, fw_greatestAt])), (f1, .inl (cI, 6, .inl (ov fl 6 0))), (f2, .inl (cI, 6, .inl (ov fg 6 0))), (f3, .inl (cJ, 6, .inr (.inl (ovL fs (i28 + 1) 0)))), (f4, .inl (cZ, 6, .inl (ov fm i28 1))), (f5, .inl (cZ, 40, .inl fk))] := hD1
          replace hS := hS1
          clear hP1 hD1 hS1
          refine lv_aload_n hx hb dX0_begin_41 rfl (lv_at hl 1 rfl) ?_
          refine va_get (D := (dC, dI)) (ci := 0) (v := .ref f4) (C := RX0) (T := TX0) (N := 11) hx hb hts inc_X0_begin_X0 hown hK hP 0 rfl rfl 4 (by decide) (hts (.fieldLink RX0 26 "ArraySegments$Facts" "maybeNull" "[Z") (List.mem_of_getElem? (i := 4) rfl)) (fun _ h9 => h9) rfl dX0_begin_42 ?_
          refine lv_iload_n hx hb dX0_begin_45 rfl (lv_at hl 0 rfl) ?_
          refine lv_iconst (v := 1) hx hb dX0_begin_46 (by decide) ?_
          refine va_zast hx hb hK hP hD hS 4 2 rfl rfl (vp_in_nI (by omega) (by decide)) dX0_begin_47 (fun H_9 locs_9 hP1 hD1 hS1 => ?_)
          rw [show upd (ov fm i28 1) (nI i28 : Int32).toNatClampNeg (vp_nar .boolean 1) = (ov fm (i28 + 1) 1) from ov_stZ fm 1 (by omega) (by decide)] at hP1 hD1
          replace hP : va_P (dC, dI) vwCl [(fh, .inr (0, [.int 1, .ref f1, .ref f2, .ref f3, .ref f4, .ref f5, fw_lanes, fw_shortest, fw_longest, fw_leastAt, fw_greatestAt])), (f1, .inl (cI, 6, .inl (ov fl 6 0))), (f2, .inl (cI, 6, .inl (ov fg 6 0))), (f3, .inl (cJ, 6, .inr (.inl (ovL fs (i28 + 1) 0)))), (f4, .inl (cZ, 6, .inl (ov fm (i28 + 1) 1))), (f5, .inl (cZ, 40, .inl fk))] H_9 := hP1
          replace hD : va_D A [(fh, .inr (0, [.int 1, .ref f1, .ref f2, .ref f3, .ref f4, .ref f5, fw_lanes, fw_shortest, fw_longest, fw_leastAt, fw_greatestAt])), (f1, .inl (cI, 6, .inl (ov fl 6 0))), (f2, .inl (cI, 6, .inl (ov fg 6 0))), (f3, .inl (cJ, 6, .inr (.inl (ovL fs (i28 + 1) 0)))), (f4, .inl (cZ, 6, .inl (ov fm (i28 + 1) 1))), (f5, .inl (cZ, 40, .inl fk))] := hD1
          replace hS := hS1
          clear hP1 hD1 hS1
          refine lv_iinc (v := nI (i28 + 1)) (lv' := [(1, .int (nI (i28 + 1))), (0, .ref fh)]) hx hb dX0_begin_48 hl (k := 0) rfl (by rw [show Int32.ofInt 1 = (1 : Int32) from by decide]; exact nI_1 _) (by decide) rfl (fun ls1 hl1 => ?_)
          replace hl := hl1; clear hl1
          refine lv_goto (tgt := 28) hx hb dX0_begin_51 (by decide) ?_
          exact ih_28 _ _ _ (hP.sub [0, 1, 2, 3, 4, 5] rfl) (hD.sub [0, 1, 2, 3, 4, 5] (by decide) rfl) hS (lv_sub hl [0, 1] rfl)
    · exact absurd (by decide) c_2
  · -- once
    replace hP : va_P (dC, dI) vwCl [(fh, .inr (0, [.int 1, .ref f1, .ref f2, .ref f3, .ref f4, .ref f5, fw_lanes, fw_shortest, fw_longest, fw_leastAt, fw_greatestAt])), (f1, .inl (cI, 6, .inl (ov fl i7 0))), (f2, .inl (cI, 6, .inl (ov fg i7 0))), (f3, .inl (cJ, 6, .inr (.inl fs))), (f4, .inl (cZ, 6, .inl fm)), (f5, .inl (cZ, 40, .inl fk))] H_7 := hP1
    replace hD : va_D A [(fh, .inr (0, [.int 1, .ref f1, .ref f2, .ref f3, .ref f4, .ref f5, fw_lanes, fw_shortest, fw_longest, fw_leastAt, fw_greatestAt])), (f1, .inl (cI, 6, .inl (ov fl i7 0))), (f2, .inl (cI, 6, .inl (ov fg i7 0))), (f3, .inl (cJ, 6, .inr (.inl fs))), (f4, .inl (cZ, 6, .inl fm)), (f5, .inl (cZ, 40, .inl fk))] := hD1
    replace hS := hS1
    clear hP1 hD1 hS1
    replace hl : lv_has ls1 2 [(1, .int (nI i7)), (0, .ref fh)] := hl1
    clear hl1
    refine lv_iload_n hx hb dX0_begin_7 rfl (lv_at hl 0 rfl) ?_
    refine lv_bipush (v := 6) hx hb dX0_begin_8 (by decide) ?_
    refine lv_icmp_ge (tgt := 26) hx hb dX0_begin_10 (by decide) (fun c_10 => ?_) (fun c_10 => ?_)
    · exact absurd c_10 (nI_ge hlt_i7 (by decide))
    · -- on
      refine lv_aload_n hx hb dX0_begin_13 rfl (lv_at hl 1 rfl) ?_
      refine lv_iload_n hx hb dX0_begin_14 rfl (lv_at hl 0 rfl) ?_
      refine lv_iconst (v := 0) hx hb dX0_begin_15 (by decide) ?_
      refine lv_iconst (v := 0) hx hb dX0_begin_16 (by decide) ?_
      have hPc := hP.sub (ws' := [(fh, .inr (0, [.int 1, .ref f1, .ref f2, .ref f3, .ref f4, .ref f5, fw_lanes, fw_shortest, fw_longest, fw_leastAt, fw_greatestAt])), (f1, .inl (cI, 6, .inl (ov fl i7 0))), (f2, .inl (cI, 6, .inl (ov fg i7 0)))]) [0, 1, 2] rfl
      have hDc := hD.sub (ws' := [(fh, .inr (0, [.int 1, .ref f1, .ref f2, .ref f3, .ref f4, .ref f5, fw_lanes, fw_shortest, fw_longest, fw_leastAt, fw_greatestAt])), (f1, .inl (cI, 6, .inl (ov fl i7 0))), (f2, .inl (cI, 6, .inl (ov fg i7 0)))]) [0, 1, 2] (by decide) rfl
      have hFc := va_free (wc := [(fh, .inr (0, [.int 1, .ref f1, .ref f2, .ref f3, .ref f4, .ref f5, fw_lanes, fw_shortest, fw_longest, fw_leastAt, fw_greatestAt])), (f1, .inl (cI, 6, .inl (ov fl i7 0))), (f2, .inl (cI, 6, .inl (ov fg i7 0)))]) hD hS hA [0, 1, 2] rfl
      refine va_callv (va_runV (As := [.int (nI i7), .int 0, .int 0]) (rest := []) ⟨hx, hb, hml, hown, hts⟩ (c_X0_setSpan l dC dI cI cJ cZ fh f1 f2 1 (.ref f3) (.ref f4) (.ref f5) fw_lanes fw_shortest fw_longest fw_leastAt fw_greatestAt (ov fl i7 0) (ov fg i7 0) (nI i7) 0 0 H_7.size (v6_nI (by omega))) (cwV 3 hts g_X0_begin_X0_setSpan_48 rfl rfl rfl (by decide +kernel) ⟨Nat.le_of_ble_eq_true rfl, Nat.le_of_ble_eq_true rfl⟩) ⟨cPre_blind, va_recv hK hPc (ci := 0) (q0 := 0) rfl rfl, cPre_of hK hN hPc hDc⟩ rfl rfl hl.1 rfl (lv_room (Nat.le_of_ble_eq_true rfl)) dX0_begin_17 ⟨Nat.le_of_ble_eq_true rfl, Nat.le_of_ble_eq_true rfl⟩) hS (fun q _ h => hFc q h) hFc (fun u_11 t_11 H_11 locs_11 ht hvm hw_11 hB hz1 hk1 hS1 => ?_)
      obtain ⟨hP1, hK1, hD1⟩ := hB
      rw [ht] at hP1
      obtain ⟨hP2, hD2⟩ := va_join (wr := [(f3, .inl (cJ, 6, .inr (.inl fs))), (f4, .inl (cZ, 6, .inl fm)), (f5, .inl (cZ, 40, .inl fk))]) (w1 := [(fh, .inr (0, [.int 1, .ref f1, .ref f2, .ref f3, .ref f4, .ref f5, fw_lanes, fw_shortest, fw_longest, fw_leastAt, fw_greatestAt])), (f1, .inl (cI, 6, .inl (upd (ov fl i7 0) (((nI i7)).toNatClampNeg) 0))), (f2, .inl (cI, 6, .inl (upd (ov fg i7 0) (((nI i7)).toNatClampNeg) 0)))]) hP hD [0, 1, 2] [3, 4, 5] rfl rfl (by decide) (by decide) hk1 hFc hP1 hD1
      clear hPc hDc hFc hP1 hD1 hK1 hk1 hz1 hvm ht
      replace hP : va_P (dC, dI) vwCl [(f3, .inl (cJ, 6, .inr (.inl fs))), (f4, .inl (cZ, 6, .inl fm)), (f5, .inl (cZ, 40, .inl fk)), (fh, .inr (0, [.int 1, .ref f1, .ref f2, .ref f3, .ref f4, .ref f5, fw_lanes, fw_shortest, fw_longest, fw_leastAt, fw_greatestAt])), (f1, .inl (cI, 6, .inl (upd (ov fl i7 0) (((nI i7)).toNatClampNeg) 0))), (f2, .inl (cI, 6, .inl (upd (ov fg i7 0) (((nI i7)).toNatClampNeg) 0)))] H_11 := hP2
      replace hD : va_D A [(f3, .inl (cJ, 6, .inr (.inl fs))), (f4, .inl (cZ, 6, .inl fm)), (f5, .inl (cZ, 40, .inl fk)), (fh, .inr (0, [.int 1, .ref f1, .ref f2, .ref f3, .ref f4, .ref f5, fw_lanes, fw_shortest, fw_longest, fw_leastAt, fw_greatestAt])), (f1, .inl (cI, 6, .inl (upd (ov fl i7 0) (((nI i7)).toNatClampNeg) 0))), (f2, .inl (cI, 6, .inl (upd (ov fg i7 0) (((nI i7)).toNatClampNeg) 0)))] := hD2
      replace hS := hS1
      clear hP2 hD2 hS1
      rw [ov_st fl (i := i7) 0 (by omega)] at hP hD
      rw [ov_st fg (i := i7) 0 (by omega)] at hP hD
      refine lv_iinc (v := nI (i7 + 1)) (lv' := [(1, .int (nI (i7 + 1))), (0, .ref fh)]) hx hb dX0_begin_20 hl (k := 0) rfl (by rw [show Int32.ofInt 1 = (1 : Int32) from by decide]; exact nI_1 _) (by decide) rfl (fun ls1 hl1 => ?_)
      replace hl := hl1; clear hl1
      refine lv_goto (tgt := 7) hx hb dX0_begin_23 (by decide) ?_
      exact ih_7 _ _ _ (hP.sub [3, 4, 5, 0, 1, 2] rfl) (hD.sub [3, 4, 5, 0, 1, 2] (by decide) rfl) hS (lv_sub hl [0, 1] rfl)

def w_X0_countKnown : List Cond := .code yX0_countKnown cX0_countKnown 3 (some .int) :: ([.fieldLink RX0 30 "ArraySegments$Facts" "known" "[Z"] ++ wsX00)
theorem inc_X0_countKnown_X0 : ∀ w ∈ wsX00, w ∈ w_X0_countKnown := fun _ h => List.mem_cons_of_mem _ (List.mem_append_right _ h)
abbrev pw_X0_countKnown (cI cJ cZ : ClassId) (fh : Nat) (f5 : Nat) (fx_isReached : Value) (fx_least : Value) (fx_greatest : Value) (fx_sites : Value) (fx_maybeNull : Value) (fx_lanes : Value) (fx_shortest : Value) (fx_longest : Value) (fx_leastAt : Value) (fx_greatestAt : Value) (fk : Nat → Int32) : va_W := [(fh, .inr (0, [fx_isReached, fx_least, fx_greatest, fx_sites, fx_maybeNull, .ref f5, fx_lanes, fx_shortest, fx_longest, fx_leastAt, fx_greatestAt])), (f5, .inl (cZ, 40, .inl (ov fk 40 0)))]
set_option maxHeartbeats 4000000 in
set_option maxRecDepth 100000 in
theorem c_X0_countKnown (l : Launch) (dC : Nat → ClassId) (dI : Nat → Nat → Nat) (cI cJ cZ : ClassId) (fh : Nat) (f5 : Nat) (fx_isReached : Value) (fx_least : Value) (fx_greatest : Value) (fx_sites : Value) (fx_maybeNull : Value) (fx_lanes : Value) (fx_shortest : Value) (fx_longest : Value) (fx_leastAt : Value) (fx_greatestAt : Value) (fk : Nat → Int32) (sz : Nat) : Met l yX0_countKnown w_X0_countKnown ({ frames := 0, cells := 0, slots := 0, locals := 0 }) (va_Pc [.ref fh] (cPre dC dI cI cJ cZ sz (pw_X0_countKnown cI cJ cZ fh f5 fx_isReached fx_least fx_greatest fx_sites fx_maybeNull fx_lanes fx_shortest fx_longest fx_leastAt fx_greatestAt fk))) (va_Qi (fun (r : Int32) (u : Nat → Nat) => r = 0) (fun (u : Nat → Nat) => cPost dC dI cI cJ cZ (va_A (pw_X0_countKnown cI cJ cZ fh f5 fx_isReached fx_least fx_greatest fx_sites fx_maybeNull fx_lanes fx_shortest fx_longest fx_leastAt fx_greatestAt fk) sz) [(fh, .inr (0, [fx_isReached, fx_least, fx_greatest, fx_sites, fx_maybeNull, .ref f5, fx_lanes, fx_shortest, fx_longest, fx_leastAt, fx_greatestAt])), (f5, .inl (cZ, 40, .inl (ov fk 40 0)))]) (va_A (pw_X0_countKnown cI cJ cZ fh f5 fx_isReached fx_least fx_greatest fx_sites fx_maybeNull fx_lanes fx_shortest fx_longest fx_leastAt fx_greatestAt fk) sz)) 0 0 (va_A (pw_X0_countKnown cI cJ cZ fh f5 fx_isReached fx_least fx_greatest fx_sites fx_maybeNull fx_lanes fx_shortest fx_longest fx_leastAt fx_greatestAt fk) sz) := by
  refine Met.ofW (cc := cX0_countKnown) (maxL := 3) (ret := (some .int)) (by decide) rfl ?_
  intro p e s m args below meth c s₁ B hml hv
  obtain ⟨rfl, hsz, hP, hK, hD0, hN⟩ := hv
  have hx := B.exec
  have hb := B.bytes
  have hr := B.returns
  have hts := atoms_spec (ws := w_X0_countKnown) B.pre
  have hown : s.vm.findClass RX0 = some m.cls := findClass_of_methodNamed B.named
  have hlocks := B.notSynchronized
  subst hsz
  have hD := hD0.self (sz := s.heap.size)
  generalize hAe : va_A (pw_X0_countKnown cI cJ cZ fh f5 fx_isReached fx_least fx_greatest fx_sites fx_maybeNull fx_lanes fx_shortest fx_longest fx_leastAt fx_greatestAt fk) s.heap.size = A at hD ⊢
  have hA : ∀ q : Nat, s.heap.size ≤ q → A q := fun q h => by rw [← hAe]; exact Or.inr h
  clear hAe hD0
  have hS : va_S A s.heap s.heap [] := va_S.rf
  replace hP : va_P (dC, dI) vwCl [(fh, .inr (0, [fx_isReached, fx_least, fx_greatest, fx_sites, fx_maybeNull, .ref f5, fx_lanes, fx_shortest, fx_longest, fx_leastAt, fx_greatestAt])), (f5, .inl (cZ, 40, .inl (ov fk 40 0)))] s.heap := hP
  replace hD : va_D A [(fh, .inr (0, [fx_isReached, fx_least, fx_greatest, fx_sites, fx_maybeNull, .ref f5, fx_lanes, fx_shortest, fx_longest, fx_leastAt, fx_greatestAt])), (f5, .inl (cZ, 40, .inl (ov fk 40 0)))] := hD
  have hl := lv_entry ([.ref fh]) (n := 3) (Nat.le_of_ble_eq_true rfl)
  rw [lg_entry_eq]
  generalize (lg_sl ([.ref fh]) ++ List.replicate (3 - (lg_sl ([.ref fh])).length) Slot.unset).toArray = ls at hl ⊢
  replace hl : lv_has ls 3 [(0, .ref fh)] := hl
  refine lv_iconst (v := 0) hx hb dX0_countKnown_0 (by decide) ?_
  refine lv_istore_n (lv' := [(1, .int 0), (0, .ref fh)]) hx hb dX0_countKnown_1 rfl hl (by decide) rfl (fun ls1 hl1 => ?_)
  replace hl := hl1; clear hl1
  refine lv_iconst (v := 0) hx hb dX0_countKnown_2 (by decide) ?_
  refine lv_istore_n (lv' := [(2, .int 0), (1, .int 0), (0, .ref fh)]) hx hb dX0_countKnown_3 rfl hl (by decide) rfl (fun ls1 hl1 => ?_)
  replace hl := hl1; clear hl1
  refine my_loop 40 (fun i => [(fh, .inr (0, [fx_isReached, fx_least, fx_greatest, fx_sites, fx_maybeNull, .ref f5, fx_lanes, fx_shortest, fx_longest, fx_leastAt, fx_greatestAt])), (f5, .inl (cZ, 40, .inl (ov fk 40 0)))]) (fun i => [(2, .int (nI i)), (1, .int 0), (0, .ref fh)]) (H0 := s.heap) (A := A) (D := (dC, dI)) (cl := vwCl) (by first | (simp only [ov_0, ovL_0]; exact hP) | exact hP) (by first | (simp only [ov_0, ovL_0]; exact hD) | exact hD) hS (by exact hl) (fun H_4 locs_4 ls1 hP1 hD1 hS1 hl1 => ?_) (fun i4 hlt_i4 ih_4 H_4 locs_4 ls1 hP1 hD1 hS1 hl1 => ?_)
  · -- behind
    replace hP : va_P (dC, dI) vwCl [(fh, .inr (0, [fx_isReached, fx_least, fx_greatest, fx_sites, fx_maybeNull, .ref f5, fx_lanes, fx_shortest, fx_longest, fx_leastAt, fx_greatestAt])), (f5, .inl (cZ, 40, .inl (ov fk 40 0)))] H_4 := hP1
    replace hD : va_D A [(fh, .inr (0, [fx_isReached, fx_least, fx_greatest, fx_sites, fx_maybeNull, .ref f5, fx_lanes, fx_shortest, fx_longest, fx_leastAt, fx_greatestAt])), (f5, .inl (cZ, 40, .inl (ov fk 40 0)))] := hD1
    replace hS := hS1
    clear hP1 hD1 hS1
    replace hl : lv_has ls1 3 [(2, .int (nI 40)), (1, .int 0), (0, .ref fh)] := hl1
    clear hl1
    refine lv_iload_n hx hb dX0_countKnown_4 rfl (lv_at hl 0 rfl) ?_
    refine lv_bipush (v := 40) hx hb dX0_countKnown_5 (by decide) ?_
    refine lv_icmp_ge (tgt := 28) hx hb dX0_countKnown_7 (by decide) (fun c_1 => ?_) (fun c_1 => ?_)
    · -- on
      refine lv_iload_n hx hb dX0_countKnown_28 rfl (lv_at hl 1 rfl) ?_
      have hP9 := hP.sub (ws' := [(fh, .inr (0, [fx_isReached, fx_least, fx_greatest, fx_sites, fx_maybeNull, .ref f5, fx_lanes, fx_shortest, fx_longest, fx_leastAt, fx_greatestAt])), (f5, .inl (cZ, 40, .inl (ov fk 40 0)))]) [0, 1] rfl
      have hD9 := hD.sub (ws' := [(fh, .inr (0, [fx_isReached, fx_least, fx_greatest, fx_sites, fx_maybeNull, .ref f5, fx_lanes, fx_shortest, fx_longest, fx_leastAt, fx_greatestAt])), (f5, .inl (cZ, 40, .inl (ov fk 40 0)))]) [0, 1] (by decide) rfl
      exact W.iret (v := 0) hx hb hr (fun t ht hW => ⟨⟨0, (fun _ => 0), rfl, rfl, by rw [ht]; exact hP9, va_K.moved hW.alike hK, hD9⟩, hS.F ht⟩) hS.2.2 dX0_countKnown_29
    · exact absurd (by decide) c_1
  · -- once
    replace hP : va_P (dC, dI) vwCl [(fh, .inr (0, [fx_isReached, fx_least, fx_greatest, fx_sites, fx_maybeNull, .ref f5, fx_lanes, fx_shortest, fx_longest, fx_leastAt, fx_greatestAt])), (f5, .inl (cZ, 40, .inl (ov fk 40 0)))] H_4 := hP1
    replace hD : va_D A [(fh, .inr (0, [fx_isReached, fx_least, fx_greatest, fx_sites, fx_maybeNull, .ref f5, fx_lanes, fx_shortest, fx_longest, fx_leastAt, fx_greatestAt])), (f5, .inl (cZ, 40, .inl (ov fk 40 0)))] := hD1
    replace hS := hS1
    clear hP1 hD1 hS1
    replace hl : lv_has ls1 3 [(2, .int (nI i4)), (1, .int 0), (0, .ref fh)] := hl1
    clear hl1
    refine lv_iload_n hx hb dX0_countKnown_4 rfl (lv_at hl 0 rfl) ?_
    refine lv_bipush (v := 40) hx hb dX0_countKnown_5 (by decide) ?_
    refine lv_icmp_ge (tgt := 28) hx hb dX0_countKnown_7 (by decide) (fun c_2 => ?_) (fun c_2 => ?_)
    · exact absurd c_2 (nI_ge hlt_i4 (by decide))
    · -- on
      refine lv_aload_n hx hb dX0_countKnown_10 rfl (lv_at hl 2 rfl) ?_
      refine va_get (D := (dC, dI)) (ci := 0) (v := .ref f5) (C := RX0) (T := TX0) (N := 11) hx hb hts inc_X0_countKnown_X0 hown hK hP 0 rfl rfl 5 (by decide) (hts (.fieldLink RX0 30 "ArraySegments$Facts" "known" "[Z") (List.mem_of_getElem? (i := 1) rfl)) (fun _ h9 => h9) rfl dX0_countKnown_11 ?_
      refine lv_iload_n hx hb dX0_countKnown_14 rfl (lv_at hl 0 rfl) ?_
      refine va_zald hx hb hK hP 1 2 rfl rfl (vp_in_nI (by omega) (by decide)) dX0_countKnown_15 ?_
      refine my_topi (y := 0) (ov_nI fk 0 (by omega) (by decide)) ?_
      refine lv_if_eq (tgt := 22) hx hb dX0_countKnown_16 (by decide) (fun c_3 => ?_) (fun c_3 => ?_)
      · -- on
        refine lv_iinc (v := nI (i4 + 1)) (lv' := [(2, .int (nI (i4 + 1))), (1, .int 0), (0, .ref fh)]) hx hb dX0_countKnown_22 hl (k := 0) rfl (by rw [show Int32.ofInt 1 = (1 : Int32) from by decide]; exact nI_1 _) (by decide) rfl (fun ls1 hl1 => ?_)
        replace hl := hl1; clear hl1
        refine lv_goto (tgt := 4) hx hb dX0_countKnown_25 (by decide) ?_
        exact ih_4 _ _ _ (hP.sub [0, 1] rfl) (hD.sub [0, 1] (by decide) rfl) hS (lv_sub hl [0, 1, 2] rfl)
      · exact absurd (by decide) c_3

def w_X0_init : List Cond := .code yX0_init cX0_init 1 none :: ([.methodLink RX0 3 objectInit, .instanceMethod objectInit, .code objectInit ⟨#[0xb1]⟩ 1 none, .fieldLink RX0 9 "ArraySegments$Facts" "isReached" "Z", .arrayClass .int, .fieldLink RX0 15 "ArraySegments$Facts" "least" "[I", .fieldLink RX0 19 "ArraySegments$Facts" "greatest" "[I", .arrayClass .long, .fieldLink RX0 22 "ArraySegments$Facts" "sites" "[J", .arrayClass .boolean, .fieldLink RX0 26 "ArraySegments$Facts" "maybeNull" "[Z", .fieldLink RX0 30 "ArraySegments$Facts" "known" "[Z", .fieldLink RX0 33 "ArraySegments$Facts" "lanes" "[I", .fieldLink RX0 36 "ArraySegments$Facts" "shortest" "[I", .fieldLink RX0 39 "ArraySegments$Facts" "longest" "[I", .fieldLink RX0 42 "ArraySegments$Facts" "leastAt" "[I", .fieldLink RX0 45 "ArraySegments$Facts" "greatestAt" "[I"] ++ wsX00)
theorem inc_X0_init_X0 : ∀ w ∈ wsX00, w ∈ w_X0_init := fun _ h => List.mem_cons_of_mem _ (List.mem_append_right _ h)
abbrev pw_X0_init (cI cJ cZ : ClassId) (fh : Nat) : va_W := [(fh, .inr (0, [.int 0, .null, .null, .null, .null, .null, .null, .null, .null, .null, .null]))]
set_option maxHeartbeats 4000000 in
set_option maxRecDepth 100000 in
theorem c_X0_init (l : Launch) (dC : Nat → ClassId) (dI : Nat → Nat → Nat) (cI cJ cZ : ClassId) (fh : Nat) (sz : Nat) : Met l yX0_init w_X0_init ({ frames := 1, cells := 10, slots := 1144, locals := 12 }) (va_Pc [.ref fh] (cPre dC dI cI cJ cZ sz (pw_X0_init cI cJ cZ fh))) (va_Qv (fun (u : Nat → Nat) => True) (fun (u : Nat → Nat) => cPost dC dI cI cJ cZ (va_A (pw_X0_init cI cJ cZ fh) sz) [(fh, .inr (0, [.int 0, .ref (u 0), .ref (u 1), .ref (u 2), .ref (u 3), .ref (u 4), .ref (u 5), .ref (u 6), .ref (u 7), .ref (u 8), .ref (u 9)])), ((u 0), .inl (cI, 6, .inl (fun _ => 0))), ((u 1), .inl (cI, 6, .inl (fun _ => 0))), ((u 2), .inl (cJ, 6, .inr (.inl (fun _ => 0)))), ((u 3), .inl (cZ, 6, .inl (fun _ => 0))), ((u 4), .inl (cZ, 40, .inl (fun _ => 0))), ((u 5), .inl (cI, 40, .inl (fun _ => 0))), ((u 6), .inl (cI, 40, .inl (fun _ => 0))), ((u 7), .inl (cI, 40, .inl (fun _ => 0))), ((u 8), .inl (cI, 480, .inl (fun _ => 0))), ((u 9), .inl (cI, 480, .inl (fun _ => 0)))]) (va_A (pw_X0_init cI cJ cZ fh) sz)) 10 1144 (va_A (pw_X0_init cI cJ cZ fh) sz) := by
  refine Met.ofW (cc := cX0_init) (maxL := 1) (ret := none) (by decide) rfl ?_
  intro p e s m args below meth c s₁ B hml hv
  obtain ⟨rfl, hsz, hP, hK, hD0, hN⟩ := hv
  have hx := B.exec
  have hb := B.bytes
  have hr := B.returns
  have hts := atoms_spec (ws := w_X0_init) B.pre
  have hown : s.vm.findClass RX0 = some m.cls := findClass_of_methodNamed B.named
  have hlocks := B.notSynchronized
  have hin : meth.name = "<init>" := (name_of_methodNamed B.named B.method).1
  subst hsz
  have hD := hD0.self (sz := s.heap.size)
  generalize hAe : va_A (pw_X0_init cI cJ cZ fh) s.heap.size = A at hD ⊢
  have hA : ∀ q : Nat, s.heap.size ≤ q → A q := fun q h => by rw [← hAe]; exact Or.inr h
  clear hAe hD0
  have hS : va_S A s.heap s.heap [] := va_S.rf
  replace hP : va_P (dC, dI) vwCl [(fh, .inr (0, [.int 0, .null, .null, .null, .null, .null, .null, .null, .null, .null, .null]))] s.heap := hP
  replace hD : va_D A [(fh, .inr (0, [.int 0, .null, .null, .null, .null, .null, .null, .null, .null, .null, .null]))] := hD
  have hl := lv_entry ([.ref fh]) (n := 1) (Nat.le_of_ble_eq_true rfl)
  rw [lg_entry_eq]
  generalize (lg_sl ([.ref fh]) ++ List.replicate (1 - (lg_sl ([.ref fh])).length) Slot.unset).toArray = ls at hl ⊢
  replace hl : lv_has ls 1 [(0, .ref fh)] := hl
  refine lv_aload_n hx hb dX0_init_0 rfl (lv_at hl 0 rfl) ?_
  refine W.objInit hx hb hown (hts (.methodLink RX0 3 objectInit) (List.mem_of_getElem? (i := 1) rfl)) (hts (.instanceMethod objectInit) (List.mem_of_getElem? (i := 2) rfl)) (hts (.code objectInit ⟨#[0xb1]⟩ 1 none) (List.mem_of_getElem? (i := 3) rfl)) rfl (by rw [hml]; exact hl.1) rfl dX0_init_1 (Nat.le_of_ble_eq_true rfl) (Nat.le_of_ble_eq_true rfl) ?_
  refine W.eq (g2 := F0 m 4 _ []) rfl ?_
  refine lv_aload_n hx hb dX0_init_4 rfl (lv_at hl 0 rfl) ?_
  refine lv_iconst (v := 0) hx hb dX0_init_5 (by decide) ?_
  refine va_put (D := (dC, dI)) (ci := 0) (v := .int 0) (ty := .boolean) (C := RX0) (T := TX0) (N := 11) hx hb hts inc_X0_init_X0 tyX0 tyX0_ok nmX0 hown hK hP hD hS 0 rfl rfl 0 (by decide) (hts (.fieldLink RX0 9 "ArraySegments$Facts" "isReached" "Z") (List.mem_of_getElem? (i := 4) rfl)) (fun _ h9 => h9) rfl (by decide +kernel) rfl rfl (Nat.le_of_ble_eq_true rfl) dX0_init_6 (fun H_1 locs_1 hP1 hD1 hS1 => ?_)
  replace hP : va_P (dC, dI) vwCl [(fh, .inr (0, [.int 0, .null, .null, .null, .null, .null, .null, .null, .null, .null, .null]))] H_1 := hP1
  replace hD : va_D A [(fh, .inr (0, [.int 0, .null, .null, .null, .null, .null, .null, .null, .null, .null, .null]))] := hD1
  replace hS := hS1
  clear hP1 hD1 hS1
  refine lv_aload_n hx hb dX0_init_9 rfl (lv_at hl 0 rfl) ?_
  refine lv_bipush (v := 6) hx hb dX0_init_10 (by decide) ?_
  refine my_newaI hx hb (hts (.arrayClass .int) (List.mem_of_getElem? (i := 5) rfl)) hK hP hD hS hA (N' := 6) (by decide) (by decide) (by decide) (Nat.le_of_ble_eq_true rfl) (Nat.le_of_ble_eq_true rfl) dX0_init_12 (fun q_2 H_2 hP1 hD1 hS1 => ?_)
  replace hP : va_P (dC, dI) vwCl [(fh, .inr (0, [.int 0, .null, .null, .null, .null, .null, .null, .null, .null, .null, .null])), (q_2, .inl (cI, 6, .inl (fun _ => 0)))] H_2 := hP1
  replace hD : va_D A [(fh, .inr (0, [.int 0, .null, .null, .null, .null, .null, .null, .null, .null, .null, .null])), (q_2, .inl (cI, 6, .inl (fun _ => 0)))] := hD1
  replace hS := hS1
  clear hP1 hD1 hS1
  refine W.widen (k := 1) (n := 6) (Nat.le_of_ble_eq_true rfl) (Nat.le_of_ble_eq_true rfl) ?_
  refine va_putF (D := (dC, dI)) (ci := 0) (v := .ref q_2) (ty := .array .int) (C := RX0) (T := TX0) (N := 11) hx hb hts inc_X0_init_X0 tyX0 tyX0_ok nmX0 hown hK hP hD hS 0 rfl rfl 1 (by decide) (hts (.fieldLink RX0 15 "ArraySegments$Facts" "least" "[I") (List.mem_of_getElem? (i := 6) rfl)) (fun _ h9 => h9) rfl hin rfl (by decide +kernel) rfl rfl (Nat.le_of_ble_eq_true rfl) dX0_init_14 (fun H_3 locs_3 hP1 hD1 hS1 => ?_)
  replace hP : va_P (dC, dI) vwCl [(fh, .inr (0, [.int 0, .ref q_2, .null, .null, .null, .null, .null, .null, .null, .null, .null])), (q_2, .inl (cI, 6, .inl (fun _ => 0)))] H_3 := hP1
  replace hD : va_D A [(fh, .inr (0, [.int 0, .ref q_2, .null, .null, .null, .null, .null, .null, .null, .null, .null])), (q_2, .inl (cI, 6, .inl (fun _ => 0)))] := hD1
  replace hS := hS1
  clear hP1 hD1 hS1
  refine lv_aload_n hx hb dX0_init_17 rfl (lv_at hl 0 rfl) ?_
  refine lv_bipush (v := 6) hx hb dX0_init_18 (by decide) ?_
  refine my_newaI hx hb (hts (.arrayClass .int) (List.mem_of_getElem? (i := 5) rfl)) hK hP hD hS hA (N' := 6) (by decide) (by decide) (by decide) (Nat.le_of_ble_eq_true rfl) (Nat.le_of_ble_eq_true rfl) dX0_init_20 (fun q_4 H_4 hP1 hD1 hS1 => ?_)
  replace hP : va_P (dC, dI) vwCl [(fh, .inr (0, [.int 0, .ref q_2, .null, .null, .null, .null, .null, .null, .null, .null, .null])), (q_2, .inl (cI, 6, .inl (fun _ => 0))), (q_4, .inl (cI, 6, .inl (fun _ => 0)))] H_4 := hP1
  replace hD : va_D A [(fh, .inr (0, [.int 0, .ref q_2, .null, .null, .null, .null, .null, .null, .null, .null, .null])), (q_2, .inl (cI, 6, .inl (fun _ => 0))), (q_4, .inl (cI, 6, .inl (fun _ => 0)))] := hD1
  replace hS := hS1
  clear hP1 hD1 hS1
  refine W.widen (k := 2) (n := 12) (Nat.le_of_ble_eq_true rfl) (Nat.le_of_ble_eq_true rfl) ?_
  refine va_putF (D := (dC, dI)) (ci := 0) (v := .ref q_4) (ty := .array .int) (C := RX0) (T := TX0) (N := 11) hx hb hts inc_X0_init_X0 tyX0 tyX0_ok nmX0 hown hK hP hD hS 0 rfl rfl 2 (by decide) (hts (.fieldLink RX0 19 "ArraySegments$Facts" "greatest" "[I") (List.mem_of_getElem? (i := 7) rfl)) (fun _ h9 => h9) rfl hin rfl (by decide +kernel) rfl rfl (Nat.le_of_ble_eq_true rfl) dX0_init_22 (fun H_5 locs_5 hP1 hD1 hS1 => ?_)
  replace hP : va_P (dC, dI) vwCl [(fh, .inr (0, [.int 0, .ref q_2, .ref q_4, .null, .null, .null, .null, .null, .null, .null, .null])), (q_2, .inl (cI, 6, .inl (fun _ => 0))), (q_4, .inl (cI, 6, .inl (fun _ => 0)))] H_5 := hP1
  replace hD : va_D A [(fh, .inr (0, [.int 0, .ref q_2, .ref q_4, .null, .null, .null, .null, .null, .null, .null, .null])), (q_2, .inl (cI, 6, .inl (fun _ => 0))), (q_4, .inl (cI, 6, .inl (fun _ => 0)))] := hD1
  replace hS := hS1
  clear hP1 hD1 hS1
  refine lv_aload_n hx hb dX0_init_25 rfl (lv_at hl 0 rfl) ?_
  refine lv_bipush (v := 6) hx hb dX0_init_26 (by decide) ?_
  refine my_newaJ hx hb (hts (.arrayClass .long) (List.mem_of_getElem? (i := 8) rfl)) hK hP hD hS hA (N' := 6) (by decide) (by decide) (by decide) (Nat.le_of_ble_eq_true rfl) (Nat.le_of_ble_eq_true rfl) dX0_init_28 (fun q_6 H_6 hP1 hD1 hS1 => ?_)
  replace hP : va_P (dC, dI) vwCl [(fh, .inr (0, [.int 0, .ref q_2, .ref q_4, .null, .null, .null, .null, .null, .null, .null, .null])), (q_2, .inl (cI, 6, .inl (fun _ => 0))), (q_4, .inl (cI, 6, .inl (fun _ => 0))), (q_6, .inl (cJ, 6, .inr (.inl (fun _ => 0))))] H_6 := hP1
  replace hD : va_D A [(fh, .inr (0, [.int 0, .ref q_2, .ref q_4, .null, .null, .null, .null, .null, .null, .null, .null])), (q_2, .inl (cI, 6, .inl (fun _ => 0))), (q_4, .inl (cI, 6, .inl (fun _ => 0))), (q_6, .inl (cJ, 6, .inr (.inl (fun _ => 0))))] := hD1
  replace hS := hS1
  clear hP1 hD1 hS1
  refine W.widen (k := 3) (n := 18) (Nat.le_of_ble_eq_true rfl) (Nat.le_of_ble_eq_true rfl) ?_
  refine va_putF (D := (dC, dI)) (ci := 0) (v := .ref q_6) (ty := .array .long) (C := RX0) (T := TX0) (N := 11) hx hb hts inc_X0_init_X0 tyX0 tyX0_ok nmX0 hown hK hP hD hS 0 rfl rfl 3 (by decide) (hts (.fieldLink RX0 22 "ArraySegments$Facts" "sites" "[J") (List.mem_of_getElem? (i := 9) rfl)) (fun _ h9 => h9) rfl hin rfl (by decide +kernel) rfl rfl (Nat.le_of_ble_eq_true rfl) dX0_init_30 (fun H_7 locs_7 hP1 hD1 hS1 => ?_)
  replace hP : va_P (dC, dI) vwCl [(fh, .inr (0, [.int 0, .ref q_2, .ref q_4, .ref q_6, .null, .null, .null, .null, .null, .null, .null])), (q_2, .inl (cI, 6, .inl (fun _ => 0))), (q_4, .inl (cI, 6, .inl (fun _ => 0))), (q_6, .inl (cJ, 6, .inr (.inl (fun _ => 0))))] H_7 := hP1
  replace hD : va_D A [(fh, .inr (0, [.int 0, .ref q_2, .ref q_4, .ref q_6, .null, .null, .null, .null, .null, .null, .null])), (q_2, .inl (cI, 6, .inl (fun _ => 0))), (q_4, .inl (cI, 6, .inl (fun _ => 0))), (q_6, .inl (cJ, 6, .inr (.inl (fun _ => 0))))] := hD1
  replace hS := hS1
  clear hP1 hD1 hS1
  refine lv_aload_n hx hb dX0_init_33 rfl (lv_at hl 0 rfl) ?_
  refine lv_bipush (v := 6) hx hb dX0_init_34 (by decide) ?_
  refine my_newaZ hx hb (hts (.arrayClass .boolean) (List.mem_of_getElem? (i := 10) rfl)) hK hP hD hS hA (N' := 6) (by decide) (by decide) (by decide) (Nat.le_of_ble_eq_true rfl) (Nat.le_of_ble_eq_true rfl) dX0_init_36 (fun q_8 H_8 hP1 hD1 hS1 => ?_)
  replace hP : va_P (dC, dI) vwCl [(fh, .inr (0, [.int 0, .ref q_2, .ref q_4, .ref q_6, .null, .null, .null, .null, .null, .null, .null])), (q_2, .inl (cI, 6, .inl (fun _ => 0))), (q_4, .inl (cI, 6, .inl (fun _ => 0))), (q_6, .inl (cJ, 6, .inr (.inl (fun _ => 0)))), (q_8, .inl (cZ, 6, .inl (fun _ => 0)))] H_8 := hP1
  replace hD : va_D A [(fh, .inr (0, [.int 0, .ref q_2, .ref q_4, .ref q_6, .null, .null, .null, .null, .null, .null, .null])), (q_2, .inl (cI, 6, .inl (fun _ => 0))), (q_4, .inl (cI, 6, .inl (fun _ => 0))), (q_6, .inl (cJ, 6, .inr (.inl (fun _ => 0)))), (q_8, .inl (cZ, 6, .inl (fun _ => 0)))] := hD1
  replace hS := hS1
  clear hP1 hD1 hS1
  refine W.widen (k := 4) (n := 24) (Nat.le_of_ble_eq_true rfl) (Nat.le_of_ble_eq_true rfl) ?_
  refine va_putF (D := (dC, dI)) (ci := 0) (v := .ref q_8) (ty := .array .boolean) (C := RX0) (T := TX0) (N := 11) hx hb hts inc_X0_init_X0 tyX0 tyX0_ok nmX0 hown hK hP hD hS 0 rfl rfl 4 (by decide) (hts (.fieldLink RX0 26 "ArraySegments$Facts" "maybeNull" "[Z") (List.mem_of_getElem? (i := 11) rfl)) (fun _ h9 => h9) rfl hin rfl (by decide +kernel) rfl rfl (Nat.le_of_ble_eq_true rfl) dX0_init_38 (fun H_9 locs_9 hP1 hD1 hS1 => ?_)
  replace hP : va_P (dC, dI) vwCl [(fh, .inr (0, [.int 0, .ref q_2, .ref q_4, .ref q_6, .ref q_8, .null, .null, .null, .null, .null, .null])), (q_2, .inl (cI, 6, .inl (fun _ => 0))), (q_4, .inl (cI, 6, .inl (fun _ => 0))), (q_6, .inl (cJ, 6, .inr (.inl (fun _ => 0)))), (q_8, .inl (cZ, 6, .inl (fun _ => 0)))] H_9 := hP1
  replace hD : va_D A [(fh, .inr (0, [.int 0, .ref q_2, .ref q_4, .ref q_6, .ref q_8, .null, .null, .null, .null, .null, .null])), (q_2, .inl (cI, 6, .inl (fun _ => 0))), (q_4, .inl (cI, 6, .inl (fun _ => 0))), (q_6, .inl (cJ, 6, .inr (.inl (fun _ => 0)))), (q_8, .inl (cZ, 6, .inl (fun _ => 0)))] := hD1
  replace hS := hS1
  clear hP1 hD1 hS1
  refine lv_aload_n hx hb dX0_init_41 rfl (lv_at hl 0 rfl) ?_
  refine lv_bipush (v := 40) hx hb dX0_init_42 (by decide) ?_
  refine my_newaZ hx hb (hts (.arrayClass .boolean) (List.mem_of_getElem? (i := 10) rfl)) hK hP hD hS hA (N' := 40) (by decide) (by decide) (by decide) (Nat.le_of_ble_eq_true rfl) (Nat.le_of_ble_eq_true rfl) dX0_init_44 (fun q_10 H_10 hP1 hD1 hS1 => ?_)
  replace hP : va_P (dC, dI) vwCl [(fh, .inr (0, [.int 0, .ref q_2, .ref q_4, .ref q_6, .ref q_8, .null, .null, .null, .null, .null, .null])), (q_2, .inl (cI, 6, .inl (fun _ => 0))), (q_4, .inl (cI, 6, .inl (fun _ => 0))), (q_6, .inl (cJ, 6, .inr (.inl (fun _ => 0)))), (q_8, .inl (cZ, 6, .inl (fun _ => 0))), (q_10, .inl (cZ, 40, .inl (fun _ => 0)))] H_10 := hP1
  replace hD : va_D A [(fh, .inr (0, [.int 0, .ref q_2, .ref q_4, .ref q_6, .ref q_8, .null, .null, .null, .null, .null, .null])), (q_2, .inl (cI, 6, .inl (fun _ => 0))), (q_4, .inl (cI, 6, .inl (fun _ => 0))), (q_6, .inl (cJ, 6, .inr (.inl (fun _ => 0)))), (q_8, .inl (cZ, 6, .inl (fun _ => 0))), (q_10, .inl (cZ, 40, .inl (fun _ => 0)))] := hD1
  replace hS := hS1
  clear hP1 hD1 hS1
  refine W.widen (k := 5) (n := 64) (Nat.le_of_ble_eq_true rfl) (Nat.le_of_ble_eq_true rfl) ?_
  refine va_putF (D := (dC, dI)) (ci := 0) (v := .ref q_10) (ty := .array .boolean) (C := RX0) (T := TX0) (N := 11) hx hb hts inc_X0_init_X0 tyX0 tyX0_ok nmX0 hown hK hP hD hS 0 rfl rfl 5 (by decide) (hts (.fieldLink RX0 30 "ArraySegments$Facts" "known" "[Z") (List.mem_of_getElem? (i := 12) rfl)) (fun _ h9 => h9) rfl hin rfl (by decide +kernel) rfl rfl (Nat.le_of_ble_eq_true rfl) dX0_init_46 (fun H_11 locs_11 hP1 hD1 hS1 => ?_)
  replace hP : va_P (dC, dI) vwCl [(fh, .inr (0, [.int 0, .ref q_2, .ref q_4, .ref q_6, .ref q_8, .ref q_10, .null, .null, .null, .null, .null])), (q_2, .inl (cI, 6, .inl (fun _ => 0))), (q_4, .inl (cI, 6, .inl (fun _ => 0))), (q_6, .inl (cJ, 6, .inr (.inl (fun _ => 0)))), (q_8, .inl (cZ, 6, .inl (fun _ => 0))), (q_10, .inl (cZ, 40, .inl (fun _ => 0)))] H_11 := hP1
  replace hD : va_D A [(fh, .inr (0, [.int 0, .ref q_2, .ref q_4, .ref q_6, .ref q_8, .ref q_10, .null, .null, .null, .null, .null])), (q_2, .inl (cI, 6, .inl (fun _ => 0))), (q_4, .inl (cI, 6, .inl (fun _ => 0))), (q_6, .inl (cJ, 6, .inr (.inl (fun _ => 0)))), (q_8, .inl (cZ, 6, .inl (fun _ => 0))), (q_10, .inl (cZ, 40, .inl (fun _ => 0)))] := hD1
  replace hS := hS1
  clear hP1 hD1 hS1
  refine lv_aload_n hx hb dX0_init_49 rfl (lv_at hl 0 rfl) ?_
  refine lv_bipush (v := 40) hx hb dX0_init_50 (by decide) ?_
  refine my_newaI hx hb (hts (.arrayClass .int) (List.mem_of_getElem? (i := 5) rfl)) hK hP hD hS hA (N' := 40) (by decide) (by decide) (by decide) (Nat.le_of_ble_eq_true rfl) (Nat.le_of_ble_eq_true rfl) dX0_init_52 (fun q_12 H_12 hP1 hD1 hS1 => ?_)
  replace hP : va_P (dC, dI) vwCl [(fh, .inr (0, [.int 0, .ref q_2, .ref q_4, .ref q_6, .ref q_8, .ref q_10, .null, .null, .null, .null, .null])), (q_2, .inl (cI, 6, .inl (fun _ => 0))), (q_4, .inl (cI, 6, .inl (fun _ => 0))), (q_6, .inl (cJ, 6, .inr (.inl (fun _ => 0)))), (q_8, .inl (cZ, 6, .inl (fun _ => 0))), (q_10, .inl (cZ, 40, .inl (fun _ => 0))), (q_12, .inl (cI, 40, .inl (fun _ => 0)))] H_12 := hP1
  replace hD : va_D A [(fh, .inr (0, [.int 0, .ref q_2, .ref q_4, .ref q_6, .ref q_8, .ref q_10, .null, .null, .null, .null, .null])), (q_2, .inl (cI, 6, .inl (fun _ => 0))), (q_4, .inl (cI, 6, .inl (fun _ => 0))), (q_6, .inl (cJ, 6, .inr (.inl (fun _ => 0)))), (q_8, .inl (cZ, 6, .inl (fun _ => 0))), (q_10, .inl (cZ, 40, .inl (fun _ => 0))), (q_12, .inl (cI, 40, .inl (fun _ => 0)))] := hD1
  replace hS := hS1
  clear hP1 hD1 hS1
  refine W.widen (k := 6) (n := 104) (Nat.le_of_ble_eq_true rfl) (Nat.le_of_ble_eq_true rfl) ?_
  refine va_putF (D := (dC, dI)) (ci := 0) (v := .ref q_12) (ty := .array .int) (C := RX0) (T := TX0) (N := 11) hx hb hts inc_X0_init_X0 tyX0 tyX0_ok nmX0 hown hK hP hD hS 0 rfl rfl 6 (by decide) (hts (.fieldLink RX0 33 "ArraySegments$Facts" "lanes" "[I") (List.mem_of_getElem? (i := 13) rfl)) (fun _ h9 => h9) rfl hin rfl (by decide +kernel) rfl rfl (Nat.le_of_ble_eq_true rfl) dX0_init_54 (fun H_13 locs_13 hP1 hD1 hS1 => ?_)
  replace hP : va_P (dC, dI) vwCl [(fh, .inr (0, [.int 0, .ref q_2, .ref q_4, .ref q_6, .ref q_8, .ref q_10, .ref q_12, .null, .null, .null, .null])), (q_2, .inl (cI, 6, .inl (fun _ => 0))), (q_4, .inl (cI, 6, .inl (fun _ => 0))), (q_6, .inl (cJ, 6, .inr (.inl (fun _ => 0)))), (q_8, .inl (cZ, 6, .inl (fun _ => 0))), (q_10, .inl (cZ, 40, .inl (fun _ => 0))), (q_12, .inl (cI, 40, .inl (fun _ => 0)))] H_13 := hP1
  replace hD : va_D A [(fh, .inr (0, [.int 0, .ref q_2, .ref q_4, .ref q_6, .ref q_8, .ref q_10, .ref q_12, .null, .null, .null, .null])), (q_2, .inl (cI, 6, .inl (fun _ => 0))), (q_4, .inl (cI, 6, .inl (fun _ => 0))), (q_6, .inl (cJ, 6, .inr (.inl (fun _ => 0)))), (q_8, .inl (cZ, 6, .inl (fun _ => 0))), (q_10, .inl (cZ, 40, .inl (fun _ => 0))), (q_12, .inl (cI, 40, .inl (fun _ => 0)))] := hD1
  replace hS := hS1
  clear hP1 hD1 hS1
  refine lv_aload_n hx hb dX0_init_57 rfl (lv_at hl 0 rfl) ?_
  refine lv_bipush (v := 40) hx hb dX0_init_58 (by decide) ?_
  refine my_newaI hx hb (hts (.arrayClass .int) (List.mem_of_getElem? (i := 5) rfl)) hK hP hD hS hA (N' := 40) (by decide) (by decide) (by decide) (Nat.le_of_ble_eq_true rfl) (Nat.le_of_ble_eq_true rfl) dX0_init_60 (fun q_14 H_14 hP1 hD1 hS1 => ?_)
  replace hP : va_P (dC, dI) vwCl [(fh, .inr (0, [.int 0, .ref q_2, .ref q_4, .ref q_6, .ref q_8, .ref q_10, .ref q_12, .null, .null, .null, .null])), (q_2, .inl (cI, 6, .inl (fun _ => 0))), (q_4, .inl (cI, 6, .inl (fun _ => 0))), (q_6, .inl (cJ, 6, .inr (.inl (fun _ => 0)))), (q_8, .inl (cZ, 6, .inl (fun _ => 0))), (q_10, .inl (cZ, 40, .inl (fun _ => 0))), (q_12, .inl (cI, 40, .inl (fun _ => 0))), (q_14, .inl (cI, 40, .inl (fun _ => 0)))] H_14 := hP1
  replace hD : va_D A [(fh, .inr (0, [.int 0, .ref q_2, .ref q_4, .ref q_6, .ref q_8, .ref q_10, .ref q_12, .null, .null, .null, .null])), (q_2, .inl (cI, 6, .inl (fun _ => 0))), (q_4, .inl (cI, 6, .inl (fun _ => 0))), (q_6, .inl (cJ, 6, .inr (.inl (fun _ => 0)))), (q_8, .inl (cZ, 6, .inl (fun _ => 0))), (q_10, .inl (cZ, 40, .inl (fun _ => 0))), (q_12, .inl (cI, 40, .inl (fun _ => 0))), (q_14, .inl (cI, 40, .inl (fun _ => 0)))] := hD1
  replace hS := hS1
  clear hP1 hD1 hS1
  refine W.widen (k := 7) (n := 144) (Nat.le_of_ble_eq_true rfl) (Nat.le_of_ble_eq_true rfl) ?_
  refine va_putF (D := (dC, dI)) (ci := 0) (v := .ref q_14) (ty := .array .int) (C := RX0) (T := TX0) (N := 11) hx hb hts inc_X0_init_X0 tyX0 tyX0_ok nmX0 hown hK hP hD hS 0 rfl rfl 7 (by decide) (hts (.fieldLink RX0 36 "ArraySegments$Facts" "shortest" "[I") (List.mem_of_getElem? (i := 14) rfl)) (fun _ h9 => h9) rfl hin rfl (by decide +kernel) rfl rfl (Nat.le_of_ble_eq_true rfl) dX0_init_62 (fun H_15 locs_15 hP1 hD1 hS1 => ?_)
  replace hP : va_P (dC, dI) vwCl [(fh, .inr (0, [.int 0, .ref q_2, .ref q_4, .ref q_6, .ref q_8, .ref q_10, .ref q_12, .ref q_14, .null, .null, .null])), (q_2, .inl (cI, 6, .inl (fun _ => 0))), (q_4, .inl (cI, 6, .inl (fun _ => 0))), (q_6, .inl (cJ, 6, .inr (.inl (fun _ => 0)))), (q_8, .inl (cZ, 6, .inl (fun _ => 0))), (q_10, .inl (cZ, 40, .inl (fun _ => 0))), (q_12, .inl (cI, 40, .inl (fun _ => 0))), (q_14, .inl (cI, 40, .inl (fun _ => 0)))] H_15 := hP1
  replace hD : va_D A [(fh, .inr (0, [.int 0, .ref q_2, .ref q_4, .ref q_6, .ref q_8, .ref q_10, .ref q_12, .ref q_14, .null, .null, .null])), (q_2, .inl (cI, 6, .inl (fun _ => 0))), (q_4, .inl (cI, 6, .inl (fun _ => 0))), (q_6, .inl (cJ, 6, .inr (.inl (fun _ => 0)))), (q_8, .inl (cZ, 6, .inl (fun _ => 0))), (q_10, .inl (cZ, 40, .inl (fun _ => 0))), (q_12, .inl (cI, 40, .inl (fun _ => 0))), (q_14, .inl (cI, 40, .inl (fun _ => 0)))] := hD1
  replace hS := hS1
  clear hP1 hD1 hS1
  refine lv_aload_n hx hb dX0_init_65 rfl (lv_at hl 0 rfl) ?_
  refine lv_bipush (v := 40) hx hb dX0_init_66 (by decide) ?_
  refine my_newaI hx hb (hts (.arrayClass .int) (List.mem_of_getElem? (i := 5) rfl)) hK hP hD hS hA (N' := 40) (by decide) (by decide) (by decide) (Nat.le_of_ble_eq_true rfl) (Nat.le_of_ble_eq_true rfl) dX0_init_68 (fun q_16 H_16 hP1 hD1 hS1 => ?_)
  replace hP : va_P (dC, dI) vwCl [(fh, .inr (0, [.int 0, .ref q_2, .ref q_4, .ref q_6, .ref q_8, .ref q_10, .ref q_12, .ref q_14, .null, .null, .null])), (q_2, .inl (cI, 6, .inl (fun _ => 0))), (q_4, .inl (cI, 6, .inl (fun _ => 0))), (q_6, .inl (cJ, 6, .inr (.inl (fun _ => 0)))), (q_8, .inl (cZ, 6, .inl (fun _ => 0))), (q_10, .inl (cZ, 40, .inl (fun _ => 0))), (q_12, .inl (cI, 40, .inl (fun _ => 0))), (q_14, .inl (cI, 40, .inl (fun _ => 0))), (q_16, .inl (cI, 40, .inl (fun _ => 0)))] H_16 := hP1
  replace hD : va_D A [(fh, .inr (0, [.int 0, .ref q_2, .ref q_4, .ref q_6, .ref q_8, .ref q_10, .ref q_12, .ref q_14, .null, .null, .null])), (q_2, .inl (cI, 6, .inl (fun _ => 0))), (q_4, .inl (cI, 6, .inl (fun _ => 0))), (q_6, .inl (cJ, 6, .inr (.inl (fun _ => 0)))), (q_8, .inl (cZ, 6, .inl (fun _ => 0))), (q_10, .inl (cZ, 40, .inl (fun _ => 0))), (q_12, .inl (cI, 40, .inl (fun _ => 0))), (q_14, .inl (cI, 40, .inl (fun _ => 0))), (q_16, .inl (cI, 40, .inl (fun _ => 0)))] := hD1
  replace hS := hS1
  clear hP1 hD1 hS1
  refine W.widen (k := 8) (n := 184) (Nat.le_of_ble_eq_true rfl) (Nat.le_of_ble_eq_true rfl) ?_
  refine va_putF (D := (dC, dI)) (ci := 0) (v := .ref q_16) (ty := .array .int) (C := RX0) (T := TX0) (N := 11) hx hb hts inc_X0_init_X0 tyX0 tyX0_ok nmX0 hown hK hP hD hS 0 rfl rfl 8 (by decide) (hts (.fieldLink RX0 39 "ArraySegments$Facts" "longest" "[I") (List.mem_of_getElem? (i := 15) rfl)) (fun _ h9 => h9) rfl hin rfl (by decide +kernel) rfl rfl (Nat.le_of_ble_eq_true rfl) dX0_init_70 (fun H_17 locs_17 hP1 hD1 hS1 => ?_)
  replace hP : va_P (dC, dI) vwCl [(fh, .inr (0, [.int 0, .ref q_2, .ref q_4, .ref q_6, .ref q_8, .ref q_10, .ref q_12, .ref q_14, .ref q_16, .null, .null])), (q_2, .inl (cI, 6, .inl (fun _ => 0))), (q_4, .inl (cI, 6, .inl (fun _ => 0))), (q_6, .inl (cJ, 6, .inr (.inl (fun _ => 0)))), (q_8, .inl (cZ, 6, .inl (fun _ => 0))), (q_10, .inl (cZ, 40, .inl (fun _ => 0))), (q_12, .inl (cI, 40, .inl (fun _ => 0))), (q_14, .inl (cI, 40, .inl (fun _ => 0))), (q_16, .inl (cI, 40, .inl (fun _ => 0)))] H_17 := hP1
  replace hD : va_D A [(fh, .inr (0, [.int 0, .ref q_2, .ref q_4, .ref q_6, .ref q_8, .ref q_10, .ref q_12, .ref q_14, .ref q_16, .null, .null])), (q_2, .inl (cI, 6, .inl (fun _ => 0))), (q_4, .inl (cI, 6, .inl (fun _ => 0))), (q_6, .inl (cJ, 6, .inr (.inl (fun _ => 0)))), (q_8, .inl (cZ, 6, .inl (fun _ => 0))), (q_10, .inl (cZ, 40, .inl (fun _ => 0))), (q_12, .inl (cI, 40, .inl (fun _ => 0))), (q_14, .inl (cI, 40, .inl (fun _ => 0))), (q_16, .inl (cI, 40, .inl (fun _ => 0)))] := hD1
  replace hS := hS1
  clear hP1 hD1 hS1
  refine lv_aload_n hx hb dX0_init_73 rfl (lv_at hl 0 rfl) ?_
  refine lv_sipush (v := 480) hx hb dX0_init_74 (by decide) ?_
  refine my_newaI hx hb (hts (.arrayClass .int) (List.mem_of_getElem? (i := 5) rfl)) hK hP hD hS hA (N' := 480) (by decide) (by decide) (by decide) (Nat.le_of_ble_eq_true rfl) (Nat.le_of_ble_eq_true rfl) dX0_init_77 (fun q_18 H_18 hP1 hD1 hS1 => ?_)
  replace hP : va_P (dC, dI) vwCl [(fh, .inr (0, [.int 0, .ref q_2, .ref q_4, .ref q_6, .ref q_8, .ref q_10, .ref q_12, .ref q_14, .ref q_16, .null, .null])), (q_2, .inl (cI, 6, .inl (fun _ => 0))), (q_4, .inl (cI, 6, .inl (fun _ => 0))), (q_6, .inl (cJ, 6, .inr (.inl (fun _ => 0)))), (q_8, .inl (cZ, 6, .inl (fun _ => 0))), (q_10, .inl (cZ, 40, .inl (fun _ => 0))), (q_12, .inl (cI, 40, .inl (fun _ => 0))), (q_14, .inl (cI, 40, .inl (fun _ => 0))), (q_16, .inl (cI, 40, .inl (fun _ => 0))), (q_18, .inl (cI, 480, .inl (fun _ => 0)))] H_18 := hP1
  replace hD : va_D A [(fh, .inr (0, [.int 0, .ref q_2, .ref q_4, .ref q_6, .ref q_8, .ref q_10, .ref q_12, .ref q_14, .ref q_16, .null, .null])), (q_2, .inl (cI, 6, .inl (fun _ => 0))), (q_4, .inl (cI, 6, .inl (fun _ => 0))), (q_6, .inl (cJ, 6, .inr (.inl (fun _ => 0)))), (q_8, .inl (cZ, 6, .inl (fun _ => 0))), (q_10, .inl (cZ, 40, .inl (fun _ => 0))), (q_12, .inl (cI, 40, .inl (fun _ => 0))), (q_14, .inl (cI, 40, .inl (fun _ => 0))), (q_16, .inl (cI, 40, .inl (fun _ => 0))), (q_18, .inl (cI, 480, .inl (fun _ => 0)))] := hD1
  replace hS := hS1
  clear hP1 hD1 hS1
  refine W.widen (k := 9) (n := 664) (Nat.le_of_ble_eq_true rfl) (Nat.le_of_ble_eq_true rfl) ?_
  refine va_putF (D := (dC, dI)) (ci := 0) (v := .ref q_18) (ty := .array .int) (C := RX0) (T := TX0) (N := 11) hx hb hts inc_X0_init_X0 tyX0 tyX0_ok nmX0 hown hK hP hD hS 0 rfl rfl 9 (by decide) (hts (.fieldLink RX0 42 "ArraySegments$Facts" "leastAt" "[I") (List.mem_of_getElem? (i := 16) rfl)) (fun _ h9 => h9) rfl hin rfl (by decide +kernel) rfl rfl (Nat.le_of_ble_eq_true rfl) dX0_init_79 (fun H_19 locs_19 hP1 hD1 hS1 => ?_)
  replace hP : va_P (dC, dI) vwCl [(fh, .inr (0, [.int 0, .ref q_2, .ref q_4, .ref q_6, .ref q_8, .ref q_10, .ref q_12, .ref q_14, .ref q_16, .ref q_18, .null])), (q_2, .inl (cI, 6, .inl (fun _ => 0))), (q_4, .inl (cI, 6, .inl (fun _ => 0))), (q_6, .inl (cJ, 6, .inr (.inl (fun _ => 0)))), (q_8, .inl (cZ, 6, .inl (fun _ => 0))), (q_10, .inl (cZ, 40, .inl (fun _ => 0))), (q_12, .inl (cI, 40, .inl (fun _ => 0))), (q_14, .inl (cI, 40, .inl (fun _ => 0))), (q_16, .inl (cI, 40, .inl (fun _ => 0))), (q_18, .inl (cI, 480, .inl (fun _ => 0)))] H_19 := hP1
  replace hD : va_D A [(fh, .inr (0, [.int 0, .ref q_2, .ref q_4, .ref q_6, .ref q_8, .ref q_10, .ref q_12, .ref q_14, .ref q_16, .ref q_18, .null])), (q_2, .inl (cI, 6, .inl (fun _ => 0))), (q_4, .inl (cI, 6, .inl (fun _ => 0))), (q_6, .inl (cJ, 6, .inr (.inl (fun _ => 0)))), (q_8, .inl (cZ, 6, .inl (fun _ => 0))), (q_10, .inl (cZ, 40, .inl (fun _ => 0))), (q_12, .inl (cI, 40, .inl (fun _ => 0))), (q_14, .inl (cI, 40, .inl (fun _ => 0))), (q_16, .inl (cI, 40, .inl (fun _ => 0))), (q_18, .inl (cI, 480, .inl (fun _ => 0)))] := hD1
  replace hS := hS1
  clear hP1 hD1 hS1
  refine lv_aload_n hx hb dX0_init_82 rfl (lv_at hl 0 rfl) ?_
  refine lv_sipush (v := 480) hx hb dX0_init_83 (by decide) ?_
  refine my_newaI hx hb (hts (.arrayClass .int) (List.mem_of_getElem? (i := 5) rfl)) hK hP hD hS hA (N' := 480) (by decide) (by decide) (by decide) (Nat.le_of_ble_eq_true rfl) (Nat.le_of_ble_eq_true rfl) dX0_init_86 (fun q_20 H_20 hP1 hD1 hS1 => ?_)
  replace hP : va_P (dC, dI) vwCl [(fh, .inr (0, [.int 0, .ref q_2, .ref q_4, .ref q_6, .ref q_8, .ref q_10, .ref q_12, .ref q_14, .ref q_16, .ref q_18, .null])), (q_2, .inl (cI, 6, .inl (fun _ => 0))), (q_4, .inl (cI, 6, .inl (fun _ => 0))), (q_6, .inl (cJ, 6, .inr (.inl (fun _ => 0)))), (q_8, .inl (cZ, 6, .inl (fun _ => 0))), (q_10, .inl (cZ, 40, .inl (fun _ => 0))), (q_12, .inl (cI, 40, .inl (fun _ => 0))), (q_14, .inl (cI, 40, .inl (fun _ => 0))), (q_16, .inl (cI, 40, .inl (fun _ => 0))), (q_18, .inl (cI, 480, .inl (fun _ => 0))), (q_20, .inl (cI, 480, .inl (fun _ => 0)))] H_20 := hP1
  replace hD : va_D A [(fh, .inr (0, [.int 0, .ref q_2, .ref q_4, .ref q_6, .ref q_8, .ref q_10, .ref q_12, .ref q_14, .ref q_16, .ref q_18, .null])), (q_2, .inl (cI, 6, .inl (fun _ => 0))), (q_4, .inl (cI, 6, .inl (fun _ => 0))), (q_6, .inl (cJ, 6, .inr (.inl (fun _ => 0)))), (q_8, .inl (cZ, 6, .inl (fun _ => 0))), (q_10, .inl (cZ, 40, .inl (fun _ => 0))), (q_12, .inl (cI, 40, .inl (fun _ => 0))), (q_14, .inl (cI, 40, .inl (fun _ => 0))), (q_16, .inl (cI, 40, .inl (fun _ => 0))), (q_18, .inl (cI, 480, .inl (fun _ => 0))), (q_20, .inl (cI, 480, .inl (fun _ => 0)))] := hD1
  replace hS := hS1
  clear hP1 hD1 hS1
  refine W.widen (k := 10) (n := 1144) (Nat.le_of_ble_eq_true rfl) (Nat.le_of_ble_eq_true rfl) ?_
  refine va_putF (D := (dC, dI)) (ci := 0) (v := .ref q_20) (ty := .array .int) (C := RX0) (T := TX0) (N := 11) hx hb hts inc_X0_init_X0 tyX0 tyX0_ok nmX0 hown hK hP hD hS 0 rfl rfl 10 (by decide) (hts (.fieldLink RX0 45 "ArraySegments$Facts" "greatestAt" "[I") (List.mem_of_getElem? (i := 17) rfl)) (fun _ h9 => h9) rfl hin rfl (by decide +kernel) rfl rfl (Nat.le_of_ble_eq_true rfl) dX0_init_88 (fun H_21 locs_21 hP1 hD1 hS1 => ?_)
  replace hP : va_P (dC, dI) vwCl [(fh, .inr (0, [.int 0, .ref q_2, .ref q_4, .ref q_6, .ref q_8, .ref q_10, .ref q_12, .ref q_14, .ref q_16, .ref q_18, .ref q_20])), (q_2, .inl (cI, 6, .inl (fun _ => 0))), (q_4, .inl (cI, 6, .inl (fun _ => 0))), (q_6, .inl (cJ, 6, .inr (.inl (fun _ => 0)))), (q_8, .inl (cZ, 6, .inl (fun _ => 0))), (q_10, .inl (cZ, 40, .inl (fun _ => 0))), (q_12, .inl (cI, 40, .inl (fun _ => 0))), (q_14, .inl (cI, 40, .inl (fun _ => 0))), (q_16, .inl (cI, 40, .inl (fun _ => 0))), (q_18, .inl (cI, 480, .inl (fun _ => 0))), (q_20, .inl (cI, 480, .inl (fun _ => 0)))] H_21 := hP1
  replace hD : va_D A [(fh, .inr (0, [.int 0, .ref q_2, .ref q_4, .ref q_6, .ref q_8, .ref q_10, .ref q_12, .ref q_14, .ref q_16, .ref q_18, .ref q_20])), (q_2, .inl (cI, 6, .inl (fun _ => 0))), (q_4, .inl (cI, 6, .inl (fun _ => 0))), (q_6, .inl (cJ, 6, .inr (.inl (fun _ => 0)))), (q_8, .inl (cZ, 6, .inl (fun _ => 0))), (q_10, .inl (cZ, 40, .inl (fun _ => 0))), (q_12, .inl (cI, 40, .inl (fun _ => 0))), (q_14, .inl (cI, 40, .inl (fun _ => 0))), (q_16, .inl (cI, 40, .inl (fun _ => 0))), (q_18, .inl (cI, 480, .inl (fun _ => 0))), (q_20, .inl (cI, 480, .inl (fun _ => 0)))] := hD1
  replace hS := hS1
  clear hP1 hD1 hS1
  have hP9 := hP.sub (ws' := [(fh, .inr (0, [.int 0, .ref q_2, .ref q_4, .ref q_6, .ref q_8, .ref q_10, .ref q_12, .ref q_14, .ref q_16, .ref q_18, .ref q_20])), (q_2, .inl (cI, 6, .inl (fun _ => 0))), (q_4, .inl (cI, 6, .inl (fun _ => 0))), (q_6, .inl (cJ, 6, .inr (.inl (fun _ => 0)))), (q_8, .inl (cZ, 6, .inl (fun _ => 0))), (q_10, .inl (cZ, 40, .inl (fun _ => 0))), (q_12, .inl (cI, 40, .inl (fun _ => 0))), (q_14, .inl (cI, 40, .inl (fun _ => 0))), (q_16, .inl (cI, 40, .inl (fun _ => 0))), (q_18, .inl (cI, 480, .inl (fun _ => 0))), (q_20, .inl (cI, 480, .inl (fun _ => 0)))]) [0, 1, 2, 3, 4, 5, 6, 7, 8, 9, 10] rfl
  have hD9 := hD.sub (ws' := [(fh, .inr (0, [.int 0, .ref q_2, .ref q_4, .ref q_6, .ref q_8, .ref q_10, .ref q_12, .ref q_14, .ref q_16, .ref q_18, .ref q_20])), (q_2, .inl (cI, 6, .inl (fun _ => 0))), (q_4, .inl (cI, 6, .inl (fun _ => 0))), (q_6, .inl (cJ, 6, .inr (.inl (fun _ => 0)))), (q_8, .inl (cZ, 6, .inl (fun _ => 0))), (q_10, .inl (cZ, 40, .inl (fun _ => 0))), (q_12, .inl (cI, 40, .inl (fun _ => 0))), (q_14, .inl (cI, 40, .inl (fun _ => 0))), (q_16, .inl (cI, 40, .inl (fun _ => 0))), (q_18, .inl (cI, 480, .inl (fun _ => 0))), (q_20, .inl (cI, 480, .inl (fun _ => 0)))]) [0, 1, 2, 3, 4, 5, 6, 7, 8, 9, 10] (by decide) rfl
  refine W.widen (k := 10) (n := 1144) (Nat.le_of_ble_eq_true rfl) (Nat.le_of_ble_eq_true rfl) ?_
  exact W.vret hx hb hr (fun t ht hW => ⟨⟨(fun k => match k with | 0 => q_2 | 1 => q_4 | 2 => q_6 | 3 => q_8 | 4 => q_10 | 5 => q_12 | 6 => q_14 | 7 => q_16 | 8 => q_18 | 9 => q_20 | _ => 0), rfl, trivial, by rw [ht]; exact hP9, va_K.moved hW.alike hK, hD9⟩, hS.F ht⟩) hS.2.2 dX0_init_91
