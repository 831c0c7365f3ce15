def v_X1_gather : List Cond := .code yX1_gather cX1_gather 10 none :: ([.fieldLink RX1 33 "ArraySegments$Flow" "gatheredAny" "Z", .initialized RX4, .static yX4_isIn, .methodLink RX1 243 Lib.Math.max.name, .static Lib.Math.max.name, .initialized "java/lang/Math", .code Lib.Math.max.name Lib.Math.max.code 2 (some .int), .fieldLink RX1 12 "ArraySegments$Flow" "now" "LArraySegments$Facts;", .fieldLink RX1 200 "ArraySegments$Facts" "longest" "[I", .fieldLink RX1 246 "ArraySegments$Facts" "leastAt" "[I", .fieldLink RX1 249 "ArraySegments$Facts" "greatestAt" "[I", .fieldLink RX1 36 "ArraySegments$Flow" "gatheredLeast" "I", .fieldLink RX1 40 "ArraySegments$Flow" "gatheredGreatest" "I", .methodLink RX1 166 Lib.Math.min.name, .static Lib.Math.min.name, .code Lib.Math.min.name Lib.Math.min.code 2 (some .int)] ++ (wsX10 ++ (wsX00 ++ (v_X4_isIn))))
theorem inv_X1_gather_X1 : ∀ w ∈ wsX10, w ∈ v_X1_gather := fun _ h => List.mem_cons_of_mem _ (List.mem_append_right _ (List.mem_append_left _ h))
theorem inv_X1_gather_X0 : ∀ w ∈ wsX00, w ∈ v_X1_gather := fun _ h => List.mem_cons_of_mem _ (List.mem_append_right _ (List.mem_append_right _ (List.mem_append_left _ h)))
theorem im_X1_gather_X4_isIn : ∀ w ∈ v_X4_isIn, w ∈ v_X1_gather := fun _ h => List.mem_cons_of_mem _ (List.mem_append_right _ (List.mem_append_right _ (List.mem_append_right _ (h))))
set_option maxRecDepth 20000 in
theorem gd_X1_gather : gdL v_X1_gather := gdC (gdW (by decide +kernel)) (gdA (gdW (by decide +kernel)) (gdA gd_wsX10 (gdA gd_wsX00 gd_X4_isIn)))
theorem h_X1_gather_X4_isIn_155 : GoodIn v_X1_gather (v_X4_isIn) := fun w h => ⟨im_X1_gather_X4_isIn w h, gd_X4_isIn w h⟩
abbrev sw_X1_gather (cI cJ cZ : ClassId) (lh : Nat) (fh : Nat) (l_ahead : Value) (l_isOld : Int32) (l_isReached : Value) (l_mayThrow : Value) (l_gatheredAny : Int32) (l_gatheredLeast : Int32) (l_gatheredGreatest : Int32) (f_isReached : Int32) (f_least : Value) (f_greatest : Value) (f_sites : Value) (f_maybeNull : Value) (f_known : Value) (f_lanes : Value) (f_shortest : Value) (fa_longest : Nat) (fa_leastAt : Nat) (fa_greatestAt : Nat) (fc_longest : Nat → Int32) (fc_leastAt : Nat → Int32) (fc_greatestAt : Nat → Int32) (ala : Int64) (fa : Int32) (ba : Int64) : va_W := [(lh, .inr (1, [.ref fh, l_ahead, .int l_isOld, l_isReached, l_mayThrow, .int l_gatheredAny, .int l_gatheredLeast, .int l_gatheredGreatest])), (fh, .inr (0, [.int f_isReached, f_least, f_greatest, f_sites, f_maybeNull, f_known, f_lanes, f_shortest, .ref fa_longest, .ref fa_leastAt, .ref fa_greatestAt])), (fa_longest, .inl (cI, 40, .inl fc_longest)), (fa_leastAt, .inl (cI, 480, .inl fc_leastAt)), (fa_greatestAt, .inl (cI, 480, .inl fc_greatestAt))]
set_option maxHeartbeats 8000000 in
set_option maxRecDepth 100000 in
theorem s_X1_gather (l : Launch) (dC : Nat → ClassId) (dI : Nat → Nat → Nat) (cI cJ cZ : ClassId) (lh : Nat) (fh : Nat) (l_ahead : Value) (l_isOld : Int32) (l_isReached : Value) (l_mayThrow : Value) (l_gatheredAny : Int32) (l_gatheredLeast : Int32) (l_gatheredGreatest : Int32) (f_isReached : Int32) (f_least : Value) (f_greatest : Value) (f_sites : Value) (f_maybeNull : Value) (f_known : Value) (f_lanes : Value) (f_shortest : Value) (fa_longest : Nat) (fa_leastAt : Nat) (fa_greatestAt : Nat) (fc_longest : Nat → Int32) (fc_leastAt : Nat → Int32) (fc_greatestAt : Nat → Int32) (ala : Int64) (fa : Int32) (ba : Int64) (sz : Nat) (q_l_isOld : kZ l_isOld) (q_l_gatheredAny : kZ l_gatheredAny) (q_f_isReached : kZ f_isReached) (h_fc_longest : ∀ j : Nat, kLE12 (fc_longest j)) : Met l yX1_gather v_X1_gather ({ frames := 1, cells := 0, slots := 0, locals := 22 }) (va_Pc [.ref lh, .long ala, .int fa, .long ba] (cPre dC dI cI cJ cZ sz (sw_X1_gather cI cJ cZ lh fh l_ahead l_isOld l_isReached l_mayThrow l_gatheredAny l_gatheredLeast l_gatheredGreatest f_isReached f_least f_greatest f_sites f_maybeNull f_known f_lanes f_shortest fa_longest fa_leastAt fa_greatestAt fc_longest fc_leastAt fc_greatestAt ala fa ba))) (va_Qv (fun (u : Int32 × Int32 × Int32) => (kZ (u.1)) ∧ (∀ k p : Nat, k < 40 → sbit ala k → fa.toInt ≤ p → (p : Int) < ba.toInt → (p : Int) < (fc_longest k).toInt → ¬ (u.1).toInt = 0 ∧ (u.2.1).toInt ≤ (fc_leastAt (12 * k + p)).toInt ∧ (fc_greatestAt (12 * k + p)).toInt ≤ (u.2.2).toInt)) (fun (u : Int32 × Int32 × Int32) => cPost dC dI cI cJ cZ (va_A (sw_X1_gather cI cJ cZ lh fh l_ahead l_isOld l_isReached l_mayThrow l_gatheredAny l_gatheredLeast l_gatheredGreatest f_isReached f_least f_greatest f_sites f_maybeNull f_known f_lanes f_shortest fa_longest fa_leastAt fa_greatestAt fc_longest fc_leastAt fc_greatestAt ala fa ba) sz) [(lh, .inr (1, [.ref fh, l_ahead, .int l_isOld, l_isReached, l_mayThrow, .int (u.1), .int (u.2.1), .int (u.2.2)])), (fh, .inr (0, [.int f_isReached, f_least, f_greatest, f_sites, f_maybeNull, f_known, f_lanes, f_shortest, .ref fa_longest, .ref fa_leastAt, .ref fa_greatestAt])), (fa_longest, .inl (cI, 40, .inl fc_longest)), (fa_leastAt, .inl (cI, 480, .inl fc_leastAt)), (fa_greatestAt, .inl (cI, 480, .inl fc_greatestAt))]) (va_A (sw_X1_gather cI cJ cZ lh fh l_ahead l_isOld l_isReached l_mayThrow l_gatheredAny l_gatheredLeast l_gatheredGreatest f_isReached f_least f_greatest f_sites f_maybeNull f_known f_lanes f_shortest fa_longest fa_leastAt fa_greatestAt fc_longest fc_leastAt fc_greatestAt ala fa ba) sz)) 0 0 (va_A (sw_X1_gather cI cJ cZ lh fh l_ahead l_isOld l_isReached l_mayThrow l_gatheredAny l_gatheredLeast l_gatheredGreatest f_isReached f_least f_greatest f_sites f_maybeNull f_known f_lanes f_shortest fa_longest fa_leastAt fa_greatestAt fc_longest fc_leastAt fc_greatestAt ala fa ba) sz) := by
  refine Met.ofW (cc := cX1_gather) (maxL := 10) (ret := none) (by decide) rfl ?_
  intro p e s m args below meth c s₁ B hml hv
  obtain ⟨rfl, hsz, hP, hK, hD0, hN⟩ := hv
  have hx := B.exec
  have hb := B.bytes
  have hr := B.returns
  have hts := atoms_spec (ws := v_X1_gather) B.pre
  have hown : s.vm.findClass RX1 = some m.cls := findClass_of_methodNamed B.named
  have hlocks := B.notSynchronized
  subst hsz
  have hD := hD0.self (sz := s.heap.size)
  generalize hAe : va_A (sw_X1_gather cI cJ cZ lh fh l_ahead l_isOld l_isReached l_mayThrow l_gatheredAny l_gatheredLeast l_gatheredGreatest f_isReached f_least f_greatest f_sites f_maybeNull f_known f_lanes f_shortest fa_longest fa_leastAt fa_greatestAt fc_longest fc_leastAt fc_greatestAt ala fa ba) s.heap.size = A at hD ⊢
  have hA : ∀ q : Nat, s.heap.size ≤ q → A q := fun q h => by rw [← hAe]; exact Or.inr h
  clear hAe hD0
  have hS : va_S A s.heap s.heap [] := va_S.rf
  replace hP : va_P (dC, dI) vwCl [(lh, .inr (1, [.ref fh, l_ahead, .int l_isOld, l_isReached, l_mayThrow, .int l_gatheredAny, .int l_gatheredLeast, .int l_gatheredGreatest])), (fh, .inr (0, [.int f_isReached, f_least, f_greatest, f_sites, f_maybeNull, f_known, f_lanes, f_shortest, .ref fa_longest, .ref fa_leastAt, .ref fa_greatestAt])), (fa_longest, .inl (cI, 40, .inl fc_longest)), (fa_leastAt, .inl (cI, 480, .inl fc_leastAt)), (fa_greatestAt, .inl (cI, 480, .inl fc_greatestAt))] s.heap := hP
  replace hD : va_D A [(lh, .inr (1, [.ref fh, l_ahead, .int l_isOld, l_isReached, l_mayThrow, .int l_gatheredAny, .int l_gatheredLeast, .int l_gatheredGreatest])), (fh, .inr (0, [.int f_isReached, f_least, f_greatest, f_sites, f_maybeNull, f_known, f_lanes, f_shortest, .ref fa_longest, .ref fa_leastAt, .ref fa_greatestAt])), (fa_longest, .inl (cI, 40, .inl fc_longest)), (fa_leastAt, .inl (cI, 480, .inl fc_leastAt)), (fa_greatestAt, .inl (cI, 480, .inl fc_greatestAt))] := hD
  have hl := lv_entry ([.ref lh, .long ala, .int fa, .long ba]) (n := 10) (Nat.le_of_ble_eq_true rfl)
  rw [lg_entry_eq]
  generalize (lg_sl ([.ref lh, .long ala, .int fa, .long ba]) ++ List.replicate (10 - (lg_sl ([.ref lh, .long ala, .int fa, .long ba])).length) Slot.unset).toArray = ls at hl ⊢
  replace hl : lv_has ls 10 [(0, .ref lh), (1, .long ala), (3, .int fa), (4, .long ba)] := hl
  have z_0 : (0 : Int32).toInt = 0 := by decide
  have z_1 : (1 : Int32).toInt = 1 := by decide
  have z_40 : (40 : Int32).toInt = 40 := by decide
  refine lv_aload_n hx hb dX1_gather_0 rfl (lv_at hl 0 rfl) ?_
  refine lv_iconst (v := 0) hx hb dX1_gather_1 (by decide) ?_
  refine va_put (D := (dC, dI)) (ci := 1) (v := .int 0) (ty := .boolean) (C := RX1) (T := TX1) (N := 8) hx hb hts inv_X1_gather_X1 tyX1 tyX1_ok nmX1 hown hK hP hD hS 0 rfl rfl 5 (by decide) (hts (.fieldLink RX1 33 "ArraySegments$Flow" "gatheredAny" "Z") (List.mem_of_getElem? (i := 1) rfl)) (fun _ h9 => h9) rfl (by decide +kernel) rfl rfl (Nat.le_of_ble_eq_true rfl) dX1_gather_2 (fun H_1 locs_1 hP1 hD1 hS1 => ?_)
  replace hP : va_P (dC, dI) vwCl [(lh, .inr (1, [.ref fh, l_ahead, .int l_isOld, l_isReached, l_mayThrow, .int 0, .int l_gatheredLeast, .int l_gatheredGreatest])), (fh, .inr (0, [.int f_isReached, f_least, f_greatest, f_sites, f_maybeNull, f_known, f_lanes, f_shortest, .ref fa_longest, .ref fa_leastAt, .ref fa_greatestAt])), (fa_longest, .inl (cI, 40, .inl fc_longest)), (fa_leastAt, .inl (cI, 480, .inl fc_leastAt)), (fa_greatestAt, .inl (cI, 480, .inl fc_greatestAt))] H_1 := hP1
  replace hD : va_D A [(lh, .inr (1, [.ref fh, l_ahead, .int l_isOld, l_isReached, l_mayThrow, .int 0, .int l_gatheredLeast, .int l_gatheredGreatest])), (fh, .inr (0, [.int f_isReached, f_least, f_greatest, f_sites, f_maybeNull, f_known, f_lanes, f_shortest, .ref fa_longest, .ref fa_leastAt, .ref fa_greatestAt])), (fa_longest, .inl (cI, 40, .inl fc_longest)), (fa_leastAt, .inl (cI, 480, .inl fc_leastAt)), (fa_greatestAt, .inl (cI, 480, .inl fc_greatestAt))] := hD1
  replace hS := hS1
  clear hP1 hD1 hS1
  refine lv_iconst (v := 0) hx hb dX1_gather_5 (by decide) ?_
  refine lv_istore (lv' := [(6, .int 0), (0, .ref lh), (1, .long ala), (3, .int fa), (4, .long ba)]) hx hb dX1_gather_6 hl (by decide) rfl (fun ls1 hl1 => ?_)
  replace hl := hl1; clear hl1
  refine my_wloop (S := Int32 × Int32 × Int32 × Int32) (fun u => (0 ≤ (u.1).toInt ∧ (u.1).toInt ≤ 40) ∧ (kZ (u.2.1)) ∧ (∀ k p : Nat, (k : Int) < (u.1).toInt → k < 40 → sbit ala k → fa.toInt ≤ p → (p : Int) < ba.toInt → (p : Int) < (fc_longest k).toInt → ¬ (u.2.1).toInt = 0 ∧ (u.2.2.1).toInt ≤ (fc_leastAt (12 * k + p)).toInt ∧ (fc_greatestAt (12 * k + p)).toInt ≤ (u.2.2.2).toInt)) (fun u => (40 - (u.1).toInt).toNat) (fun u => [(lh, .inr (1, [.ref fh, l_ahead, .int l_isOld, l_isReached, l_mayThrow, .int (u.2.1), .int (u.2.2.1), .int (u.2.2.2)])), (fh, .inr (0, [.int f_isReached, f_least, f_greatest, f_sites, f_maybeNull, f_known, f_lanes, f_shortest, .ref fa_longest, .ref fa_leastAt, .ref fa_greatestAt])), (fa_longest, .inl (cI, 40, .inl fc_longest)), (fa_leastAt, .inl (cI, 480, .inl fc_leastAt)), (fa_greatestAt, .inl (cI, 480, .inl fc_greatestAt))]) (fun u => [(6, .int (u.1)), (0, .ref lh), (1, .long ala), (3, .int fa), (4, .long ba)]) (H0 := s.heap) (A := A) (D := (dC, dI)) (cl := vwCl) ((0 : Int32), (0 : Int32), l_gatheredLeast, l_gatheredGreatest) (show (0 ≤ (0 : Int32).toInt ∧ (0 : Int32).toInt ≤ 40) ∧ (kZ (0 : Int32)) ∧ (∀ k p : Nat, (k : Int) < (0 : Int32).toInt → k < 40 → sbit ala k → fa.toInt ≤ p → (p : Int) < ba.toInt → (p : Int) < (fc_longest k).toInt → ¬ (0 : Int32).toInt = 0 ∧ l_gatheredLeast.toInt ≤ (fc_leastAt (12 * k + p)).toInt ∧ (fc_greatestAt (12 * k + p)).toInt ≤ l_gatheredGreatest.toInt) from ⟨⟨by omega, by omega⟩, (by decide), (fun q p hq => by omega)⟩) (by exact hP) (by exact hD) hS (by exact hl) (fun u_2 hu_2 ih_2 H_2 locs_2 ls1 hP1 hD1 hS1 hl1 => ?_)
  obtain ⟨v_3, v_4, v_5, v_6⟩ := u_2
  replace hu_2 : (0 ≤ v_3.toInt ∧ v_3.toInt ≤ 40) ∧ (kZ v_4) ∧ (∀ k p : Nat, (k : Int) < v_3.toInt → k < 40 → sbit ala k → fa.toInt ≤ p → (p : Int) < ba.toInt → (p : Int) < (fc_longest k).toInt → ¬ v_4.toInt = 0 ∧ v_5.toInt ≤ (fc_leastAt (12 * k + p)).toInt ∧ (fc_greatestAt (12 * k + p)).toInt ≤ v_6.toInt) := hu_2
  obtain ⟨q_v_3, q_v_4, x_2_0⟩ := hu_2
  replace hP : va_P (dC, dI) vwCl [(lh, .inr (1, [.ref fh, l_ahead, .int l_isOld, l_isReached, l_mayThrow, .int v_4, .int v_5, .int v_6])), (fh, .inr (0, [.int f_isReached, f_least, f_greatest, f_sites, f_maybeNull, f_known, f_lanes, f_shortest, .ref fa_longest, .ref fa_leastAt, .ref fa_greatestAt])), (fa_longest, .inl (cI, 40, .inl fc_longest)), (fa_leastAt, .inl (cI, 480, .inl fc_leastAt)), (fa_greatestAt, .inl (cI, 480, .inl fc_greatestAt))] H_2 := hP1
  replace hD : va_D A [(lh, .inr (1, [.ref fh, l_ahead, .int l_isOld, l_isReached, l_mayThrow, .int v_4, .int v_5, .int v_6])), (fh, .inr (0, [.int f_isReached, f_least, f_greatest, f_sites, f_maybeNull, f_known, f_lanes, f_shortest, .ref fa_longest, .ref fa_leastAt, .ref fa_greatestAt])), (fa_longest, .inl (cI, 40, .inl fc_longest)), (fa_leastAt, .inl (cI, 480, .inl fc_leastAt)), (fa_greatestAt, .inl (cI, 480, .inl fc_greatestAt))] := hD1
  replace hS := hS1
  clear hP1 hD1 hS1
  replace hl : lv_has ls1 10 [(6, .int v_3), (0, .ref lh), (1, .long ala), (3, .int fa), (4, .long ba)] := hl1
  clear hl1
  refine lv_iload hx hb dX1_gather_8 (lv_at hl 0 rfl) ?_
  refine lv_bipush (v := 40) hx hb dX1_gather_10 (by decide) ?_
  refine lv_icmp_ge (tgt := 161) hx hb dX1_gather_12 (by decide) (fun c_7 => ?_) (fun c_7 => ?_)
  · -- yes
    have k_7 : (40 : Int32).toInt ≤ v_3.toInt := ci_ge c_7
    have hP9 := hP.sub (ws' := [(lh, .inr (1, [.ref fh, l_ahead, .int l_isOld, l_isReached, l_mayThrow, .int v_4, .int v_5, .int v_6])), (fh, .inr (0, [.int f_isReached, f_least, f_greatest, f_sites, f_maybeNull, f_known, f_lanes, f_shortest, .ref fa_longest, .ref fa_leastAt, .ref fa_greatestAt])), (fa_longest, .inl (cI, 40, .inl fc_longest)), (fa_leastAt, .inl (cI, 480, .inl fc_leastAt)), (fa_greatestAt, .inl (cI, 480, .inl fc_greatestAt))]) [0, 1, 2, 3, 4] rfl
    have hD9 := hD.sub (ws' := [(lh, .inr (1, [.ref fh, l_ahead, .int l_isOld, l_isReached, l_mayThrow, .int v_4, .int v_5, .int v_6])), (fh, .inr (0, [.int f_isReached, f_least, f_greatest, f_sites, f_maybeNull, f_known, f_lanes, f_shortest, .ref fa_longest, .ref fa_leastAt, .ref fa_greatestAt])), (fa_longest, .inl (cI, 40, .inl fc_longest)), (fa_leastAt, .inl (cI, 480, .inl fc_leastAt)), (fa_greatestAt, .inl (cI, 480, .inl fc_greatestAt))]) [0, 1, 2, 3, 4] (by decide) rfl
    exact W.vret hx hb hr (fun t ht hW => ⟨⟨(v_4, v_5, v_6), rfl, ⟨(show kZ v_4 from q_v_4), (show ∀ k p : Nat, k < 40 → sbit ala k → fa.toInt ≤ p → (p : Int) < ba.toInt → (p : Int) < (fc_longest k).toInt → ¬ v_4.toInt = 0 ∧ v_5.toInt ≤ (fc_leastAt (12 * k + p)).toInt ∧ (fc_greatestAt (12 * k + p)).toInt ≤ v_6.toInt from (fun k p hk hs h1 h2 h3 => x_2_0 k p (by omega) hk hs h1 h2 h3))⟩, by rw [ht]; exact hP9, va_K.moved hW.alike hK, hD9⟩, hS.F ht⟩) hS.2.2 dX1_gather_161
  · -- no
    have k_7 : v_3.toInt < (40 : Int32).toInt := ci_nge c_7
    refine lv_lload_n hx hb dX1_gather_15 rfl (lv_at hl 2 rfl) ?_
    refine lv_iload hx hb dX1_gather_16 (lv_at hl 0 rfl) ?_
    refine vp_callSi (va_runSN (As := [.long ala, .int v_3]) (rest := []) ⟨hx, hb, hml, hown, hts⟩ (s_X4_isIn l ala v_3 (by first | assumption | omega)) (⟨va_cnB 2 hts h_X1_gather_X4_isIn_155 rfl rfl rfl (hN.2.2.2.2.2.2.2.1) (hts (.initialized RX4) (List.mem_of_getElem? (i := 2) rfl)) (by decide +kernel) ⟨Nat.le_of_ble_eq_true rfl, Nat.le_of_ble_eq_true rfl⟩, hts (.static yX4_isIn) (List.mem_of_getElem? (i := 3) rfl), trivial⟩) ⟨fun _ _ _ _ q => q, fun _ _ _ => ⟨rfl, trivial⟩⟩ rfl rfl hl.1 rfl (lv_room (Nat.le_of_ble_eq_true rfl)) dX1_gather_18 ⟨Nat.le_of_ble_eq_true rfl, Nat.le_of_ble_eq_true rfl⟩).run (fun r_8 hw_8 => ?_)
    replace hw_8 : (two r_8 (sbit ala (v_3).toNatClampNeg) 1 0) := hw_8
    have q_r_8 := hw_8
    refine lv_if_ne (tgt := 27) hx hb dX1_gather_21 (by decide) (fun c_9 => ?_) (fun c_9 => ?_)
    · -- yes
      have k_9 : ¬ r_8.toInt = (0 : Int32).toInt := ci_ne c_9
      have kt_9 : sbit ala (v_3).toNatClampNeg := two_nz q_r_8 c_9
      refine lv_iload_n hx hb dX1_gather_27 rfl (lv_at hl 3 rfl) ?_
      refine lv_iconst (v := 0) hx hb dX1_gather_28 (by decide) ?_
      have ir_11 := i32r fa
      refine sf_mmax hx hb (by rw [hml]; exact hl.1.symm) hown (hts (.methodLink RX1 243 Lib.Math.max.name) (List.mem_of_getElem? (i := 4) rfl)) (hts (.static Lib.Math.max.name) (List.mem_of_getElem? (i := 5) rfl)) (hts (.initialized "java/lang/Math") (List.mem_of_getElem? (i := 6) rfl)) (hts (.code Lib.Math.max.name Lib.Math.max.code 2 (some .int)) (List.mem_of_getElem? (i := 7) rfl)) (Nat.le_of_ble_eq_true rfl) (Nat.le_of_ble_eq_true rfl) (Nat.le_of_ble_eq_true rfl) (Nat.le_of_ble_eq_true rfl) dX1_gather_29 (fun v_10 q_v_10 => ?_)
      have qi_v_10 : 0 ≤ v_10.toInt := by omega
      refine lv_istore (lv' := [(7, .int v_10), (6, .int v_3), (0, .ref lh), (1, .long ala), (3, .int fa), (4, .long ba)]) hx hb dX1_gather_32 hl (by decide) rfl (fun ls1 hl1 => ?_)
      replace hl := hl1; clear hl1
      refine my_wloop (S := Int32 × Int32 × Int32 × Int32) (fun u => (0 ≤ (u.1).toInt) ∧ (kZ (u.2.1)) ∧ (∀ k p : Nat, (k : Int) < v_3.toInt → k < 40 → sbit ala k → fa.toInt ≤ p → (p : Int) < ba.toInt → (p : Int) < (fc_longest k).toInt → ¬ (u.2.1).toInt = 0 ∧ (u.2.2.1).toInt ≤ (fc_leastAt (12 * k + p)).toInt ∧ (fc_greatestAt (12 * k + p)).toInt ≤ (u.2.2.2).toInt) ∧ (∀ p : Nat, fa.toInt ≤ p → (p : Int) < (u.1).toInt → (p : Int) < ba.toInt → (p : Int) < (fc_longest (v_3).toNatClampNeg).toInt → ¬ (u.2.1).toInt = 0 ∧ (u.2.2.1).toInt ≤ (fc_leastAt (12 * (v_3).toNatClampNeg + p)).toInt ∧ (fc_greatestAt (12 * (v_3).toNatClampNeg + p)).toInt ≤ (u.2.2.2).toInt)) (fun u => (12 - (u.1).toInt).toNat) (fun u => [(lh, .inr (1, [.ref fh, l_ahead, .int l_isOld, l_isReached, l_mayThrow, .int (u.2.1), .int (u.2.2.1), .int (u.2.2.2)])), (fh, .inr (0, [.int f_isReached, f_least, f_greatest, f_sites, f_maybeNull, f_known, f_lanes, f_shortest, .ref fa_longest, .ref fa_leastAt, .ref fa_greatestAt])), (fa_longest, .inl (cI, 40, .inl fc_longest)), (fa_leastAt, .inl (cI, 480, .inl fc_leastAt)), (fa_greatestAt, .inl (cI, 480, .inl fc_greatestAt))]) (fun u => [(7, .int (u.1)), (6, .int v_3), (0, .ref lh), (1, .long ala), (3, .int fa), (4, .long ba)]) (H0 := s.heap) (A := A) (D := (dC, dI)) (cl := vwCl) (v_10, v_4, v_5, v_6) (show (0 ≤ v_10.toInt) ∧ (kZ v_4) ∧ (∀ k p : Nat, (k : Int) < v_3.toInt → k < 40 → sbit ala k → fa.toInt ≤ p → (p : Int) < ba.toInt → (p : Int) < (fc_longest k).toInt → ¬ v_4.toInt = 0 ∧ v_5.toInt ≤ (fc_leastAt (12 * k + p)).toInt ∧ (fc_greatestAt (12 * k + p)).toInt ≤ v_6.toInt) ∧ (∀ p : Nat, fa.toInt ≤ p → (p : Int) < v_10.toInt → (p : Int) < ba.toInt → (p : Int) < (fc_longest (v_3).toNatClampNeg).toInt → ¬ v_4.toInt = 0 ∧ v_5.toInt ≤ (fc_leastAt (12 * (v_3).toNatClampNeg + p)).toInt ∧ (fc_greatestAt (12 * (v_3).toNatClampNeg + p)).toInt ≤ v_6.toInt) from ⟨(by omega), q_v_4, x_2_0, (fun p h1 hp => by omega)⟩) (by exact hP) (by exact hD) hS (by exact hl) (fun u_12 hu_12 ih_12 H_12 locs_12 ls1 hP1 hD1 hS1 hl1 => ?_)
      obtain ⟨v_13, v_14, v_15, v_16⟩ := u_12
      replace hu_12 : (0 ≤ v_13.toInt) ∧ (kZ v_14) ∧ (∀ k p : Nat, (k : Int) < v_3.toInt → k < 40 → sbit ala k → fa.toInt ≤ p → (p : Int) < ba.toInt → (p : Int) < (fc_longest k).toInt → ¬ v_14.toInt = 0 ∧ v_15.toInt ≤ (fc_leastAt (12 * k + p)).toInt ∧ (fc_greatestAt (12 * k + p)).toInt ≤ v_16.toInt) ∧ (∀ p : Nat, fa.toInt ≤ p → (p : Int) < v_13.toInt → (p : Int) < ba.toInt → (p : Int) < (fc_longest (v_3).toNatClampNeg).toInt → ¬ v_14.toInt = 0 ∧ v_15.toInt ≤ (fc_leastAt (12 * (v_3).toNatClampNeg + p)).toInt ∧ (fc_greatestAt (12 * (v_3).toNatClampNeg + p)).toInt ≤ v_16.toInt) := hu_12
      obtain ⟨q_v_13, q_v_14, x_12_0, x_12_1⟩ := hu_12
      replace hP : va_P (dC, dI) vwCl [(lh, .inr (1, [.ref fh, l_ahead, .int l_isOld, l_isReached, l_mayThrow, .int v_14, .int v_15, .int v_16])), (fh, .inr (0, [.int f_isReached, f_least, f_greatest, f_sites, f_maybeNull, f_known, f_lanes, f_shortest, .ref fa_longest, .ref fa_leastAt, .ref fa_greatestAt])), (fa_longest, .inl (cI, 40, .inl fc_longest)), (fa_leastAt, .inl (cI, 480, .inl fc_leastAt)), (fa_greatestAt, .inl (cI, 480, .inl fc_greatestAt))] H_12 := hP1
      replace hD : va_D A [(lh, .inr (1, [.ref fh, l_ahead, .int l_isOld, l_isReached, l_mayThrow, .int v_14, .int v_15, .int v_16])), (fh, .inr (0, [.int f_isReached, f_least, f_greatest, f_sites, f_maybeNull, f_known, f_lanes, f_shortest, .ref fa_longest, .ref fa_leastAt, .ref fa_greatestAt])), (fa_longest, .inl (cI, 40, .inl fc_longest)), (fa_leastAt, .inl (cI, 480, .inl fc_leastAt)), (fa_greatestAt, .inl (cI, 480, .inl fc_greatestAt))] := hD1
      replace hS := hS1
      clear hP1 hD1 hS1
      replace hl : lv_has ls1 10 [(7, .int v_13), (6, .int v_3), (0, .ref lh), (1, .long ala), (3, .int fa), (4, .long ba)] := hl1
      clear hl1
      refine lv_iload hx hb dX1_gather_34 (lv_at hl 0 rfl) ?_
      refine sf_i2l hx hb dX1_gather_36 (fun v_17 q_v_17 => ?_)
      refine lv_lload hx hb dX1_gather_37 (lv_at hl 5 rfl) ?_
      refine W.lcmp hx hb dX1_gather_39 ?_
      refine lv_if_ge (tgt := 155) hx hb dX1_gather_40 (by decide) (fun c_18 => ?_) (fun c_18 => ?_)
      · -- yes
        have k_18 : ba.toInt ≤ v_17.toInt := lc_ge c_18
        refine sf_iinc hx hb dX1_gather_155 hl (k := 1) (x := v_3) (w := 1) rfl (by decide) (by decide) ⟨by omega, by omega⟩ (fun v_19 q_v_19 ls1 hl1 => ?_)
        replace hl : lv_has ls1 10 [(6, .int v_19), (7, .int v_13), (0, .ref lh), (1, .long ala), (3, .int fa), (4, .long ba)] := hl1
        clear hl1
        refine lv_goto (tgt := 8) hx hb dX1_gather_158 (by decide) ?_
        exact ih_2 (v_19, v_14, v_15, v_16) (show (0 ≤ v_19.toInt ∧ v_19.toInt ≤ 40) ∧ (kZ v_14) ∧ (∀ k p : Nat, (k : Int) < v_19.toInt → k < 40 → sbit ala k → fa.toInt ≤ p → (p : Int) < ba.toInt → (p : Int) < (fc_longest k).toInt → ¬ v_14.toInt = 0 ∧ v_15.toInt ≤ (fc_leastAt (12 * k + p)).toInt ∧ (fc_greatestAt (12 * k + p)).toInt ≤ v_16.toInt) from ⟨⟨by omega, by omega⟩, q_v_14, (fun q p hq h40 hs h1 h2 h3 => by have b7 := nn_cl2 v_3; by_cases hk : q = (v_3).toNatClampNeg; (· subst hk; exact x_12_1 p h1 (by omega) h2 h3); (· exact x_12_0 q p (by omega) h40 hs h1 h2 h3))⟩) (by show (40 - v_19.toInt).toNat < (40 - v_3.toInt).toNat; omega) _ _ _ (hP.sub [0, 1, 2, 3, 4] rfl) (hD.sub [0, 1, 2, 3, 4] (by decide) rfl) hS (lv_sub hl [0, 2, 3, 4, 5] rfl)
      · -- no
        have k_18 : v_17.toInt < ba.toInt := lc_nge c_18
        refine lv_iload hx hb dX1_gather_43 (lv_at hl 0 rfl) ?_
        refine lv_aload_n hx hb dX1_gather_45 rfl (lv_at hl 2 rfl) ?_
        refine va_get (D := (dC, dI)) (ci := 1) (v := .ref fh) (C := RX1) (T := TX1) (N := 8) hx hb hts inv_X1_gather_X1 hown hK hP 0 rfl rfl 0 (by decide) (hts (.fieldLink RX1 12 "ArraySegments$Flow" "now" "LArraySegments$Facts;") (List.mem_of_getElem? (i := 8) rfl)) (fun _ h9 => h9) rfl dX1_gather_46 ?_
        refine va_get (D := (dC, dI)) (ci := 0) (v := .ref fa_longest) (C := RX0) (T := TX0) (N := 11) hx hb hts inv_X1_gather_X0 hown hK hP 1 rfl rfl 8 (by decide) (hts (.fieldLink RX1 200 "ArraySegments$Facts" "longest" "[I") (List.mem_of_getElem? (i := 9) rfl)) (fun _ h9 => h9) rfl dX1_gather_49 ?_
        refine lv_iload hx hb dX1_gather_52 (lv_at hl 1 rfl) ?_
        refine sf_iald kLE12 hx hb hK hP 2 0 rfl rfl h_fc_longest (vp_in_iff.mpr ⟨by omega, by omega⟩) dX1_gather_54 (fun v_20 q_v_20 e_v_20 => ?_)
        have et_v_20 : v_20.toInt = (fc_longest (v_3).toNatClampNeg).toInt := by rw [e_v_20]
        have ni_21 := nn_cl (z := v_3) (by omega)
        have ir_v_20 := i32r v_20
        refine lv_icmp_ge (tgt := 155) hx hb dX1_gather_55 (by decide) (fun c_22 => ?_) (fun c_22 => ?_)
        · -- yes
          have k_22 : v_20.toInt ≤ v_13.toInt := ci_ge c_22
          refine sf_iinc hx hb dX1_gather_155 hl (k := 1) (x := v_3) (w := 1) rfl (by decide) (by decide) ⟨by omega, by omega⟩ (fun v_23 q_v_23 ls1 hl1 => ?_)
          replace hl : lv_has ls1 10 [(6, .int v_23), (7, .int v_13), (0, .ref lh), (1, .long ala), (3, .int fa), (4, .long ba)] := hl1
          clear hl1
          refine lv_goto (tgt := 8) hx hb dX1_gather_158 (by decide) ?_
          exact ih_2 (v_23, v_14, v_15, v_16) (show (0 ≤ v_23.toInt ∧ v_23.toInt ≤ 40) ∧ (kZ v_14) ∧ (∀ k p : Nat, (k : Int) < v_23.toInt → k < 40 → sbit ala k → fa.toInt ≤ p → (p : Int) < ba.toInt → (p : Int) < (fc_longest k).toInt → ¬ v_14.toInt = 0 ∧ v_15.toInt ≤ (fc_leastAt (12 * k + p)).toInt ∧ (fc_greatestAt (12 * k + p)).toInt ≤ v_16.toInt) from ⟨⟨by omega, by omega⟩, q_v_14, (fun q p hq h40 hs h1 h2 h3 => by have b7 := nn_cl2 v_3; by_cases hk : q = (v_3).toNatClampNeg; (· subst hk; exact x_12_1 p h1 (by omega) h2 h3); (· exact x_12_0 q p (by omega) h40 hs h1 h2 h3))⟩) (by show (40 - v_23.toInt).toNat < (40 - v_3.toInt).toNat; omega) _ _ _ (hP.sub [0, 1, 2, 3, 4] rfl) (hD.sub [0, 1, 2, 3, 4] (by decide) rfl) hS (lv_sub hl [0, 2, 3, 4, 5] rfl)
        · -- no
          have k_22 : v_13.toInt < v_20.toInt := ci_nge c_22
          refine lv_aload_n hx hb dX1_gather_58 rfl (lv_at hl 2 rfl) ?_
          refine va_get (D := (dC, dI)) (ci := 1) (v := .ref fh) (C := RX1) (T := TX1) (N := 8) hx hb hts inv_X1_gather_X1 hown hK hP 0 rfl rfl 0 (by decide) (hts (.fieldLink RX1 12 "ArraySegments$Flow" "now" "LArraySegments$Facts;") (List.mem_of_getElem? (i := 8) rfl)) (fun _ h9 => h9) rfl dX1_gather_59 ?_
          refine va_get (D := (dC, dI)) (ci := 0) (v := .ref fa_leastAt) (C := RX0) (T := TX0) (N := 11) hx hb hts inv_X1_gather_X0 hown hK hP 1 rfl rfl 9 (by decide) (hts (.fieldLink RX1 246 "ArraySegments$Facts" "leastAt" "[I") (List.mem_of_getElem? (i := 10) rfl)) (fun _ h9 => h9) rfl dX1_gather_62 ?_
          refine lv_iload hx hb dX1_gather_65 (lv_at hl 1 rfl) ?_
          refine lv_bipush (v := 12) hx hb dX1_gather_67 (by decide) ?_
          refine sf_imul (w := v_3.toInt) (z := 12) hx hb dX1_gather_69 rfl (by decide) ⟨by omega, by omega⟩ (fun v_24 q_v_24 => ?_)
          refine lv_iload hx hb dX1_gather_70 (lv_at hl 0 rfl) ?_
          refine sf_iadd hx hb dX1_gather_72 ⟨by omega, by omega⟩ (fun v_25 q_v_25 => ?_)
          refine sf_iald kT hx hb hK hP 3 0 rfl rfl (fun _ => trivial) (vp_in_iff.mpr ⟨by omega, by omega⟩) dX1_gather_73 (fun v_26 q_v_26 e_v_26 => ?_)
          have et_v_26 : v_26.toInt = (fc_leastAt (v_25).toNatClampNeg).toInt := by rw [e_v_26]
          have ni_27 := nn_cl (z := v_25) (by omega)
          have ir_v_26 := i32r v_26
          rw [show (v_25).toNatClampNeg = 12 * (v_3).toNatClampNeg + (v_13).toNatClampNeg from by have b7 := nn_cl2 v_3; have b8 := nn_cl2 v_13; omega] at et_v_26
          refine lv_istore (lv' := [(8, .int v_26), (7, .int v_13), (6, .int v_3), (0, .ref lh), (1, .long ala), (3, .int fa), (4, .long ba)]) hx hb dX1_gather_74 hl (by decide) rfl (fun ls1 hl1 => ?_)
          replace hl := hl1; clear hl1
          refine lv_aload_n hx hb dX1_gather_76 rfl (lv_at hl 3 rfl) ?_
          refine va_get (D := (dC, dI)) (ci := 1) (v := .ref fh) (C := RX1) (T := TX1) (N := 8) hx hb hts inv_X1_gather_X1 hown hK hP 0 rfl rfl 0 (by decide) (hts (.fieldLink RX1 12 "ArraySegments$Flow" "now" "LArraySegments$Facts;") (List.mem_of_getElem? (i := 8) rfl)) (fun _ h9 => h9) rfl dX1_gather_77 ?_
          refine va_get (D := (dC, dI)) (ci := 0) (v := .ref fa_greatestAt) (C := RX0) (T := TX0) (N := 11) hx hb hts inv_X1_gather_X0 hown hK hP 1 rfl rfl 10 (by decide) (hts (.fieldLink RX1 249 "ArraySegments$Facts" "greatestAt" "[I") (List.mem_of_getElem? (i := 11) rfl)) (fun _ h9 => h9) rfl dX1_gather_80 ?_
          refine lv_iload hx hb dX1_gather_83 (lv_at hl 2 rfl) ?_
          refine lv_bipush (v := 12) hx hb dX1_gather_85 (by decide) ?_
          refine sf_imul (w := v_3.toInt) (z := 12) hx hb dX1_gather_87 rfl (by decide) ⟨by omega, by omega⟩ (fun v_28 q_v_28 => ?_)
          refine lv_iload hx hb dX1_gather_88 (lv_at hl 1 rfl) ?_
          refine sf_iadd hx hb dX1_gather_90 ⟨by omega, by omega⟩ (fun v_29 q_v_29 => ?_)
          refine sf_iald kT hx hb hK hP 4 0 rfl rfl (fun _ => trivial) (vp_in_iff.mpr ⟨by omega, by omega⟩) dX1_gather_91 (fun v_30 q_v_30 e_v_30 => ?_)
          have et_v_30 : v_30.toInt = (fc_greatestAt (v_29).toNatClampNeg).toInt := by rw [e_v_30]
          have ni_31 := nn_cl (z := v_29) (by omega)
          have ir_v_30 := i32r v_30
          rw [show (v_29).toNatClampNeg = 12 * (v_3).toNatClampNeg + (v_13).toNatClampNeg from by have b7 := nn_cl2 v_3; have b8 := nn_cl2 v_13; omega] at et_v_30
          refine lv_istore (lv' := [(9, .int v_30), (8, .int v_26), (7, .int v_13), (6, .int v_3), (0, .ref lh), (1, .long ala), (3, .int fa), (4, .long ba)]) hx hb dX1_gather_92 hl (by decide) rfl (fun ls1 hl1 => ?_)
          replace hl := hl1; clear hl1
          refine lv_aload_n hx hb dX1_gather_94 rfl (lv_at hl 4 rfl) ?_
          refine lv_aload_n hx hb dX1_gather_95 rfl (lv_at hl 4 rfl) ?_
          refine va_get (D := (dC, dI)) (ci := 1) (v := .int v_14) (C := RX1) (T := TX1) (N := 8) hx hb hts inv_X1_gather_X1 hown hK hP 0 rfl rfl 5 (by decide) (hts (.fieldLink RX1 33 "ArraySegments$Flow" "gatheredAny" "Z") (List.mem_of_getElem? (i := 1) rfl)) (fun _ h9 => h9) rfl dX1_gather_96 ?_
          refine lv_if_eq (tgt := 114) hx hb dX1_gather_99 (by decide) (fun c_32 => ?_) (fun c_32 => ?_)
          · -- yes
            have k_32 : v_14.toInt = (0 : Int32).toInt := ci_eq c_32
            refine lv_iload hx hb dX1_gather_114 (lv_at hl 1 rfl) ?_
            refine va_put (D := (dC, dI)) (ci := 1) (v := .int v_26) (ty := .int) (C := RX1) (T := TX1) (N := 8) hx hb hts inv_X1_gather_X1 tyX1 tyX1_ok nmX1 hown hK hP hD hS 0 rfl rfl 6 (by decide) (hts (.fieldLink RX1 36 "ArraySegments$Flow" "gatheredLeast" "I") (List.mem_of_getElem? (i := 12) rfl)) (fun _ h9 => h9) rfl (by decide +kernel) rfl rfl (Nat.le_of_ble_eq_true rfl) dX1_gather_116 (fun H_33 locs_33 hP1 hD1 hS1 => ?_)
            replace hP : va_P (dC, dI) vwCl [(lh, .inr (1, [.ref fh, l_ahead, .int l_isOld, l_isReached, l_mayThrow, .int v_14, .int v_26, .int v_16])), (fh, .inr (0, [.int f_isReached, f_least, f_greatest, f_sites, f_maybeNull, f_known, f_lanes, f_shortest, .ref fa_longest, .ref fa_leastAt, .ref fa_greatestAt])), (fa_longest, .inl (cI, 40, .inl fc_longest)), (fa_leastAt, .inl (cI, 480, .inl fc_leastAt)), (fa_greatestAt, .inl (cI, 480, .inl fc_greatestAt))] H_33 := hP1
            replace hD : va_D A [(lh, .inr (1, [.ref fh, l_ahead, .int l_isOld, l_isReached, l_mayThrow, .int v_14, .int v_26, .int v_16])), (fh, .inr (0, [.int f_isReached, f_least, f_greatest, f_sites, f_maybeNull, f_known, f_lanes, f_shortest, .ref fa_longest, .ref fa_leastAt, .ref fa_greatestAt])), (fa_longest, .inl (cI, 40, .inl fc_longest)), (fa_leastAt, .inl (cI, 480, .inl fc_leastAt)), (fa_greatestAt, .inl (cI, 480, .inl fc_greatestAt))] := hD1
            replace hS := hS1
            clear hP1 hD1 hS1
            refine lv_aload_n hx hb dX1_gather_119 rfl (lv_at hl 4 rfl) ?_
            refine lv_aload_n hx hb dX1_gather_120 rfl (lv_at hl 4 rfl) ?_
            refine va_get (D := (dC, dI)) (ci := 1) (v := .int v_14) (C := RX1) (T := TX1) (N := 8) hx hb hts inv_X1_gather_X1 hown hK hP 0 rfl rfl 5 (by decide) (hts (.fieldLink RX1 33 "ArraySegments$Flow" "gatheredAny" "Z") (List.mem_of_getElem? (i := 1) rfl)) (fun _ h9 => h9) rfl dX1_gather_121 ?_
            refine lv_if_eq (tgt := 139) hx hb dX1_gather_124 (by decide) (fun c_34 => ?_) (fun c_34 => ?_)
            · -- yes
              have k_34 : v_14.toInt = (0 : Int32).toInt := ci_eq c_34
              refine lv_iload hx hb dX1_gather_139 (lv_at hl 0 rfl) ?_
              refine va_put (D := (dC, dI)) (ci := 1) (v := .int v_30) (ty := .int) (C := RX1) (T := TX1) (N := 8) hx hb hts inv_X1_gather_X1 tyX1 tyX1_ok nmX1 hown hK hP hD hS 0 rfl rfl 7 (by decide) (hts (.fieldLink RX1 40 "ArraySegments$Flow" "gatheredGreatest" "I") (List.mem_of_getElem? (i := 13) rfl)) (fun _ h9 => h9) rfl (by decide +kernel) rfl rfl (Nat.le_of_ble_eq_true rfl) dX1_gather_141 (fun H_35 locs_35 hP1 hD1 hS1 => ?_)
              replace hP : va_P (dC, dI) vwCl [(lh, .inr (1, [.ref fh, l_ahead, .int l_isOld, l_isReached, l_mayThrow, .int v_14, .int v_26, .int v_30])), (fh, .inr (0, [.int f_isReached, f_least, f_greatest, f_sites, f_maybeNull, f_known, f_lanes, f_shortest, .ref fa_longest, .ref fa_leastAt, .ref fa_greatestAt])), (fa_longest, .inl (cI, 40, .inl fc_longest)), (fa_leastAt, .inl (cI, 480, .inl fc_leastAt)), (fa_greatestAt, .inl (cI, 480, .inl fc_greatestAt))] H_35 := hP1
              replace hD : va_D A [(lh, .inr (1, [.ref fh, l_ahead, .int l_isOld, l_isReached, l_mayThrow, .int v_14, .int v_26, .int v_30])), (fh, .inr (0, [.int f_isReached, f_least, f_greatest, f_sites, f_maybeNull, f_known, f_lanes, f_shortest, .ref fa_longest, .ref fa_leastAt, .ref fa_greatestAt])), (fa_longest, .inl (cI, 40, .inl fc_longest)), (fa_leastAt, .inl (cI, 480, .inl fc_leastAt)), (fa_greatestAt, .inl (cI, 480, .inl fc_greatestAt))] := hD1
              replace hS := hS1
              clear hP1 hD1 hS1
              refine lv_aload_n hx hb dX1_gather_144 rfl (lv_at hl 4 rfl) ?_
              refine lv_iconst (v := 1) hx hb dX1_gather_145 (by decide) ?_
              refine va_put (D := (dC, dI)) (ci := 1) (v := .int 1) (ty := .boolean) (C := RX1) (T := TX1) (N := 8) hx hb hts inv_X1_gather_X1 tyX1 tyX1_ok nmX1 hown hK hP hD hS 0 rfl rfl 5 (by decide) (hts (.fieldLink RX1 33 "ArraySegments$Flow" "gatheredAny" "Z") (List.mem_of_getElem? (i := 1) rfl)) (fun _ h9 => h9) rfl (by decide +kernel) rfl rfl (Nat.le_of_ble_eq_true rfl) dX1_gather_146 (fun H_36 locs_36 hP1 hD1 hS1 => ?_)
              replace hP : va_P (dC, dI) vwCl [(lh, .inr (1, [.ref fh, l_ahead, .int l_isOld, l_isReached, l_mayThrow, .int 1, .int v_26, .int v_30])), (fh, .inr (0, [.int f_isReached, f_least, f_greatest, f_sites, f_maybeNull, f_known, f_lanes, f_shortest, .ref fa_longest, .ref fa_leastAt, .ref fa_greatestAt])), (fa_longest, .inl (cI, 40, .inl fc_longest)), (fa_leastAt, .inl (cI, 480, .inl fc_leastAt)), (fa_greatestAt, .inl (cI, 480, .inl fc_greatestAt))] H_36 := hP1
              replace hD : va_D A [(lh, .inr (1, [.ref fh, l_ahead, .int l_isOld, l_isReached, l_mayThrow, .int 1, .int v_26, .int v_30])), (fh, .inr (0, [.int f_isReached, f_least, f_greatest, f_sites, f_maybeNull, f_known, f_lanes, f_shortest, .ref fa_longest, .ref fa_leastAt, .ref fa_greatestAt])), (fa_longest, .inl (cI, 40, .inl fc_longest)), (fa_leastAt, .inl (cI, 480, .inl fc_leastAt)), (fa_greatestAt, .inl (cI, 480, .inl fc_greatestAt))] := hD1
              replace hS := hS1
              clear hP1 hD1 hS1
              refine sf_iinc hx hb dX1_gather_149 hl (k := 2) (x := v_13) (w := 1) rfl (by decide) (by decide) ⟨by omega, by omega⟩ (fun v_37 q_v_37 ls1 hl1 => ?_)
              replace hl : lv_has ls1 10 [(7, .int v_37), (9, .int v_30), (8, .int v_26), (6, .int v_3), (0, .ref lh), (1, .long ala), (3, .int fa), (4, .long ba)] := hl1
              clear hl1
              refine lv_goto (tgt := 34) hx hb dX1_gather_152 (by decide) ?_
              exact ih_12 (v_37, (1 : Int32), v_26, v_30) (show (0 ≤ v_37.toInt) ∧ (kZ (1 : Int32)) ∧ (∀ k p : Nat, (k : Int) < v_3.toInt → k < 40 → sbit ala k → fa.toInt ≤ p → (p : Int) < ba.toInt → (p : Int) < (fc_longest k).toInt → ¬ (1 : Int32).toInt = 0 ∧ v_26.toInt ≤ (fc_leastAt (12 * k + p)).toInt ∧ (fc_greatestAt (12 * k + p)).toInt ≤ v_30.toInt) ∧ (∀ p : Nat, fa.toInt ≤ p → (p : Int) < v_37.toInt → (p : Int) < ba.toInt → (p : Int) < (fc_longest (v_3).toNatClampNeg).toInt → ¬ (1 : Int32).toInt = 0 ∧ v_26.toInt ≤ (fc_leastAt (12 * (v_3).toNatClampNeg + p)).toInt ∧ (fc_greatestAt (12 * (v_3).toNatClampNeg + p)).toInt ≤ v_30.toInt) from ⟨(by omega), (by decide), (fun q p hq h40 hs h1 h2 h3 => by have b0 := x_12_0 q p hq h40 hs h1 h2 h3; omega), (fun p h1 hp h2 h3 => by have b7 := nn_cl2 v_13; have b8 := nn_cl2 v_3; by_cases hk : p = (v_13).toNatClampNeg; (· subst hk; omega); (· have b0 := x_12_1 p h1 (by omega) h2 h3; omega))⟩) (by show (12 - v_37.toInt).toNat < (12 - v_13.toInt).toNat; omega) _ _ _ (hP.sub [0, 1, 2, 3, 4] rfl) (hD.sub [0, 1, 2, 3, 4] (by decide) rfl) hS (lv_sub hl [0, 3, 4, 5, 6, 7] rfl)
            · -- no
              have k_34 : ¬ v_14.toInt = (0 : Int32).toInt := ci_ne c_34
              exfalso; omega
          · -- no
            have k_32 : ¬ v_14.toInt = (0 : Int32).toInt := ci_ne c_32
            refine lv_aload_n hx hb dX1_gather_102 rfl (lv_at hl 4 rfl) ?_
            refine va_get (D := (dC, dI)) (ci := 1) (v := .int v_15) (C := RX1) (T := TX1) (N := 8) hx hb hts inv_X1_gather_X1 hown hK hP 0 rfl rfl 6 (by decide) (hts (.fieldLink RX1 36 "ArraySegments$Flow" "gatheredLeast" "I") (List.mem_of_getElem? (i := 12) rfl)) (fun _ h9 => h9) rfl dX1_gather_103 ?_
            refine lv_iload hx hb dX1_gather_106 (lv_at hl 1 rfl) ?_
            have ir_39 := i32r v_15
            have ir_40 := i32r v_26
            refine sf_mmin hx hb (by rw [hml]; exact hl.1.symm) hown (hts (.methodLink RX1 166 Lib.Math.min.name) (List.mem_of_getElem? (i := 14) rfl)) (hts (.static Lib.Math.min.name) (List.mem_of_getElem? (i := 15) rfl)) (hts (.initialized "java/lang/Math") (List.mem_of_getElem? (i := 6) rfl)) (hts (.code Lib.Math.min.name Lib.Math.min.code 2 (some .int)) (List.mem_of_getElem? (i := 16) rfl)) (Nat.le_of_ble_eq_true rfl) (Nat.le_of_ble_eq_true rfl) (Nat.le_of_ble_eq_true rfl) (Nat.le_of_ble_eq_true rfl) dX1_gather_108 (fun v_38 q_v_38 => ?_)
            refine lv_goto (tgt := 116) hx hb dX1_gather_111 (by decide) ?_
            refine va_put (D := (dC, dI)) (ci := 1) (v := .int v_38) (ty := .int) (C := RX1) (T := TX1) (N := 8) hx hb hts inv_X1_gather_X1 tyX1 tyX1_ok nmX1 hown hK hP hD hS 0 rfl rfl 6 (by decide) (hts (.fieldLink RX1 36 "ArraySegments$Flow" "gatheredLeast" "I") (List.mem_of_getElem? (i := 12) rfl)) (fun _ h9 => h9) rfl (by decide +kernel) rfl rfl (Nat.le_of_ble_eq_true rfl) dX1_gather_116 (fun H_41 locs_41 hP1 hD1 hS1 => ?_)
            replace hP : va_P (dC, dI) vwCl [(lh, .inr (1, [.ref fh, l_ahead, .int l_isOld, l_isReached, l_mayThrow, .int v_14, .int v_38, .int v_16])), (fh, .inr (0, [.int f_isReached, f_least, f_greatest, f_sites, f_maybeNull, f_known, f_lanes, f_shortest, .ref fa_longest, .ref fa_leastAt, .ref fa_greatestAt])), (fa_longest, .inl (cI, 40, .inl fc_longest)), (fa_leastAt, .inl (cI, 480, .inl fc_leastAt)), (fa_greatestAt, .inl (cI, 480, .inl fc_greatestAt))] H_41 := hP1
            replace hD : va_D A [(lh, .inr (1, [.ref fh, l_ahead, .int l_isOld, l_isReached, l_mayThrow, .int v_14, .int v_38, .int v_16])), (fh, .inr (0, [.int f_isReached, f_least, f_greatest, f_sites, f_maybeNull, f_known, f_lanes, f_shortest, .ref fa_longest, .ref fa_leastAt, .ref fa_greatestAt])), (fa_longest, .inl (cI, 40, .inl fc_longest)), (fa_leastAt, .inl (cI, 480, .inl fc_leastAt)), (fa_greatestAt, .inl (cI, 480, .inl fc_greatestAt))] := hD1
            replace hS := hS1
            clear hP1 hD1 hS1
            refine lv_aload_n hx hb dX1_gather_119 rfl (lv_at hl 4 rfl) ?_
            refine lv_aload_n hx hb dX1_gather_120 rfl (lv_at hl 4 rfl) ?_
            refine va_get (D := (dC, dI)) (ci := 1) (v := .int v_14) (C := RX1) (T := TX1) (N := 8) hx hb hts inv_X1_gather_X1 hown hK hP 0 rfl rfl 5 (by decide) (hts (.fieldLink RX1 33 "ArraySegments$Flow" "gatheredAny" "Z") (List.mem_of_getElem? (i := 1) rfl)) (fun _ h9 => h9) rfl dX1_gather_121 ?_
            refine lv_if_eq (tgt := 139) hx hb dX1_gather_124 (by decide) (fun c_42 => ?_) (fun c_42 => ?_)
            · -- yes
              have k_42 : v_14.toInt = (0 : Int32).toInt := ci_eq c_42
              exfalso; omega
            · -- no
              have k_42 : ¬ v_14.toInt = (0 : Int32).toInt := ci_ne c_42
              refine lv_aload_n hx hb dX1_gather_127 rfl (lv_at hl 4 rfl) ?_
              refine va_get (D := (dC, dI)) (ci := 1) (v := .int v_16) (C := RX1) (T := TX1) (N := 8) hx hb hts inv_X1_gather_X1 hown hK hP 0 rfl rfl 7 (by decide) (hts (.fieldLink RX1 40 "ArraySegments$Flow" "gatheredGreatest" "I") (List.mem_of_getElem? (i := 13) rfl)) (fun _ h9 => h9) rfl dX1_gather_128 ?_
              refine lv_iload hx hb dX1_gather_131 (lv_at hl 0 rfl) ?_
              have ir_44 := i32r v_16
              have ir_45 := i32r v_30
              refine sf_mmax hx hb (by rw [hml]; exact hl.1.symm) hown (hts (.methodLink RX1 243 Lib.Math.max.name) (List.mem_of_getElem? (i := 4) rfl)) (hts (.static Lib.Math.max.name) (List.mem_of_getElem? (i := 5) rfl)) (hts (.initialized "java/lang/Math") (List.mem_of_getElem? (i := 6) rfl)) (hts (.code Lib.Math.max.name Lib.Math.max.code 2 (some .int)) (List.mem_of_getElem? (i := 7) rfl)) (Nat.le_of_ble_eq_true rfl) (Nat.le_of_ble_eq_true rfl) (Nat.le_of_ble_eq_true rfl) (Nat.le_of_ble_eq_true rfl) dX1_gather_133 (fun v_43 q_v_43 => ?_)
              refine lv_goto (tgt := 141) hx hb dX1_gather_136 (by decide) ?_
              refine va_put (D := (dC, dI)) (ci := 1) (v := .int v_43) (ty := .int) (C := RX1) (T := TX1) (N := 8) hx hb hts inv_X1_gather_X1 tyX1 tyX1_ok nmX1 hown hK hP hD hS 0 rfl rfl 7 (by decide) (hts (.fieldLink RX1 40 "ArraySegments$Flow" "gatheredGreatest" "I") (List.mem_of_getElem? (i := 13) rfl)) (fun _ h9 => h9) rfl (by decide +kernel) rfl rfl (Nat.le_of_ble_eq_true rfl) dX1_gather_141 (fun H_46 locs_46 hP1 hD1 hS1 => ?_)
              replace hP : va_P (dC, dI) vwCl [(lh, .inr (1, [.ref fh, l_ahead, .int l_isOld, l_isReached, l_mayThrow, .int v_14, .int v_38, .int v_43])), (fh, .inr (0, [.int f_isReached, f_least, f_greatest, f_sites, f_maybeNull, f_known, f_lanes, f_shortest, .ref fa_longest, .ref fa_leastAt, .ref fa_greatestAt])), (fa_longest, .inl (cI, 40, .inl fc_longest)), (fa_leastAt, .inl (cI, 480, .inl fc_leastAt)), (fa_greatestAt, .inl (cI, 480, .inl fc_greatestAt))] H_46 := hP1
              replace hD : va_D A [(lh, .inr (1, [.ref fh, l_ahead, .int l_isOld, l_isReached, l_mayThrow, .int v_14, .int v_38, .int v_43])), (fh, .inr (0, [.int f_isReached, f_least, f_greatest, f_sites, f_maybeNull, f_known, f_lanes, f_shortest, .ref fa_longest, .ref fa_leastAt, .ref fa_greatestAt])), (fa_longest, .inl (cI, 40, .inl fc_longest)), (fa_leastAt, .inl (cI, 480, .inl fc_leastAt)), (fa_greatestAt, .inl (cI, 480, .inl fc_greatestAt))] := hD1
              replace hS := hS1
              clear hP1 hD1 hS1
              refine lv_aload_n hx hb dX1_gather_144 rfl (lv_at hl 4 rfl) ?_
              refine lv_iconst (v := 1) hx hb dX1_gather_145 (by decide) ?_
              refine va_put (D := (dC, dI)) (ci := 1) (v := .int 1) (ty := .boolean) (C := RX1) (T := TX1) (N := 8) hx hb hts inv_X1_gather_X1 tyX1 tyX1_ok nmX1 hown hK hP hD hS 0 rfl rfl 5 (by decide) (hts (.fieldLink RX1 33 "ArraySegments$Flow" "gatheredAny" "Z") (List.mem_of_getElem? (i := 1) rfl)) (fun _ h9 => h9) rfl (by decide +kernel) rfl rfl (Nat.le_of_ble_eq_true rfl) dX1_gather_146 (fun H_47 locs_47 hP1 hD1 hS1 => ?_)
              replace hP : va_P (dC, dI) vwCl [(lh, .inr (1, [.ref fh, l_ahead, .int l_isOld, l_isReached, l_mayThrow, .int 1, .int v_38, .int v_43])), (fh, .inr (0, [.int f_isReached, f_least, f_greatest, f_sites, f_maybeNull, f_known, f_lanes, f_shortest, .ref fa_longest, .ref fa_leastAt, .ref fa_greatestAt])), (fa_longest, .inl (cI, 40, .inl fc_longest)), (fa_leastAt, .inl (cI, 480, .inl fc_leastAt)), (fa_greatestAt, .inl (cI, 480, .inl fc_greatestAt))] H_47 := hP1
              replace hD : va_D A [(lh, .inr (1, [.ref fh, l_ahead, .int l_isOld, l_isReached, l_mayThrow, .int 1, .int v_38, .int v_43])), (fh, .inr (0, [.int f_isReached, f_least, f_greatest, f_sites, f_maybeNull, f_known, f_lanes, f_shortest, .ref fa_longest, .ref fa_leastAt, .ref fa_greatestAt])), (fa_longest, .inl (cI, 40, .inl fc_longest)), (fa_leastAt, .inl (cI, 480, .inl fc_leastAt)), (fa_greatestAt, .inl (cI, 480, .inl fc_greatestAt))] := hD1
              replace hS := hS1
              clear hP1 hD1 hS1
              refine sf_iinc hx hb dX1_gather_149 hl (k := 2) (x := v_13) (w := 1) rfl (by decide) (by decide) ⟨by omega, by omega⟩ (fun v_48 q_v_48 ls1 hl1 => ?_)
              replace hl : lv_has ls1 10 [(7, .int v_48), (9, .int v_30), (8, .int v_26), (6, .int v_3), (0, .ref lh), (1, .long ala), (3, .int fa), (4, .long ba)] := hl1
              clear hl1
              refine lv_goto (tgt := 34) hx hb dX1_gather_152 (by decide) ?_
              exact ih_12 (v_48, (1 : Int32), v_38, v_43) (show (0 ≤ v_48.toInt) ∧ (kZ (1 : Int32)) ∧ (∀ k p : Nat, (k : Int) < v_3.toInt → k < 40 → sbit ala k → fa.toInt ≤ p → (p : Int) < ba.toInt → (p : Int) < (fc_longest k).toInt → ¬ (1 : Int32).toInt = 0 ∧ v_38.toInt ≤ (fc_leastAt (12 * k + p)).toInt ∧ (fc_greatestAt (12 * k + p)).toInt ≤ v_43.toInt) ∧ (∀ p : Nat, fa.toInt ≤ p → (p : Int) < v_48.toInt → (p : Int) < ba.toInt → (p : Int) < (fc_longest (v_3).toNatClampNeg).toInt → ¬ (1 : Int32).toInt = 0 ∧ v_38.toInt ≤ (fc_leastAt (12 * (v_3).toNatClampNeg + p)).toInt ∧ (fc_greatestAt (12 * (v_3).toNatClampNeg + p)).toInt ≤ v_43.toInt) from ⟨(by omega), (by decide), (fun q p hq h40 hs h1 h2 h3 => by have b0 := x_12_0 q p hq h40 hs h1 h2 h3; omega), (fun p h1 hp h2 h3 => by have b7 := nn_cl2 v_13; have b8 := nn_cl2 v_3; by_cases hk : p = (v_13).toNatClampNeg; (· subst hk; omega); (· have b0 := x_12_1 p h1 (by omega) h2 h3; omega))⟩) (by show (12 - v_48.toInt).toNat < (12 - v_13.toInt).toNat; omega) _ _ _ (hP.sub [0, 1, 2, 3, 4] rfl) (hD.sub [0, 1, 2, 3, 4] (by decide) rfl) hS (lv_sub hl [0, 3, 4, 5, 6, 7] rfl)
    · -- no
      have k_9 : r_8.toInt = (0 : Int32).toInt := ci_eq c_9
      have kt_9 : ¬ (sbit ala (v_3).toNatClampNeg) := two_z q_r_8 c_9
      refine lv_goto (tgt := 155) hx hb dX1_gather_24 (by decide) ?_
      refine sf_iinc hx hb dX1_gather_155 hl (k := 0) (x := v_3) (w := 1) rfl (by decide) (by decide) ⟨by omega, by omega⟩ (fun v_49 q_v_49 ls1 hl1 => ?_)
      replace hl : lv_has ls1 10 [(6, .int v_49), (0, .ref lh), (1, .long ala), (3, .int fa), (4, .long ba)] := hl1
      clear hl1
      refine lv_goto (tgt := 8) hx hb dX1_gather_158 (by decide) ?_
      exact ih_2 (v_49, v_4, v_5, v_6) (show (0 ≤ v_49.toInt ∧ v_49.toInt ≤ 40) ∧ (kZ v_4) ∧ (∀ k p : Nat, (k : Int) < v_49.toInt → k < 40 → sbit ala k → fa.toInt ≤ p → (p : Int) < ba.toInt → (p : Int) < (fc_longest k).toInt → ¬ v_4.toInt = 0 ∧ v_5.toInt ≤ (fc_leastAt (12 * k + p)).toInt ∧ (fc_greatestAt (12 * k + p)).toInt ≤ v_6.toInt) from ⟨⟨by omega, by omega⟩, q_v_4, (fun q p hq h40 hs h1 h2 h3 => by have b7 := nn_cl2 v_3; by_cases hk : q = (v_3).toNatClampNeg; (· subst hk; exact absurd hs kt_9); (· exact x_2_0 q p (by omega) h40 hs h1 h2 h3))⟩) (by show (40 - v_49.toInt).toNat < (40 - v_3.toInt).toNat; omega) _ _ _ (hP.sub [0, 1, 2, 3, 4] rfl) (hD.sub [0, 1, 2, 3, 4] (by decide) rfl) hS (lv_sub hl [0, 1, 2, 3, 4] rfl)
