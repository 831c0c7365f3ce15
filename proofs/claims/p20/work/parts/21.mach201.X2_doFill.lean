def v_X2_doFill : List Cond := .code yX2_doFill cX2_doFill 8 (some .int) :: ([.methodLink RX2 108 yX2_doWrite, .instanceMethod yX2_doWrite, .selects RX2 yX2_doWrite yX2_doWrite, .initialized RX2] ++ (v_X2_doWrite))
theorem im_X2_doFill_X2_doWrite : ∀ w ∈ v_X2_doWrite, w ∈ v_X2_doFill := fun _ h => List.mem_cons_of_mem _ (List.mem_append_right _ (h))
set_option maxRecDepth 20000 in
theorem gd_X2_doFill : gdL v_X2_doFill := gdC (gdW (by decide +kernel)) (gdA (gdW (by decide +kernel)) gd_X2_doWrite)
set_option maxRecDepth 20000 in
theorem h_X2_doFill_X2_doWrite_108 : GoodIn v_X2_doFill (wsV RX2 108 RX2 yX2_doWrite v_X2_doWrite) := gdI [1, 2, 3, 4] rfl (by decide +kernel) (im_X2_doFill_X2_doWrite) gd_X2_doWrite
abbrev sw_X2_doFill (cI cJ cZ : ClassId) (mh : Nat) (m_hasRun : Int32) (m_thrown : Int32) (m_thrownAt : Int32) (m_values : Value) (m_meant : Value) (ma_lanes : Nat) (ma_lengths : Nat) (ma_cells : Nat) (m_state : Int64) (mc_lanes : Nat → Int32) (mc_lengths : Nat → Int32) (mc_cells : Nat → Int32) (arra : Int32) (la : Int32) (xa : Int32) (ya : Int32) (na : Int32) : va_W := [(mh, .inr (2, [.int m_hasRun, .int m_thrown, .int m_thrownAt, m_values, m_meant, .ref ma_lanes, .ref ma_lengths, .ref ma_cells, .long m_state])), (ma_lanes, .inl (cI, 40, .inl mc_lanes)), (ma_lengths, .inl (cI, 40, .inl mc_lengths)), (ma_cells, .inl (cI, 480, .inl mc_cells))]
set_option maxHeartbeats 8000000 in
set_option maxRecDepth 100000 in
theorem s_X2_doFill (l : Launch) (dC : Nat → ClassId) (dI : Nat → Nat → Nat) (cI cJ cZ : ClassId) (mh : Nat) (m_hasRun : Int32) (m_thrown : Int32) (m_thrownAt : Int32) (m_values : Value) (m_meant : Value) (ma_lanes : Nat) (ma_lengths : Nat) (ma_cells : Nat) (m_state : Int64) (mc_lanes : Nat → Int32) (mc_lengths : Nat → Int32) (mc_cells : Nat → Int32) (arra : Int32) (la : Int32) (xa : Int32) (ya : Int32) (na : Int32) (sz : Nat) (q_m_hasRun : kZ m_hasRun) (h_mc_lanes : ∀ j : Nat, kL3 (mc_lanes j)) (h_mc_lengths : ∀ j : Nat, kR012 (mc_lengths j)) (hy_arra : -1 ≤ arra.toInt ∧ arra.toInt ≤ 39) : Met l yX2_doFill v_X2_doFill ({ frames := 2, cells := 0, slots := 0, locals := 48 }) (va_Pc [.ref mh, .int arra, .int la, .int xa, .int ya, .int na] (cPre dC dI cI cJ cZ sz (sw_X2_doFill cI cJ cZ mh m_hasRun m_thrown m_thrownAt m_values m_meant ma_lanes ma_lengths ma_cells m_state mc_lanes mc_lengths mc_cells arra la xa ya na))) (va_Qi (fun (r : Int32) (u : (Nat → Int32)) => ((r.toInt = 0 ∧ ((ya.toInt ≤ xa.toInt ∧ (∀ j : Nat, ((u) j).toInt = (mc_cells j).toInt)) ∨ (xa.toInt < ya.toInt ∧ 0 ≤ arra.toInt ∧ (mc_lanes (arra).toNatClampNeg).toInt = la.toInt ∧ 0 ≤ xa.toInt ∧ ya.toInt ≤ (mc_lengths (arra).toNatClampNeg).toInt ∧ (∀ j : Nat, (12 * arra.toInt + xa.toInt ≤ j ∧ (j : Int) < 12 * arra.toInt + ya.toInt → castR la.toInt na.toInt ((u) j).toInt) ∧ (¬ (12 * arra.toInt + xa.toInt ≤ j ∧ (j : Int) < 12 * arra.toInt + ya.toInt) → ((u) j).toInt = (mc_cells j).toInt))))) ∨ (¬ r.toInt = 0 ∧ xa.toInt < ya.toInt ∧ ((arra.toInt < 0 ∧ r.toInt = 1) ∨ (0 ≤ arra.toInt ∧ ((¬ (mc_lanes (arra).toNatClampNeg).toInt = la.toInt ∧ r.toInt = 2) ∨ ((xa.toInt < 0 ∨ (mc_lengths (arra).toNatClampNeg).toInt < ya.toInt) ∧ r.toInt = 5))))))) (fun (u : (Nat → Int32)) => cPost dC dI cI cJ cZ (va_A (sw_X2_doFill cI cJ cZ mh m_hasRun m_thrown m_thrownAt m_values m_meant ma_lanes ma_lengths ma_cells m_state mc_lanes mc_lengths mc_cells arra la xa ya na) sz) [(mh, .inr (2, [.int m_hasRun, .int m_thrown, .int m_thrownAt, m_values, m_meant, .ref ma_lanes, .ref ma_lengths, .ref ma_cells, .long m_state])), (ma_lanes, .inl (cI, 40, .inl mc_lanes)), (ma_lengths, .inl (cI, 40, .inl mc_lengths)), (ma_cells, .inl (cI, 480, .inl (u)))]) (va_A (sw_X2_doFill cI cJ cZ mh m_hasRun m_thrown m_thrownAt m_values m_meant ma_lanes ma_lengths ma_cells m_state mc_lanes mc_lengths mc_cells arra la xa ya na) sz)) 0 0 (va_A (sw_X2_doFill cI cJ cZ mh m_hasRun m_thrown m_thrownAt m_values m_meant ma_lanes ma_lengths ma_cells m_state mc_lanes mc_lengths mc_cells arra la xa ya na) sz) := by
  refine Met.ofW (cc := cX2_doFill) (maxL := 8) (ret := (some .int)) (by decide) rfl ?_
  intro p e s m args below meth c s₁ B hml hv
  obtain ⟨rfl, hsz, hP, hK, hD0, hN⟩ := hv
  have hx := B.exec
  have hb := B.bytes
  have hr := B.returns
  have hts := atoms_spec (ws := v_X2_doFill) B.pre
  have hown : s.vm.findClass RX2 = some m.cls := findClass_of_methodNamed B.named
  have hlocks := B.notSynchronized
  subst hsz
  have hD := hD0.self (sz := s.heap.size)
  generalize hAe : va_A (sw_X2_doFill cI cJ cZ mh m_hasRun m_thrown m_thrownAt m_values m_meant ma_lanes ma_lengths ma_cells m_state mc_lanes mc_lengths mc_cells arra la xa ya na) s.heap.size = A at hD ⊢
  have hA : ∀ q : Nat, s.heap.size ≤ q → A q := fun q h => by rw [← hAe]; exact Or.inr h
  clear hAe hD0
  have hS : va_S A s.heap s.heap [] := va_S.rf
  replace hP : va_P (dC, dI) vwCl [(mh, .inr (2, [.int m_hasRun, .int m_thrown, .int m_thrownAt, m_values, m_meant, .ref ma_lanes, .ref ma_lengths, .ref ma_cells, .long m_state])), (ma_lanes, .inl (cI, 40, .inl mc_lanes)), (ma_lengths, .inl (cI, 40, .inl mc_lengths)), (ma_cells, .inl (cI, 480, .inl mc_cells))] s.heap := hP
  replace hD : va_D A [(mh, .inr (2, [.int m_hasRun, .int m_thrown, .int m_thrownAt, m_values, m_meant, .ref ma_lanes, .ref ma_lengths, .ref ma_cells, .long m_state])), (ma_lanes, .inl (cI, 40, .inl mc_lanes)), (ma_lengths, .inl (cI, 40, .inl mc_lengths)), (ma_cells, .inl (cI, 480, .inl mc_cells))] := hD
  have hl := lv_entry ([.ref mh, .int arra, .int la, .int xa, .int ya, .int na]) (n := 8) (Nat.le_of_ble_eq_true rfl)
  rw [lg_entry_eq]
  generalize (lg_sl ([.ref mh, .int arra, .int la, .int xa, .int ya, .int na]) ++ List.replicate (8 - (lg_sl ([.ref mh, .int arra, .int la, .int xa, .int ya, .int na])).length) Slot.unset).toArray = ls at hl ⊢
  replace hl : lv_has ls 8 [(0, .ref mh), (1, .int arra), (2, .int la), (3, .int xa), (4, .int ya), (5, .int na)] := hl
  have z_0 : (0 : Int32).toInt = 0 := by decide
  have z_1 : (1 : Int32).toInt = 1 := by decide
  have ir_ya := i32r ya
  have hl12 := h_mc_lengths (arra).toNatClampNeg
  refine lv_iconst (v := 0) hx hb dX2_doFill_0 (by decide) ?_
  refine lv_istore (lv' := [(6, .int 0), (0, .ref mh), (1, .int arra), (2, .int la), (3, .int xa), (4, .int ya), (5, .int na)]) hx hb dX2_doFill_1 hl (by decide) rfl (fun ls1 hl1 => ?_)
  replace hl := hl1; clear hl1
  refine lv_iload_n hx hb dX2_doFill_3 rfl (lv_at hl 4 rfl) ?_
  refine lv_istore (lv' := [(7, .int xa), (6, .int 0), (0, .ref mh), (1, .int arra), (2, .int la), (3, .int xa), (4, .int ya), (5, .int na)]) hx hb dX2_doFill_4 hl (by decide) rfl (fun ls1 hl1 => ?_)
  replace hl := hl1; clear hl1
  refine my_wloop (S := Int32 × Int32 × (Nat → Int32)) (fun u => (fiP xa.toInt ya.toInt arra.toInt la.toInt (mc_lanes (arra).toNatClampNeg).toInt (mc_lengths (arra).toNatClampNeg).toInt (u.1).toInt (u.2.1).toInt) ∧ (∀ j : Nat, (u.2.1).toInt = 0 → ((12 * arra.toInt + xa.toInt ≤ j ∧ (j : Int) < 12 * arra.toInt + (u.1).toInt → castR la.toInt na.toInt ((u.2.2) j).toInt) ∧ (¬ (12 * arra.toInt + xa.toInt ≤ j ∧ (j : Int) < 12 * arra.toInt + (u.1).toInt) → ((u.2.2) j).toInt = (mc_cells j).toInt)))) (fun u => (if (u.2.1).toInt = 0 then (if 0 ≤ (u.1).toInt ∧ (u.1).toInt ≤ 12 then (14 - (u.1).toInt).toNat else 1) else 0)) (fun u => [(mh, .inr (2, [.int m_hasRun, .int m_thrown, .int m_thrownAt, m_values, m_meant, .ref ma_lanes, .ref ma_lengths, .ref ma_cells, .long m_state])), (ma_lanes, .inl (cI, 40, .inl mc_lanes)), (ma_lengths, .inl (cI, 40, .inl mc_lengths)), (ma_cells, .inl (cI, 480, .inl (u.2.2)))]) (fun u => [(7, .int (u.1)), (6, .int (u.2.1)), (0, .ref mh), (1, .int arra), (2, .int la), (3, .int xa), (4, .int ya), (5, .int na)]) (H0 := s.heap) (A := A) (D := (dC, dI)) (cl := vwCl) (xa, (0 : Int32), mc_cells) (show (fiP xa.toInt ya.toInt arra.toInt la.toInt (mc_lanes (arra).toNatClampNeg).toInt (mc_lengths (arra).toNatClampNeg).toInt xa.toInt (0 : Int32).toInt) ∧ (∀ j : Nat, (0 : Int32).toInt = 0 → ((12 * arra.toInt + xa.toInt ≤ j ∧ (j : Int) < 12 * arra.toInt + xa.toInt → castR la.toInt na.toInt (mc_cells j).toInt) ∧ (¬ (12 * arra.toInt + xa.toInt ≤ j ∧ (j : Int) < 12 * arra.toInt + xa.toInt) → (mc_cells j).toInt = (mc_cells j).toInt))) from ⟨(fi_0 (by decide)), (fun j _ => ⟨fun h => by omega, fun _ => rfl⟩)⟩) (by exact hP) (by exact hD) hS (by exact hl) (fun u_1 hu_1 ih_1 H_1 locs_1 ls1 hP1 hD1 hS1 hl1 => ?_)
  obtain ⟨v_2, v_3, f_4⟩ := u_1
  replace hu_1 : (fiP xa.toInt ya.toInt arra.toInt la.toInt (mc_lanes (arra).toNatClampNeg).toInt (mc_lengths (arra).toNatClampNeg).toInt v_2.toInt v_3.toInt) ∧ (∀ j : Nat, v_3.toInt = 0 → ((12 * arra.toInt + xa.toInt ≤ j ∧ (j : Int) < 12 * arra.toInt + v_2.toInt → castR la.toInt na.toInt (f_4 j).toInt) ∧ (¬ (12 * arra.toInt + xa.toInt ≤ j ∧ (j : Int) < 12 * arra.toInt + v_2.toInt) → (f_4 j).toInt = (mc_cells j).toInt))) := hu_1
  obtain ⟨x_1_0, x_1_1⟩ := hu_1
  replace hP : va_P (dC, dI) vwCl [(mh, .inr (2, [.int m_hasRun, .int m_thrown, .int m_thrownAt, m_values, m_meant, .ref ma_lanes, .ref ma_lengths, .ref ma_cells, .long m_state])), (ma_lanes, .inl (cI, 40, .inl mc_lanes)), (ma_lengths, .inl (cI, 40, .inl mc_lengths)), (ma_cells, .inl (cI, 480, .inl f_4))] H_1 := hP1
  replace hD : va_D A [(mh, .inr (2, [.int m_hasRun, .int m_thrown, .int m_thrownAt, m_values, m_meant, .ref ma_lanes, .ref ma_lengths, .ref ma_cells, .long m_state])), (ma_lanes, .inl (cI, 40, .inl mc_lanes)), (ma_lengths, .inl (cI, 40, .inl mc_lengths)), (ma_cells, .inl (cI, 480, .inl f_4))] := hD1
  replace hS := hS1
  clear hP1 hD1 hS1
  replace hl : lv_has ls1 8 [(7, .int v_2), (6, .int v_3), (0, .ref mh), (1, .int arra), (2, .int la), (3, .int xa), (4, .int ya), (5, .int na)] := hl1
  clear hl1
  refine lv_iload hx hb dX2_doFill_6 (lv_at hl 0 rfl) ?_
  refine lv_iload hx hb dX2_doFill_8 (lv_at hl 6 rfl) ?_
  refine lv_icmp_ge (tgt := 36) hx hb dX2_doFill_10 (by decide) (fun c_5 => ?_) (fun c_5 => ?_)
  · -- yes
    have k_5 : ya.toInt ≤ v_2.toInt := ci_ge c_5
    refine lv_iload hx hb dX2_doFill_36 (lv_at hl 1 rfl) ?_
    have hP9 := hP.sub (ws' := [(mh, .inr (2, [.int m_hasRun, .int m_thrown, .int m_thrownAt, m_values, m_meant, .ref ma_lanes, .ref ma_lengths, .ref ma_cells, .long m_state])), (ma_lanes, .inl (cI, 40, .inl mc_lanes)), (ma_lengths, .inl (cI, 40, .inl mc_lengths)), (ma_cells, .inl (cI, 480, .inl f_4))]) [0, 1, 2, 3] rfl
    have hD9 := hD.sub (ws' := [(mh, .inr (2, [.int m_hasRun, .int m_thrown, .int m_thrownAt, m_values, m_meant, .ref ma_lanes, .ref ma_lengths, .ref ma_cells, .long m_state])), (ma_lanes, .inl (cI, 40, .inl mc_lanes)), (ma_lengths, .inl (cI, 40, .inl mc_lengths)), (ma_cells, .inl (cI, 480, .inl f_4))]) [0, 1, 2, 3] (by decide) rfl
    exact W.iret (v := v_3) hx hb hr (fun t ht hW => ⟨⟨v_3, f_4, rfl, (show (v_3.toInt = 0 ∧ ((ya.toInt ≤ xa.toInt ∧ (∀ j : Nat, (f_4 j).toInt = (mc_cells j).toInt)) ∨ (xa.toInt < ya.toInt ∧ 0 ≤ arra.toInt ∧ (mc_lanes (arra).toNatClampNeg).toInt = la.toInt ∧ 0 ≤ xa.toInt ∧ ya.toInt ≤ (mc_lengths (arra).toNatClampNeg).toInt ∧ (∀ j : Nat, (12 * arra.toInt + xa.toInt ≤ j ∧ (j : Int) < 12 * arra.toInt + ya.toInt → castR la.toInt na.toInt (f_4 j).toInt) ∧ (¬ (12 * arra.toInt + xa.toInt ≤ j ∧ (j : Int) < 12 * arra.toInt + ya.toInt) → (f_4 j).toInt = (mc_cells j).toInt))))) ∨ (¬ v_3.toInt = 0 ∧ xa.toInt < ya.toInt ∧ ((arra.toInt < 0 ∧ v_3.toInt = 1) ∨ (0 ≤ arra.toInt ∧ ((¬ (mc_lanes (arra).toNatClampNeg).toInt = la.toInt ∧ v_3.toInt = 2) ∨ ((xa.toInt < 0 ∨ (mc_lengths (arra).toNatClampNeg).toInt < ya.toInt) ∧ v_3.toInt = 5))))) from (by rcases fi_e x_1_0 (by omega) with ⟨z1, ⟨z2, z3⟩ | ⟨z2, z3, z4, z5, z6, z7⟩⟩ | z1; (· exact Or.inl ⟨z1, Or.inl ⟨z2, fun j => (x_1_1 j z1).2 (by omega)⟩⟩); (· exact Or.inl ⟨z1, Or.inr ⟨z2, z3, z4, z5, z6, by rw [← z7]; exact fun j => x_1_1 j z1⟩⟩); (· exact Or.inr z1))), by rw [ht]; exact hP9, va_K.moved hW.alike hK, hD9⟩, hS.F ht⟩) hS.2.2 dX2_doFill_38
  · -- no
    have k_5 : v_2.toInt < ya.toInt := ci_nge c_5
    refine lv_iload hx hb dX2_doFill_13 (lv_at hl 1 rfl) ?_
    refine lv_if_ne (tgt := 36) hx hb dX2_doFill_15 (by decide) (fun c_6 => ?_) (fun c_6 => ?_)
    · -- yes
      have k_6 : ¬ v_3.toInt = (0 : Int32).toInt := ci_ne c_6
      refine lv_iload hx hb dX2_doFill_36 (lv_at hl 1 rfl) ?_
      have hP9 := hP.sub (ws' := [(mh, .inr (2, [.int m_hasRun, .int m_thrown, .int m_thrownAt, m_values, m_meant, .ref ma_lanes, .ref ma_lengths, .ref ma_cells, .long m_state])), (ma_lanes, .inl (cI, 40, .inl mc_lanes)), (ma_lengths, .inl (cI, 40, .inl mc_lengths)), (ma_cells, .inl (cI, 480, .inl f_4))]) [0, 1, 2, 3] rfl
      have hD9 := hD.sub (ws' := [(mh, .inr (2, [.int m_hasRun, .int m_thrown, .int m_thrownAt, m_values, m_meant, .ref ma_lanes, .ref ma_lengths, .ref ma_cells, .long m_state])), (ma_lanes, .inl (cI, 40, .inl mc_lanes)), (ma_lengths, .inl (cI, 40, .inl mc_lengths)), (ma_cells, .inl (cI, 480, .inl f_4))]) [0, 1, 2, 3] (by decide) rfl
      exact W.iret (v := v_3) hx hb hr (fun t ht hW => ⟨⟨v_3, f_4, rfl, (show (v_3.toInt = 0 ∧ ((ya.toInt ≤ xa.toInt ∧ (∀ j : Nat, (f_4 j).toInt = (mc_cells j).toInt)) ∨ (xa.toInt < ya.toInt ∧ 0 ≤ arra.toInt ∧ (mc_lanes (arra).toNatClampNeg).toInt = la.toInt ∧ 0 ≤ xa.toInt ∧ ya.toInt ≤ (mc_lengths (arra).toNatClampNeg).toInt ∧ (∀ j : Nat, (12 * arra.toInt + xa.toInt ≤ j ∧ (j : Int) < 12 * arra.toInt + ya.toInt → castR la.toInt na.toInt (f_4 j).toInt) ∧ (¬ (12 * arra.toInt + xa.toInt ≤ j ∧ (j : Int) < 12 * arra.toInt + ya.toInt) → (f_4 j).toInt = (mc_cells j).toInt))))) ∨ (¬ v_3.toInt = 0 ∧ xa.toInt < ya.toInt ∧ ((arra.toInt < 0 ∧ v_3.toInt = 1) ∨ (0 ≤ arra.toInt ∧ ((¬ (mc_lanes (arra).toNatClampNeg).toInt = la.toInt ∧ v_3.toInt = 2) ∨ ((xa.toInt < 0 ∨ (mc_lengths (arra).toNatClampNeg).toInt < ya.toInt) ∧ v_3.toInt = 5))))) from (by rcases fi_e x_1_0 (by omega) with ⟨z1, ⟨z2, z3⟩ | ⟨z2, z3, z4, z5, z6, z7⟩⟩ | z1; (· exact Or.inl ⟨z1, Or.inl ⟨z2, fun j => (x_1_1 j z1).2 (by omega)⟩⟩); (· exact Or.inl ⟨z1, Or.inr ⟨z2, z3, z4, z5, z6, by rw [← z7]; exact fun j => x_1_1 j z1⟩⟩); (· exact Or.inr z1))), by rw [ht]; exact hP9, va_K.moved hW.alike hK, hD9⟩, hS.F ht⟩) hS.2.2 dX2_doFill_38
    · -- no
      have k_6 : v_3.toInt = (0 : Int32).toInt := ci_eq c_6
      refine lv_aload_n hx hb dX2_doFill_18 rfl (lv_at hl 2 rfl) ?_
      refine lv_iload_n hx hb dX2_doFill_19 rfl (lv_at hl 3 rfl) ?_
      refine lv_iload_n hx hb dX2_doFill_20 rfl (lv_at hl 4 rfl) ?_
      refine lv_iload hx hb dX2_doFill_21 (lv_at hl 0 rfl) ?_
      refine lv_iload hx hb dX2_doFill_23 (lv_at hl 7 rfl) ?_
      have hPc := hP.sub (ws' := [(mh, .inr (2, [.int m_hasRun, .int m_thrown, .int m_thrownAt, m_values, m_meant, .ref ma_lanes, .ref ma_lengths, .ref ma_cells, .long m_state])), (ma_lanes, .inl (cI, 40, .inl mc_lanes)), (ma_lengths, .inl (cI, 40, .inl mc_lengths)), (ma_cells, .inl (cI, 480, .inl f_4))]) [0, 1, 2, 3] rfl
      have hDc := hD.sub (ws' := [(mh, .inr (2, [.int m_hasRun, .int m_thrown, .int m_thrownAt, m_values, m_meant, .ref ma_lanes, .ref ma_lengths, .ref ma_cells, .long m_state])), (ma_lanes, .inl (cI, 40, .inl mc_lanes)), (ma_lengths, .inl (cI, 40, .inl mc_lengths)), (ma_cells, .inl (cI, 480, .inl f_4))]) [0, 1, 2, 3] (by decide) rfl
      have hFc := va_free (wc := [(mh, .inr (2, [.int m_hasRun, .int m_thrown, .int m_thrownAt, m_values, m_meant, .ref ma_lanes, .ref ma_lengths, .ref ma_cells, .long m_state])), (ma_lanes, .inl (cI, 40, .inl mc_lanes)), (ma_lengths, .inl (cI, 40, .inl mc_lengths)), (ma_cells, .inl (cI, 480, .inl f_4))]) hD hS hA [0, 1, 2, 3] rfl
      refine va_calli (va_runV (As := [.int arra, .int la, .int v_2, .int na]) (rest := []) ⟨hx, hb, hml, hown, hts⟩ (s_X2_doWrite l dC dI cI cJ cZ mh m_hasRun m_thrown m_thrownAt m_values m_meant ma_lanes ma_lengths ma_cells m_state mc_lanes mc_lengths f_4 arra la v_2 na H_1.size q_m_hasRun h_mc_lanes h_mc_lengths (by first | assumption | omega)) (cwV 4 hts h_X2_doFill_X2_doWrite_108 rfl rfl rfl (by decide +kernel) ⟨Nat.le_of_ble_eq_true rfl, Nat.le_of_ble_eq_true rfl⟩) ⟨cPre_blind, va_recv hK hPc (ci := 2) (q0 := 0) rfl rfl, cPre_of hK hN hPc hDc⟩ rfl rfl hl.1 rfl (lv_room (Nat.le_of_ble_eq_true rfl)) dX2_doFill_25 ⟨Nat.le_of_ble_eq_true rfl, Nat.le_of_ble_eq_true rfl⟩) hS (fun q _ h => hFc q h) hFc (fun r_7 u_7 t_7 H_7 locs_7 ht hvm hw_7 hB hz1 hk1 hS1 => ?_)
      obtain ⟨f_8, rfl⟩ : ∃ z, z = u_7 := ⟨_, rfl⟩
      obtain ⟨hP1, hK1, hD1⟩ := hB
      rw [ht] at hP1
      obtain ⟨hP2, hD2⟩ := va_join (wr := []) (w1 := [(mh, .inr (2, [.int m_hasRun, .int m_thrown, .int m_thrownAt, m_values, m_meant, .ref ma_lanes, .ref ma_lengths, .ref ma_cells, .long m_state])), (ma_lanes, .inl (cI, 40, .inl mc_lanes)), (ma_lengths, .inl (cI, 40, .inl mc_lengths)), (ma_cells, .inl (cI, 480, .inl f_8))]) hP hD [0, 1, 2, 3] [] rfl rfl (by decide) (by decide) hk1 hFc hP1 hD1
      clear hPc hDc hFc hP1 hD1 hK1 hk1 hz1 hvm ht
      replace hP : va_P (dC, dI) vwCl [(mh, .inr (2, [.int m_hasRun, .int m_thrown, .int m_thrownAt, m_values, m_meant, .ref ma_lanes, .ref ma_lengths, .ref ma_cells, .long m_state])), (ma_lanes, .inl (cI, 40, .inl mc_lanes)), (ma_lengths, .inl (cI, 40, .inl mc_lengths)), (ma_cells, .inl (cI, 480, .inl f_8))] H_7 := hP2
      replace hD : va_D A [(mh, .inr (2, [.int m_hasRun, .int m_thrown, .int m_thrownAt, m_values, m_meant, .ref ma_lanes, .ref ma_lengths, .ref ma_cells, .long m_state])), (ma_lanes, .inl (cI, 40, .inl mc_lanes)), (ma_lengths, .inl (cI, 40, .inl mc_lengths)), (ma_cells, .inl (cI, 480, .inl f_8))] := hD2
      replace hS := hS1
      clear hP2 hD2 hS1
      replace hw_7 : ((r_7.toInt = 0 ∧ plN mc_lanes mc_lengths arra la v_2) ∨ (¬ r_7.toInt = 0 ∧ plT mc_lanes mc_lengths arra la v_2 r_7)) ∧ (∀ j : Nat, (r_7.toInt = 0 ∧ j = 12 * (arra).toNatClampNeg + (v_2).toNatClampNeg → castR la.toInt na.toInt (f_8 j).toInt) ∧ (¬ (r_7.toInt = 0 ∧ j = 12 * (arra).toNatClampNeg + (v_2).toNatClampNeg) → (f_8 j).toInt = (f_4 j).toInt)) := hw_7
      obtain ⟨q_r_7, x_7_0⟩ := hw_7
      refine lv_istore (lv' := [(6, .int r_7), (7, .int v_2), (0, .ref mh), (1, .int arra), (2, .int la), (3, .int xa), (4, .int ya), (5, .int na)]) hx hb dX2_doFill_28 hl (by decide) rfl (fun ls1 hl1 => ?_)
      replace hl := hl1; clear hl1
      have ir_9 := i32r v_2
      refine sf_iinc hx hb dX2_doFill_30 hl (k := 1) (x := v_2) (w := 1) rfl (by decide) (by decide) ⟨by omega, by omega⟩ (fun v_10 q_v_10 ls1 hl1 => ?_)
      replace hl : lv_has ls1 8 [(7, .int v_10), (6, .int r_7), (0, .ref mh), (1, .int arra), (2, .int la), (3, .int xa), (4, .int ya), (5, .int na)] := hl1
      clear hl1
      refine lv_goto (tgt := 6) hx hb dX2_doFill_33 (by decide) ?_
      exact ih_1 (v_10, r_7, f_8) (show (fiP xa.toInt ya.toInt arra.toInt la.toInt (mc_lanes (arra).toNatClampNeg).toInt (mc_lengths (arra).toNatClampNeg).toInt v_10.toInt r_7.toInt) ∧ (∀ j : Nat, r_7.toInt = 0 → ((12 * arra.toInt + xa.toInt ≤ j ∧ (j : Int) < 12 * arra.toInt + v_10.toInt → castR la.toInt na.toInt (f_8 j).toInt) ∧ (¬ (12 * arra.toInt + xa.toInt ≤ j ∧ (j : Int) < 12 * arra.toInt + v_10.toInt) → (f_8 j).toInt = (mc_cells j).toInt))) from ⟨(fi_s x_1_0 (by omega) (by omega) (by omega) q_r_7), (fun j hj => by have nz := (q_r_7.resolve_right (fun z => z.1 hj)).2; clear q_r_7; have hx0 := x_1_0.1; have n1 := nn_cl nz.1; have n2 := nn_cl nz.2.2.1; have b1 := x_1_1 j (by omega); by_cases hq : j = 12 * (arra).toNatClampNeg + (v_2).toNatClampNeg; (· have b3 := (x_7_0 j).1 ⟨hj, hq⟩; exact ⟨fun _ => b3, fun h => absurd (by omega) h⟩); (· have b3 := (x_7_0 j).2 (fun h => hq h.2); rw [b3]; exact ⟨fun h => b1.1 (by omega), fun h => b1.2 (by omega)⟩))⟩) (by show (if r_7.toInt = 0 then (if 0 ≤ v_10.toInt ∧ v_10.toInt ≤ 12 then (14 - v_10.toInt).toNat else 1) else 0) < (if v_3.toInt = 0 then (if 0 ≤ v_2.toInt ∧ v_2.toInt ≤ 12 then (14 - v_2.toInt).toNat else 1) else 0); (repeat' split) <;> omega) _ _ _ (hP.sub [0, 1, 2, 3] rfl) (hD.sub [0, 1, 2, 3] (by decide) rfl) hS (lv_sub hl [0, 1, 2, 3, 4, 5, 6, 7] rfl)
