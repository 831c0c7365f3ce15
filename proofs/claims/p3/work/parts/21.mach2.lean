def v_X2_doCopy : List Cond := .code yX2_doCopy cX2_doCopy 6 (some .int) :: ([.fieldLink RX2 29 "ArraySegments$Machine" "lanes" "[I", .fieldLink RX2 32 "ArraySegments$Machine" "lengths" "[I", .fieldLink RX2 35 "ArraySegments$Machine" "cells" "[I", .methodLink RX2 124 arraycopyName, .native arraycopyName, .static arraycopyName, .initialized "java/lang/System"] ++ (wsX20))
theorem inv_X2_doCopy_X2 : ∀ w ∈ wsX20, w ∈ v_X2_doCopy := fun _ h => List.mem_cons_of_mem _ (List.mem_append_right _ (h))
set_option maxRecDepth 20000 in
theorem gd_X2_doCopy : gdL v_X2_doCopy := gdC (gdW (by decide +kernel)) (gdA (gdW (by decide +kernel)) gd_wsX20)
abbrev sw_X2_doCopy (cI cJ cZ : ClassId) (mh : Nat) (m_hasRun : Int32) (m_thrown : Int32) (m_thrownAt : Int32) (m_values : Value) (m_meant : Value) (ma_lanes : Nat) (ma_lengths : Nat) (ma_cells : Nat) (m_state : Int64) (mc_lanes : Nat → Int32) (mc_lengths : Nat → Int32) (mc_cells : Nat → Int32) (fa : Int32) (xa : Int32) (ta : Int32) (ga : Int32) (na : Int32) : va_W := [(mh, .inr (2, [.int m_hasRun, .int m_thrown, .int m_thrownAt, m_values, m_meant, .ref ma_lanes, .ref ma_lengths, .ref ma_cells, .long m_state])), (ma_lanes, .inl (cI, 40, .inl mc_lanes)), (ma_lengths, .inl (cI, 40, .inl mc_lengths)), (ma_cells, .inl (cI, 480, .inl mc_cells))]
set_option maxHeartbeats 8000000 in
set_option maxRecDepth 100000 in
theorem s_X2_doCopy (l : Launch) (dC : Nat → ClassId) (dI : Nat → Nat → Nat) (cI cJ cZ : ClassId) (mh : Nat) (m_hasRun : Int32) (m_thrown : Int32) (m_thrownAt : Int32) (m_values : Value) (m_meant : Value) (ma_lanes : Nat) (ma_lengths : Nat) (ma_cells : Nat) (m_state : Int64) (mc_lanes : Nat → Int32) (mc_lengths : Nat → Int32) (mc_cells : Nat → Int32) (fa : Int32) (xa : Int32) (ta : Int32) (ga : Int32) (na : Int32) (sz : Nat) (q_m_hasRun : kZ m_hasRun) (h_mc_lengths : ∀ j : Nat, kR012 (mc_lengths j)) (hy_fa : -1 ≤ fa.toInt ∧ fa.toInt ≤ 39) (hy_ta : -1 ≤ ta.toInt ∧ ta.toInt ≤ 39) : Met l yX2_doCopy v_X2_doCopy ({ frames := 1, cells := 0, slots := 0, locals := 60 }) (va_Pc [.ref mh, .int fa, .int xa, .int ta, .int ga, .int na] (cPre dC dI cI cJ cZ sz (sw_X2_doCopy cI cJ cZ mh m_hasRun m_thrown m_thrownAt m_values m_meant ma_lanes ma_lengths ma_cells m_state mc_lanes mc_lengths mc_cells fa xa ta ga na))) (va_Qi (fun (r : Int32) (u : (Nat → Int32)) => True) (fun (u : (Nat → Int32)) => cPost dC dI cI cJ cZ (va_A (sw_X2_doCopy cI cJ cZ mh m_hasRun m_thrown m_thrownAt m_values m_meant ma_lanes ma_lengths ma_cells m_state mc_lanes mc_lengths mc_cells fa xa ta ga na) sz) [(mh, .inr (2, [.int m_hasRun, .int m_thrown, .int m_thrownAt, m_values, m_meant, .ref ma_lanes, .ref ma_lengths, .ref ma_cells, .long m_state])), (ma_lanes, .inl (cI, 40, .inl mc_lanes)), (ma_lengths, .inl (cI, 40, .inl mc_lengths)), (ma_cells, .inl (cI, 480, .inl (u)))]) (va_A (sw_X2_doCopy cI cJ cZ mh m_hasRun m_thrown m_thrownAt m_values m_meant ma_lanes ma_lengths ma_cells m_state mc_lanes mc_lengths mc_cells fa xa ta ga na) sz)) 0 0 (va_A (sw_X2_doCopy cI cJ cZ mh m_hasRun m_thrown m_thrownAt m_values m_meant ma_lanes ma_lengths ma_cells m_state mc_lanes mc_lengths mc_cells fa xa ta ga na) sz) := by
  refine Met.ofW (cc := cX2_doCopy) (maxL := 6) (ret := (some .int)) (by decide) rfl ?_
  intro p e s m args below meth c s₁ B hml hv
  obtain ⟨rfl, hsz, hP, hK, hD0, hN⟩ := hv
  have hx := B.exec
  have hb := B.bytes
  have hr := B.returns
  have hts := atoms_spec (ws := v_X2_doCopy) B.pre
  have hown : s.vm.findClass RX2 = some m.cls := findClass_of_methodNamed B.named
  have hlocks := B.notSynchronized
  subst hsz
  have hD := hD0.self (sz := s.heap.size)
  generalize hAe : va_A (sw_X2_doCopy cI cJ cZ mh m_hasRun m_thrown m_thrownAt m_values m_meant ma_lanes ma_lengths ma_cells m_state mc_lanes mc_lengths mc_cells fa xa ta ga na) s.heap.size = A at hD ⊢
  have hA : ∀ q : Nat, s.heap.size ≤ q → A q := fun q h => by rw [← hAe]; exact Or.inr h
  clear hAe hD0
  have hS : va_S A s.heap s.heap [] := va_S.rf
  replace hP : va_P (dC, dI) vwCl [(mh, .inr (2, [.int m_hasRun, .int m_thrown, .int m_thrownAt, m_values, m_meant, .ref ma_lanes, .ref ma_lengths, .ref ma_cells, .long m_state])), (ma_lanes, .inl (cI, 40, .inl mc_lanes)), (ma_lengths, .inl (cI, 40, .inl mc_lengths)), (ma_cells, .inl (cI, 480, .inl mc_cells))] s.heap := hP
  replace hD : va_D A [(mh, .inr (2, [.int m_hasRun, .int m_thrown, .int m_thrownAt, m_values, m_meant, .ref ma_lanes, .ref ma_lengths, .ref ma_cells, .long m_state])), (ma_lanes, .inl (cI, 40, .inl mc_lanes)), (ma_lengths, .inl (cI, 40, .inl mc_lengths)), (ma_cells, .inl (cI, 480, .inl mc_cells))] := hD
  have hl := lv_entry ([.ref mh, .int fa, .int xa, .int ta, .int ga, .int na]) (n := 6) (Nat.le_of_ble_eq_true rfl)
  rw [lg_entry_eq]
  generalize (lg_sl ([.ref mh, .int fa, .int xa, .int ta, .int ga, .int na]) ++ List.replicate (6 - (lg_sl ([.ref mh, .int fa, .int xa, .int ta, .int ga, .int na])).length) Slot.unset).toArray = ls at hl ⊢
  replace hl : lv_has ls 6 [(0, .ref mh), (1, .int fa), (2, .int xa), (3, .int ta), (4, .int ga), (5, .int na)] := hl
  have z_0 : (0 : Int32).toInt = 0 := by decide
  have z_1 : (1 : Int32).toInt = 1 := by decide
  have z_4 : (4 : Int32).toInt = 4 := by decide
  have z_5 : (5 : Int32).toInt = 5 := by decide
  refine lv_iload_n hx hb dX2_doCopy_0 rfl (lv_at hl 1 rfl) ?_
  refine lv_if_lt (tgt := 8) hx hb dX2_doCopy_1 (by decide) (fun c_1 => ?_) (fun c_1 => ?_)
  · -- yes
    have k_1 : fa.toInt < (0 : Int32).toInt := ci_lt c_1
    refine lv_iconst (v := 1) hx hb dX2_doCopy_8 (by decide) ?_
    have hP9 := hP.sub (ws' := [(mh, .inr (2, [.int m_hasRun, .int m_thrown, .int m_thrownAt, m_values, m_meant, .ref ma_lanes, .ref ma_lengths, .ref ma_cells, .long m_state])), (ma_lanes, .inl (cI, 40, .inl mc_lanes)), (ma_lengths, .inl (cI, 40, .inl mc_lengths)), (ma_cells, .inl (cI, 480, .inl mc_cells))]) [0, 1, 2, 3] rfl
    have hD9 := hD.sub (ws' := [(mh, .inr (2, [.int m_hasRun, .int m_thrown, .int m_thrownAt, m_values, m_meant, .ref ma_lanes, .ref ma_lengths, .ref ma_cells, .long m_state])), (ma_lanes, .inl (cI, 40, .inl mc_lanes)), (ma_lengths, .inl (cI, 40, .inl mc_lengths)), (ma_cells, .inl (cI, 480, .inl mc_cells))]) [0, 1, 2, 3] (by decide) rfl
    exact W.iret (v := 1) hx hb hr (fun t ht hW => ⟨⟨1, mc_cells, rfl, trivial, by rw [ht]; exact hP9, va_K.moved hW.alike hK, hD9⟩, hS.F ht⟩) hS.2.2 dX2_doCopy_9
  · -- no
    have k_1 : (0 : Int32).toInt ≤ fa.toInt := ci_nlt c_1
    refine lv_iload_n hx hb dX2_doCopy_4 rfl (lv_at hl 3 rfl) ?_
    refine lv_if_ge (tgt := 10) hx hb dX2_doCopy_5 (by decide) (fun c_2 => ?_) (fun c_2 => ?_)
    · -- yes
      have k_2 : (0 : Int32).toInt ≤ ta.toInt := ci_ge c_2
      refine lv_aload_n hx hb dX2_doCopy_10 rfl (lv_at hl 0 rfl) ?_
      refine va_get (D := (dC, dI)) (ci := 2) (v := .ref ma_lanes) (C := RX2) (T := TX2) (N := 9) hx hb hts inv_X2_doCopy_X2 hown hK hP 0 rfl rfl 5 (by decide) (hts (.fieldLink RX2 29 "ArraySegments$Machine" "lanes" "[I") (List.mem_of_getElem? (i := 1) rfl)) (fun _ h9 => h9) rfl dX2_doCopy_11 ?_
      refine lv_iload_n hx hb dX2_doCopy_14 rfl (lv_at hl 1 rfl) ?_
      refine sf_iald kT hx hb hK hP 1 0 rfl rfl (fun _ => trivial) (vp_in_iff.mpr ⟨by omega, by omega⟩) dX2_doCopy_15 (fun v_3 q_v_3 e_v_3 => ?_)
      refine lv_aload_n hx hb dX2_doCopy_16 rfl (lv_at hl 0 rfl) ?_
      refine va_get (D := (dC, dI)) (ci := 2) (v := .ref ma_lanes) (C := RX2) (T := TX2) (N := 9) hx hb hts inv_X2_doCopy_X2 hown hK hP 0 rfl rfl 5 (by decide) (hts (.fieldLink RX2 29 "ArraySegments$Machine" "lanes" "[I") (List.mem_of_getElem? (i := 1) rfl)) (fun _ h9 => h9) rfl dX2_doCopy_17 ?_
      refine lv_iload_n hx hb dX2_doCopy_20 rfl (lv_at hl 3 rfl) ?_
      refine sf_iald kT hx hb hK hP 1 0 rfl rfl (fun _ => trivial) (vp_in_iff.mpr ⟨by omega, by omega⟩) dX2_doCopy_21 (fun v_4 q_v_4 e_v_4 => ?_)
      refine lv_icmp_eq (tgt := 27) hx hb dX2_doCopy_22 (by decide) (fun c_5 => ?_) (fun c_5 => ?_)
      · -- yes
        have k_5 : v_3.toInt = v_4.toInt := ci_eq c_5
        refine lv_iload_n hx hb dX2_doCopy_27 rfl (lv_at hl 2 rfl) ?_
        refine lv_if_lt (tgt := 41) hx hb dX2_doCopy_28 (by decide) (fun c_6 => ?_) (fun c_6 => ?_)
        · -- yes
          have k_6 : xa.toInt < (0 : Int32).toInt := ci_lt c_6
          refine lv_iconst (v := 5) hx hb dX2_doCopy_41 (by decide) ?_
          have hP9 := hP.sub (ws' := [(mh, .inr (2, [.int m_hasRun, .int m_thrown, .int m_thrownAt, m_values, m_meant, .ref ma_lanes, .ref ma_lengths, .ref ma_cells, .long m_state])), (ma_lanes, .inl (cI, 40, .inl mc_lanes)), (ma_lengths, .inl (cI, 40, .inl mc_lengths)), (ma_cells, .inl (cI, 480, .inl mc_cells))]) [0, 1, 2, 3] rfl
          have hD9 := hD.sub (ws' := [(mh, .inr (2, [.int m_hasRun, .int m_thrown, .int m_thrownAt, m_values, m_meant, .ref ma_lanes, .ref ma_lengths, .ref ma_cells, .long m_state])), (ma_lanes, .inl (cI, 40, .inl mc_lanes)), (ma_lengths, .inl (cI, 40, .inl mc_lengths)), (ma_cells, .inl (cI, 480, .inl mc_cells))]) [0, 1, 2, 3] (by decide) rfl
          exact W.iret (v := 5) hx hb hr (fun t ht hW => ⟨⟨5, mc_cells, rfl, trivial, by rw [ht]; exact hP9, va_K.moved hW.alike hK, hD9⟩, hS.F ht⟩) hS.2.2 dX2_doCopy_42
        · -- no
          have k_6 : (0 : Int32).toInt ≤ xa.toInt := ci_nlt c_6
          refine lv_iload hx hb dX2_doCopy_31 (lv_at hl 4 rfl) ?_
          refine lv_if_lt (tgt := 41) hx hb dX2_doCopy_33 (by decide) (fun c_7 => ?_) (fun c_7 => ?_)
          · -- yes
            have k_7 : ga.toInt < (0 : Int32).toInt := ci_lt c_7
            refine lv_iconst (v := 5) hx hb dX2_doCopy_41 (by decide) ?_
            have hP9 := hP.sub (ws' := [(mh, .inr (2, [.int m_hasRun, .int m_thrown, .int m_thrownAt, m_values, m_meant, .ref ma_lanes, .ref ma_lengths, .ref ma_cells, .long m_state])), (ma_lanes, .inl (cI, 40, .inl mc_lanes)), (ma_lengths, .inl (cI, 40, .inl mc_lengths)), (ma_cells, .inl (cI, 480, .inl mc_cells))]) [0, 1, 2, 3] rfl
            have hD9 := hD.sub (ws' := [(mh, .inr (2, [.int m_hasRun, .int m_thrown, .int m_thrownAt, m_values, m_meant, .ref ma_lanes, .ref ma_lengths, .ref ma_cells, .long m_state])), (ma_lanes, .inl (cI, 40, .inl mc_lanes)), (ma_lengths, .inl (cI, 40, .inl mc_lengths)), (ma_cells, .inl (cI, 480, .inl mc_cells))]) [0, 1, 2, 3] (by decide) rfl
            exact W.iret (v := 5) hx hb hr (fun t ht hW => ⟨⟨5, mc_cells, rfl, trivial, by rw [ht]; exact hP9, va_K.moved hW.alike hK, hD9⟩, hS.F ht⟩) hS.2.2 dX2_doCopy_42
          · -- no
            have k_7 : (0 : Int32).toInt ≤ ga.toInt := ci_nlt c_7
            refine lv_iload hx hb dX2_doCopy_36 (lv_at hl 5 rfl) ?_
            refine lv_if_ge (tgt := 43) hx hb dX2_doCopy_38 (by decide) (fun c_8 => ?_) (fun c_8 => ?_)
            · -- yes
              have k_8 : (0 : Int32).toInt ≤ na.toInt := ci_ge c_8
              refine lv_iload_n hx hb dX2_doCopy_43 rfl (lv_at hl 2 rfl) ?_
              refine sf_i2l hx hb dX2_doCopy_44 (fun v_9 q_v_9 => ?_)
              refine lv_iload hx hb dX2_doCopy_45 (lv_at hl 5 rfl) ?_
              refine sf_i2l hx hb dX2_doCopy_47 (fun v_10 q_v_10 => ?_)
              refine sf_ladd hx hb dX2_doCopy_48 ⟨by omega, by omega⟩ (fun v_11 q_v_11 => ?_)
              refine lv_aload_n hx hb dX2_doCopy_49 rfl (lv_at hl 0 rfl) ?_
              refine va_get (D := (dC, dI)) (ci := 2) (v := .ref ma_lengths) (C := RX2) (T := TX2) (N := 9) hx hb hts inv_X2_doCopy_X2 hown hK hP 0 rfl rfl 6 (by decide) (hts (.fieldLink RX2 32 "ArraySegments$Machine" "lengths" "[I") (List.mem_of_getElem? (i := 2) rfl)) (fun _ h9 => h9) rfl dX2_doCopy_50 ?_
              refine lv_iload_n hx hb dX2_doCopy_53 rfl (lv_at hl 1 rfl) ?_
              refine sf_iald kR012 hx hb hK hP 2 0 rfl rfl h_mc_lengths (vp_in_iff.mpr ⟨by omega, by omega⟩) dX2_doCopy_54 (fun v_12 q_v_12 e_v_12 => ?_)
              refine sf_i2l hx hb dX2_doCopy_55 (fun v_13 q_v_13 => ?_)
              refine W.lcmp hx hb dX2_doCopy_56 ?_
              refine lv_if_gt (tgt := 78) hx hb dX2_doCopy_57 (by decide) (fun c_14 => ?_) (fun c_14 => ?_)
              · -- yes
                have k_14 : v_13.toInt < v_11.toInt := lc_gt c_14
                refine lv_iconst (v := 5) hx hb dX2_doCopy_78 (by decide) ?_
                have hP9 := hP.sub (ws' := [(mh, .inr (2, [.int m_hasRun, .int m_thrown, .int m_thrownAt, m_values, m_meant, .ref ma_lanes, .ref ma_lengths, .ref ma_cells, .long m_state])), (ma_lanes, .inl (cI, 40, .inl mc_lanes)), (ma_lengths, .inl (cI, 40, .inl mc_lengths)), (ma_cells, .inl (cI, 480, .inl mc_cells))]) [0, 1, 2, 3] rfl
                have hD9 := hD.sub (ws' := [(mh, .inr (2, [.int m_hasRun, .int m_thrown, .int m_thrownAt, m_values, m_meant, .ref ma_lanes, .ref ma_lengths, .ref ma_cells, .long m_state])), (ma_lanes, .inl (cI, 40, .inl mc_lanes)), (ma_lengths, .inl (cI, 40, .inl mc_lengths)), (ma_cells, .inl (cI, 480, .inl mc_cells))]) [0, 1, 2, 3] (by decide) rfl
                exact W.iret (v := 5) hx hb hr (fun t ht hW => ⟨⟨5, mc_cells, rfl, trivial, by rw [ht]; exact hP9, va_K.moved hW.alike hK, hD9⟩, hS.F ht⟩) hS.2.2 dX2_doCopy_79
              · -- no
                have k_14 : v_11.toInt ≤ v_13.toInt := lc_ngt c_14
                refine lv_iload hx hb dX2_doCopy_60 (lv_at hl 4 rfl) ?_
                refine sf_i2l hx hb dX2_doCopy_62 (fun v_15 q_v_15 => ?_)
                refine lv_iload hx hb dX2_doCopy_63 (lv_at hl 5 rfl) ?_
                refine sf_i2l hx hb dX2_doCopy_65 (fun v_16 q_v_16 => ?_)
                refine sf_ladd hx hb dX2_doCopy_66 ⟨by omega, by omega⟩ (fun v_17 q_v_17 => ?_)
                refine lv_aload_n hx hb dX2_doCopy_67 rfl (lv_at hl 0 rfl) ?_
                refine va_get (D := (dC, dI)) (ci := 2) (v := .ref ma_lengths) (C := RX2) (T := TX2) (N := 9) hx hb hts inv_X2_doCopy_X2 hown hK hP 0 rfl rfl 6 (by decide) (hts (.fieldLink RX2 32 "ArraySegments$Machine" "lengths" "[I") (List.mem_of_getElem? (i := 2) rfl)) (fun _ h9 => h9) rfl dX2_doCopy_68 ?_
                refine lv_iload_n hx hb dX2_doCopy_71 rfl (lv_at hl 3 rfl) ?_
                refine sf_iald kR012 hx hb hK hP 2 0 rfl rfl h_mc_lengths (vp_in_iff.mpr ⟨by omega, by omega⟩) dX2_doCopy_72 (fun v_18 q_v_18 e_v_18 => ?_)
                refine sf_i2l hx hb dX2_doCopy_73 (fun v_19 q_v_19 => ?_)
                refine W.lcmp hx hb dX2_doCopy_74 ?_
                refine lv_if_le (tgt := 80) hx hb dX2_doCopy_75 (by decide) (fun c_20 => ?_) (fun c_20 => ?_)
                · -- yes
                  have k_20 : v_17.toInt ≤ v_19.toInt := lc_le c_20
                  refine lv_aload_n hx hb dX2_doCopy_80 rfl (lv_at hl 0 rfl) ?_
                  refine va_get (D := (dC, dI)) (ci := 2) (v := .ref ma_cells) (C := RX2) (T := TX2) (N := 9) hx hb hts inv_X2_doCopy_X2 hown hK hP 0 rfl rfl 7 (by decide) (hts (.fieldLink RX2 35 "ArraySegments$Machine" "cells" "[I") (List.mem_of_getElem? (i := 3) rfl)) (fun _ h9 => h9) rfl dX2_doCopy_81 ?_
                  refine lv_iload_n hx hb dX2_doCopy_84 rfl (lv_at hl 1 rfl) ?_
                  refine lv_bipush (v := 12) hx hb dX2_doCopy_85 (by decide) ?_
                  refine sf_imul (w := fa.toInt) (z := 12) hx hb dX2_doCopy_87 rfl (by decide) ⟨by omega, by omega⟩ (fun v_21 q_v_21 => ?_)
                  refine lv_iload_n hx hb dX2_doCopy_88 rfl (lv_at hl 2 rfl) ?_
                  refine sf_iadd hx hb dX2_doCopy_89 ⟨by omega, by omega⟩ (fun v_22 q_v_22 => ?_)
                  refine lv_aload_n hx hb dX2_doCopy_90 rfl (lv_at hl 0 rfl) ?_
                  refine va_get (D := (dC, dI)) (ci := 2) (v := .ref ma_cells) (C := RX2) (T := TX2) (N := 9) hx hb hts inv_X2_doCopy_X2 hown hK hP 0 rfl rfl 7 (by decide) (hts (.fieldLink RX2 35 "ArraySegments$Machine" "cells" "[I") (List.mem_of_getElem? (i := 3) rfl)) (fun _ h9 => h9) rfl dX2_doCopy_91 ?_
                  refine lv_iload_n hx hb dX2_doCopy_94 rfl (lv_at hl 3 rfl) ?_
                  refine lv_bipush (v := 12) hx hb dX2_doCopy_95 (by decide) ?_
                  refine sf_imul (w := ta.toInt) (z := 12) hx hb dX2_doCopy_97 rfl (by decide) ⟨by omega, by omega⟩ (fun v_23 q_v_23 => ?_)
                  refine lv_iload hx hb dX2_doCopy_98 (lv_at hl 4 rfl) ?_
                  refine sf_iadd hx hb dX2_doCopy_100 ⟨by omega, by omega⟩ (fun v_24 q_v_24 => ?_)
                  refine lv_iload hx hb dX2_doCopy_101 (lv_at hl 5 rfl) ?_
                  refine sf_copyi kT hx hb (by rw [hml]; exact hl.1.symm) hown (hts (.methodLink RX2 124 arraycopyName) (List.mem_of_getElem? (i := 4) rfl)) (hts (.native arraycopyName) (List.mem_of_getElem? (i := 5) rfl)) (hts (.static arraycopyName) (List.mem_of_getElem? (i := 6) rfl)) (hts (.initialized "java/lang/System") (List.mem_of_getElem? (i := 7) rfl)) hK hP hD hS 3 3 0 0 rfl rfl rfl rfl (fun _ => trivial) (fun _ => trivial) (by omega) (by omega) (by omega) (by omega) (by omega) (Nat.le_of_ble_eq_true rfl) (Nat.le_of_ble_eq_true rfl) dX2_doCopy_103 (fun f_25 h_f_25 H_26 locs_26 hP1 hD1 hS1 => ?_)
                  replace hP : va_P (dC, dI) vwCl [(mh, .inr (2, [.int m_hasRun, .int m_thrown, .int m_thrownAt, m_values, m_meant, .ref ma_lanes, .ref ma_lengths, .ref ma_cells, .long m_state])), (ma_lanes, .inl (cI, 40, .inl mc_lanes)), (ma_lengths, .inl (cI, 40, .inl mc_lengths)), (ma_cells, .inl (cI, 480, .inl f_25))] H_26 := hP1
                  replace hD : va_D A [(mh, .inr (2, [.int m_hasRun, .int m_thrown, .int m_thrownAt, m_values, m_meant, .ref ma_lanes, .ref ma_lengths, .ref ma_cells, .long m_state])), (ma_lanes, .inl (cI, 40, .inl mc_lanes)), (ma_lengths, .inl (cI, 40, .inl mc_lengths)), (ma_cells, .inl (cI, 480, .inl f_25))] := hD1
                  replace hS := hS1
                  clear hP1 hD1 hS1
                  refine lv_iconst (v := 0) hx hb dX2_doCopy_106 (by decide) ?_
                  have hP9 := hP.sub (ws' := [(mh, .inr (2, [.int m_hasRun, .int m_thrown, .int m_thrownAt, m_values, m_meant, .ref ma_lanes, .ref ma_lengths, .ref ma_cells, .long m_state])), (ma_lanes, .inl (cI, 40, .inl mc_lanes)), (ma_lengths, .inl (cI, 40, .inl mc_lengths)), (ma_cells, .inl (cI, 480, .inl f_25))]) [0, 1, 2, 3] rfl
                  have hD9 := hD.sub (ws' := [(mh, .inr (2, [.int m_hasRun, .int m_thrown, .int m_thrownAt, m_values, m_meant, .ref ma_lanes, .ref ma_lengths, .ref ma_cells, .long m_state])), (ma_lanes, .inl (cI, 40, .inl mc_lanes)), (ma_lengths, .inl (cI, 40, .inl mc_lengths)), (ma_cells, .inl (cI, 480, .inl f_25))]) [0, 1, 2, 3] (by decide) rfl
                  exact W.iret (v := 0) hx hb hr (fun t ht hW => ⟨⟨0, f_25, rfl, trivial, by rw [ht]; exact hP9, va_K.moved hW.alike hK, hD9⟩, hS.F ht⟩) hS.2.2 dX2_doCopy_107
                · -- no
                  have k_20 : v_19.toInt < v_17.toInt := lc_nle c_20
                  refine lv_iconst (v := 5) hx hb dX2_doCopy_78 (by decide) ?_
                  have hP9 := hP.sub (ws' := [(mh, .inr (2, [.int m_hasRun, .int m_thrown, .int m_thrownAt, m_values, m_meant, .ref ma_lanes, .ref ma_lengths, .ref ma_cells, .long m_state])), (ma_lanes, .inl (cI, 40, .inl mc_lanes)), (ma_lengths, .inl (cI, 40, .inl mc_lengths)), (ma_cells, .inl (cI, 480, .inl mc_cells))]) [0, 1, 2, 3] rfl
                  have hD9 := hD.sub (ws' := [(mh, .inr (2, [.int m_hasRun, .int m_thrown, .int m_thrownAt, m_values, m_meant, .ref ma_lanes, .ref ma_lengths, .ref ma_cells, .long m_state])), (ma_lanes, .inl (cI, 40, .inl mc_lanes)), (ma_lengths, .inl (cI, 40, .inl mc_lengths)), (ma_cells, .inl (cI, 480, .inl mc_cells))]) [0, 1, 2, 3] (by decide) rfl
                  exact W.iret (v := 5) hx hb hr (fun t ht hW => ⟨⟨5, mc_cells, rfl, trivial, by rw [ht]; exact hP9, va_K.moved hW.alike hK, hD9⟩, hS.F ht⟩) hS.2.2 dX2_doCopy_79
            · -- no
              have k_8 : na.toInt < (0 : Int32).toInt := ci_nge c_8
              refine lv_iconst (v := 5) hx hb dX2_doCopy_41 (by decide) ?_
              have hP9 := hP.sub (ws' := [(mh, .inr (2, [.int m_hasRun, .int m_thrown, .int m_thrownAt, m_values, m_meant, .ref ma_lanes, .ref ma_lengths, .ref ma_cells, .long m_state])), (ma_lanes, .inl (cI, 40, .inl mc_lanes)), (ma_lengths, .inl (cI, 40, .inl mc_lengths)), (ma_cells, .inl (cI, 480, .inl mc_cells))]) [0, 1, 2, 3] rfl
              have hD9 := hD.sub (ws' := [(mh, .inr (2, [.int m_hasRun, .int m_thrown, .int m_thrownAt, m_values, m_meant, .ref ma_lanes, .ref ma_lengths, .ref ma_cells, .long m_state])), (ma_lanes, .inl (cI, 40, .inl mc_lanes)), (ma_lengths, .inl (cI, 40, .inl mc_lengths)), (ma_cells, .inl (cI, 480, .inl mc_cells))]) [0, 1, 2, 3] (by decide) rfl
              exact W.iret (v := 5) hx hb hr (fun t ht hW => ⟨⟨5, mc_cells, rfl, trivial, by rw [ht]; exact hP9, va_K.moved hW.alike hK, hD9⟩, hS.F ht⟩) hS.2.2 dX2_doCopy_42
      · -- no
        have k_5 : ¬ v_3.toInt = v_4.toInt := ci_ne c_5
        refine lv_iconst (v := 4) hx hb dX2_doCopy_25 (by decide) ?_
        have hP9 := hP.sub (ws' := [(mh, .inr (2, [.int m_hasRun, .int m_thrown, .int m_thrownAt, m_values, m_meant, .ref ma_lanes, .ref ma_lengths, .ref ma_cells, .long m_state])), (ma_lanes, .inl (cI, 40, .inl mc_lanes)), (ma_lengths, .inl (cI, 40, .inl mc_lengths)), (ma_cells, .inl (cI, 480, .inl mc_cells))]) [0, 1, 2, 3] rfl
        have hD9 := hD.sub (ws' := [(mh, .inr (2, [.int m_hasRun, .int m_thrown, .int m_thrownAt, m_values, m_meant, .ref ma_lanes, .ref ma_lengths, .ref ma_cells, .long m_state])), (ma_lanes, .inl (cI, 40, .inl mc_lanes)), (ma_lengths, .inl (cI, 40, .inl mc_lengths)), (ma_cells, .inl (cI, 480, .inl mc_cells))]) [0, 1, 2, 3] (by decide) rfl
        exact W.iret (v := 4) hx hb hr (fun t ht hW => ⟨⟨4, mc_cells, rfl, trivial, by rw [ht]; exact hP9, va_K.moved hW.alike hK, hD9⟩, hS.F ht⟩) hS.2.2 dX2_doCopy_26
    · -- no
      have k_2 : ta.toInt < (0 : Int32).toInt := ci_nge c_2
      refine lv_iconst (v := 1) hx hb dX2_doCopy_8 (by decide) ?_
      have hP9 := hP.sub (ws' := [(mh, .inr (2, [.int m_hasRun, .int m_thrown, .int m_thrownAt, m_values, m_meant, .ref ma_lanes, .ref ma_lengths, .ref ma_cells, .long m_state])), (ma_lanes, .inl (cI, 40, .inl mc_lanes)), (ma_lengths, .inl (cI, 40, .inl mc_lengths)), (ma_cells, .inl (cI, 480, .inl mc_cells))]) [0, 1, 2, 3] rfl
      have hD9 := hD.sub (ws' := [(mh, .inr (2, [.int m_hasRun, .int m_thrown, .int m_thrownAt, m_values, m_meant, .ref ma_lanes, .ref ma_lengths, .ref ma_cells, .long m_state])), (ma_lanes, .inl (cI, 40, .inl mc_lanes)), (ma_lengths, .inl (cI, 40, .inl mc_lengths)), (ma_cells, .inl (cI, 480, .inl mc_cells))]) [0, 1, 2, 3] (by decide) rfl
      exact W.iret (v := 1) hx hb hr (fun t ht hW => ⟨⟨1, mc_cells, rfl, trivial, by rw [ht]; exact hP9, va_K.moved hW.alike hK, hD9⟩, hS.F ht⟩) hS.2.2 dX2_doCopy_9

def v_X2_doFill : List Cond := .code yX2_doFill cX2_doFill 8 (some .int) :: ([.methodLink RX2 108 yX2_doWrite, .instanceMethod yX2_doWrite, .selects RX2 yX2_doWrite yX2_doWrite, .initialized RX2] ++ (v_X2_doWrite))
theorem im_X2_doFill_X2_doWrite : ∀ w ∈ v_X2_doWrite, w ∈ v_X2_doFill := fun _ h => List.mem_cons_of_mem _ (List.mem_append_right _ (h))
set_option maxRecDepth 20000 in
theorem gd_X2_doFill : gdL v_X2_doFill := gdC (gdW (by decide +kernel)) (gdA (gdW (by decide +kernel)) gd_X2_doWrite)
set_option maxRecDepth 20000 in
theorem h_X2_doFill_X2_doWrite_108 : GoodIn v_X2_doFill (wsV RX2 108 RX2 yX2_doWrite v_X2_doWrite) := gdI [1, 2, 3, 4] rfl (by decide +kernel) (im_X2_doFill_X2_doWrite) gd_X2_doWrite
abbrev sw_X2_doFill (cI cJ cZ : ClassId) (mh : Nat) (m_hasRun : Int32) (m_thrown : Int32) (m_thrownAt : Int32) (m_values : Value) (m_meant : Value) (ma_lanes : Nat) (ma_lengths : Nat) (ma_cells : Nat) (m_state : Int64) (mc_lanes : Nat → Int32) (mc_lengths : Nat → Int32) (mc_cells : Nat → Int32) (arra : Int32) (la : Int32) (xa : Int32) (ya : Int32) (na : Int32) : va_W := [(mh, .inr (2, [.int m_hasRun, .int m_thrown, .int m_thrownAt, m_values, m_meant, .ref ma_lanes, .ref ma_lengths, .ref ma_cells, .long m_state])), (ma_lanes, .inl (cI, 40, .inl mc_lanes)), (ma_lengths, .inl (cI, 40, .inl mc_lengths)), (ma_cells, .inl (cI, 480, .inl mc_cells))]
set_option maxHeartbeats 8000000 in
set_option maxRecDepth 100000 in
theorem s_X2_doFill (l : Launch) (dC : Nat → ClassId) (dI : Nat → Nat → Nat) (cI cJ cZ : ClassId) (mh : Nat) (m_hasRun : Int32) (m_thrown : Int32) (m_thrownAt : Int32) (m_values : Value) (m_meant : Value) (ma_lanes : Nat) (ma_lengths : Nat) (ma_cells : Nat) (m_state : Int64) (mc_lanes : Nat → Int32) (mc_lengths : Nat → Int32) (mc_cells : Nat → Int32) (arra : Int32) (la : Int32) (xa : Int32) (ya : Int32) (na : Int32) (sz : Nat) (q_m_hasRun : kZ m_hasRun) (h_mc_lengths : ∀ j : Nat, kR012 (mc_lengths j)) (hy_arra : -1 ≤ arra.toInt ∧ arra.toInt ≤ 39) : Met l yX2_doFill v_X2_doFill ({ frames := 2, cells := 0, slots := 0, locals := 48 }) (va_Pc [.ref mh, .int arra, .int la, .int xa, .int ya, .int na] (cPre dC dI cI cJ cZ sz (sw_X2_doFill cI cJ cZ mh m_hasRun m_thrown m_thrownAt m_values m_meant ma_lanes ma_lengths ma_cells m_state mc_lanes mc_lengths mc_cells arra la xa ya na))) (va_Qi (fun (r : Int32) (u : (Nat → Int32)) => True) (fun (u : (Nat → Int32)) => cPost dC dI cI cJ cZ (va_A (sw_X2_doFill cI cJ cZ mh m_hasRun m_thrown m_thrownAt m_values m_meant ma_lanes ma_lengths ma_cells m_state mc_lanes mc_lengths mc_cells arra la xa ya na) sz) [(mh, .inr (2, [.int m_hasRun, .int m_thrown, .int m_thrownAt, m_values, m_meant, .ref ma_lanes, .ref ma_lengths, .ref ma_cells, .long m_state])), (ma_lanes, .inl (cI, 40, .inl mc_lanes)), (ma_lengths, .inl (cI, 40, .inl mc_lengths)), (ma_cells, .inl (cI, 480, .inl (u)))]) (va_A (sw_X2_doFill cI cJ cZ mh m_hasRun m_thrown m_thrownAt m_values m_meant ma_lanes ma_lengths ma_cells m_state mc_lanes mc_lengths mc_cells arra la xa ya na) sz)) 0 0 (va_A (sw_X2_doFill cI cJ cZ mh m_hasRun m_thrown m_thrownAt m_values m_meant ma_lanes ma_lengths ma_cells m_state mc_lanes mc_lengths mc_cells arra la xa ya na) sz) := by
  refine Met.ofW (cc := cX2_doFill) (maxL := 8) (ret := (some .int)) (by decide) rfl ?_
  intro p e s m args below meth c s₁ B hml hv
  obtain ⟨rfl, hsz, hP, hK, hD0, hN⟩ := hv
  have hx := B.exec
  have hb := B.bytes
  have hr := B.returns
  have hts := atoms_spec (ws := v_X2_doFill) B.pre
  have hown : s.vm.findClass RX2 = some m.cls := findClass_of_methodNamed B.named
  have hlocks := B.notSynchronized
  subst hsz
  have hD := hD0.self (sz := s.heap.size)
  generalize hAe : va_A (sw_X2_doFill cI cJ cZ mh m_hasRun m_thrown m_thrownAt m_values m_meant ma_lanes ma_lengths ma_cells m_state mc_lanes mc_lengths mc_cells arra la xa ya na) s.heap.size = A at hD ⊢
  have hA : ∀ q : Nat, s.heap.size ≤ q → A q := fun q h => by rw [← hAe]; exact Or.inr h
  clear hAe hD0
  have hS : va_S A s.heap s.heap [] := va_S.rf
  replace hP : va_P (dC, dI) vwCl [(mh, .inr (2, [.int m_hasRun, .int m_thrown, .int m_thrownAt, m_values, m_meant, .ref ma_lanes, .ref ma_lengths, .ref ma_cells, .long m_state])), (ma_lanes, .inl (cI, 40, .inl mc_lanes)), (ma_lengths, .inl (cI, 40, .inl mc_lengths)), (ma_cells, .inl (cI, 480, .inl mc_cells))] s.heap := hP
  replace hD : va_D A [(mh, .inr (2, [.int m_hasRun, .int m_thrown, .int m_thrownAt, m_values, m_meant, .ref ma_lanes, .ref ma_lengths, .ref ma_cells, .long m_state])), (ma_lanes, .inl (cI, 40, .inl mc_lanes)), (ma_lengths, .inl (cI, 40, .inl mc_lengths)), (ma_cells, .inl (cI, 480, .inl mc_cells))] := hD
  have hl := lv_entry ([.ref mh, .int arra, .int la, .int xa, .int ya, .int na]) (n := 8) (Nat.le_of_ble_eq_true rfl)
  rw [lg_entry_eq]
  generalize (lg_sl ([.ref mh, .int arra, .int la, .int xa, .int ya, .int na]) ++ List.replicate (8 - (lg_sl ([.ref mh, .int arra, .int la, .int xa, .int ya, .int na])).length) Slot.unset).toArray = ls at hl ⊢
  replace hl : lv_has ls 8 [(0, .ref mh), (1, .int arra), (2, .int la), (3, .int xa), (4, .int ya), (5, .int na)] := hl
  have z_0 : (0 : Int32).toInt = 0 := by decide
  have z_1 : (1 : Int32).toInt = 1 := by decide
  have ir_ya := i32r ya
  refine lv_iconst (v := 0) hx hb dX2_doFill_0 (by decide) ?_
  refine lv_istore (lv' := [(6, .int 0), (0, .ref mh), (1, .int arra), (2, .int la), (3, .int xa), (4, .int ya), (5, .int na)]) hx hb dX2_doFill_1 hl (by decide) rfl (fun ls1 hl1 => ?_)
  replace hl := hl1; clear hl1
  refine lv_iload_n hx hb dX2_doFill_3 rfl (lv_at hl 4 rfl) ?_
  refine lv_istore (lv' := [(7, .int xa), (6, .int 0), (0, .ref mh), (1, .int arra), (2, .int la), (3, .int xa), (4, .int ya), (5, .int na)]) hx hb dX2_doFill_4 hl (by decide) rfl (fun ls1 hl1 => ?_)
  replace hl := hl1; clear hl1
  refine my_wloop (S := Int32 × Int32 × (Nat → Int32)) (fun u => True) (fun u => (if (u.2.1).toInt = 0 then (if 0 ≤ (u.1).toInt ∧ (u.1).toInt ≤ 12 then (14 - (u.1).toInt).toNat else 1) else 0)) (fun u => [(mh, .inr (2, [.int m_hasRun, .int m_thrown, .int m_thrownAt, m_values, m_meant, .ref ma_lanes, .ref ma_lengths, .ref ma_cells, .long m_state])), (ma_lanes, .inl (cI, 40, .inl mc_lanes)), (ma_lengths, .inl (cI, 40, .inl mc_lengths)), (ma_cells, .inl (cI, 480, .inl (u.2.2)))]) (fun u => [(7, .int (u.1)), (6, .int (u.2.1)), (0, .ref mh), (1, .int arra), (2, .int la), (3, .int xa), (4, .int ya), (5, .int na)]) (H0 := s.heap) (A := A) (D := (dC, dI)) (cl := vwCl) (xa, (0 : Int32), mc_cells) (show True from trivial) (by exact hP) (by exact hD) hS (by exact hl) (fun u_1 hu_1 ih_1 H_1 locs_1 ls1 hP1 hD1 hS1 hl1 => ?_)
  obtain ⟨v_2, v_3, f_4⟩ := u_1
  replace hP : va_P (dC, dI) vwCl [(mh, .inr (2, [.int m_hasRun, .int m_thrown, .int m_thrownAt, m_values, m_meant, .ref ma_lanes, .ref ma_lengths, .ref ma_cells, .long m_state])), (ma_lanes, .inl (cI, 40, .inl mc_lanes)), (ma_lengths, .inl (cI, 40, .inl mc_lengths)), (ma_cells, .inl (cI, 480, .inl f_4))] H_1 := hP1
  replace hD : va_D A [(mh, .inr (2, [.int m_hasRun, .int m_thrown, .int m_thrownAt, m_values, m_meant, .ref ma_lanes, .ref ma_lengths, .ref ma_cells, .long m_state])), (ma_lanes, .inl (cI, 40, .inl mc_lanes)), (ma_lengths, .inl (cI, 40, .inl mc_lengths)), (ma_cells, .inl (cI, 480, .inl f_4))] := hD1
  replace hS := hS1
  clear hP1 hD1 hS1
  replace hl : lv_has ls1 8 [(7, .int v_2), (6, .int v_3), (0, .ref mh), (1, .int arra), (2, .int la), (3, .int xa), (4, .int ya), (5, .int na)] := hl1
  clear hl1
  refine lv_iload hx hb dX2_doFill_6 (lv_at hl 0 rfl) ?_
  refine lv_iload hx hb dX2_doFill_8 (lv_at hl 6 rfl) ?_
  refine my_join (S := Unit) (fun u => True) (fun u => [(mh, .inr (2, [.int m_hasRun, .int m_thrown, .int m_thrownAt, m_values, m_meant, .ref ma_lanes, .ref ma_lengths, .ref ma_cells, .long m_state])), (ma_lanes, .inl (cI, 40, .inl mc_lanes)), (ma_lengths, .inl (cI, 40, .inl mc_lengths)), (ma_cells, .inl (cI, 480, .inl f_4))]) (fun u => [(7, .int v_2), (6, .int v_3), (0, .ref mh), (1, .int arra), (2, .int la), (3, .int xa), (4, .int ya), (5, .int na)]) (fun u => []) (nL := 8) (H0 := s.heap) (A := A) (D := (dC, dI)) (cl := vwCl) 36 (fun u_6 hu_6 H_6 locs_6 ls1 hP1 hD1 hS1 hl1 => ?_) (fun jn_6 => ?_)
  · -- behind 36
    replace hP : va_P (dC, dI) vwCl [(mh, .inr (2, [.int m_hasRun, .int m_thrown, .int m_thrownAt, m_values, m_meant, .ref ma_lanes, .ref ma_lengths, .ref ma_cells, .long m_state])), (ma_lanes, .inl (cI, 40, .inl mc_lanes)), (ma_lengths, .inl (cI, 40, .inl mc_lengths)), (ma_cells, .inl (cI, 480, .inl f_4))] H_6 := hP1
    replace hD : va_D A [(mh, .inr (2, [.int m_hasRun, .int m_thrown, .int m_thrownAt, m_values, m_meant, .ref ma_lanes, .ref ma_lengths, .ref ma_cells, .long m_state])), (ma_lanes, .inl (cI, 40, .inl mc_lanes)), (ma_lengths, .inl (cI, 40, .inl mc_lengths)), (ma_cells, .inl (cI, 480, .inl f_4))] := hD1
    replace hS := hS1
    clear hP1 hD1 hS1
    replace hl : lv_has ls1 8 [(7, .int v_2), (6, .int v_3), (0, .ref mh), (1, .int arra), (2, .int la), (3, .int xa), (4, .int ya), (5, .int na)] := hl1
    clear hl1
    refine lv_iload hx hb dX2_doFill_36 (lv_at hl 1 rfl) ?_
    have hP9 := hP.sub (ws' := [(mh, .inr (2, [.int m_hasRun, .int m_thrown, .int m_thrownAt, m_values, m_meant, .ref ma_lanes, .ref ma_lengths, .ref ma_cells, .long m_state])), (ma_lanes, .inl (cI, 40, .inl mc_lanes)), (ma_lengths, .inl (cI, 40, .inl mc_lengths)), (ma_cells, .inl (cI, 480, .inl f_4))]) [0, 1, 2, 3] rfl
    have hD9 := hD.sub (ws' := [(mh, .inr (2, [.int m_hasRun, .int m_thrown, .int m_thrownAt, m_values, m_meant, .ref ma_lanes, .ref ma_lengths, .ref ma_cells, .long m_state])), (ma_lanes, .inl (cI, 40, .inl mc_lanes)), (ma_lengths, .inl (cI, 40, .inl mc_lengths)), (ma_cells, .inl (cI, 480, .inl f_4))]) [0, 1, 2, 3] (by decide) rfl
    exact W.iret (v := v_3) hx hb hr (fun t ht hW => ⟨⟨v_3, f_4, rfl, trivial, by rw [ht]; exact hP9, va_K.moved hW.alike hK, hD9⟩, hS.F ht⟩) hS.2.2 dX2_doFill_38
  · -- ahead of 36
    refine lv_icmp_ge (tgt := 36) hx hb dX2_doFill_10 (by decide) (fun c_7 => ?_) (fun c_7 => ?_)
    · -- yes
      have k_7 : ya.toInt ≤ v_2.toInt := ci_ge c_7
      exact jn_6 () (show True from trivial) _ _ _ (hP.sub [0, 1, 2, 3] rfl) (hD.sub [0, 1, 2, 3] (by decide) rfl) hS (lv_sub hl [0, 1, 2, 3, 4, 5, 6, 7] rfl)
    · -- no
      have k_7 : v_2.toInt < ya.toInt := ci_nge c_7
      refine lv_iload hx hb dX2_doFill_13 (lv_at hl 1 rfl) ?_
      refine lv_if_ne (tgt := 36) hx hb dX2_doFill_15 (by decide) (fun c_8 => ?_) (fun c_8 => ?_)
      · -- yes
        have k_8 : ¬ v_3.toInt = (0 : Int32).toInt := ci_ne c_8
        exact jn_6 () (show True from trivial) _ _ _ (hP.sub [0, 1, 2, 3] rfl) (hD.sub [0, 1, 2, 3] (by decide) rfl) hS (lv_sub hl [0, 1, 2, 3, 4, 5, 6, 7] rfl)
      · -- no
        have k_8 : v_3.toInt = (0 : Int32).toInt := ci_eq c_8
        refine lv_aload_n hx hb dX2_doFill_18 rfl (lv_at hl 2 rfl) ?_
        refine lv_iload_n hx hb dX2_doFill_19 rfl (lv_at hl 3 rfl) ?_
        refine lv_iload_n hx hb dX2_doFill_20 rfl (lv_at hl 4 rfl) ?_
        refine lv_iload hx hb dX2_doFill_21 (lv_at hl 0 rfl) ?_
        refine lv_iload hx hb dX2_doFill_23 (lv_at hl 7 rfl) ?_
        have hPc := hP.sub (ws' := [(mh, .inr (2, [.int m_hasRun, .int m_thrown, .int m_thrownAt, m_values, m_meant, .ref ma_lanes, .ref ma_lengths, .ref ma_cells, .long m_state])), (ma_lanes, .inl (cI, 40, .inl mc_lanes)), (ma_lengths, .inl (cI, 40, .inl mc_lengths)), (ma_cells, .inl (cI, 480, .inl f_4))]) [0, 1, 2, 3] rfl
        have hDc := hD.sub (ws' := [(mh, .inr (2, [.int m_hasRun, .int m_thrown, .int m_thrownAt, m_values, m_meant, .ref ma_lanes, .ref ma_lengths, .ref ma_cells, .long m_state])), (ma_lanes, .inl (cI, 40, .inl mc_lanes)), (ma_lengths, .inl (cI, 40, .inl mc_lengths)), (ma_cells, .inl (cI, 480, .inl f_4))]) [0, 1, 2, 3] (by decide) rfl
        have hFc := va_free (wc := [(mh, .inr (2, [.int m_hasRun, .int m_thrown, .int m_thrownAt, m_values, m_meant, .ref ma_lanes, .ref ma_lengths, .ref ma_cells, .long m_state])), (ma_lanes, .inl (cI, 40, .inl mc_lanes)), (ma_lengths, .inl (cI, 40, .inl mc_lengths)), (ma_cells, .inl (cI, 480, .inl f_4))]) hD hS hA [0, 1, 2, 3] rfl
        refine va_calli (va_runV (As := [.int arra, .int la, .int v_2, .int na]) (rest := []) ⟨hx, hb, hml, hown, hts⟩ (s_X2_doWrite l dC dI cI cJ cZ mh m_hasRun m_thrown m_thrownAt m_values m_meant ma_lanes ma_lengths ma_cells m_state mc_lanes mc_lengths f_4 arra la v_2 na H_1.size q_m_hasRun h_mc_lengths (by first | assumption | omega)) (cwV 4 hts h_X2_doFill_X2_doWrite_108 rfl rfl rfl (by decide +kernel) ⟨Nat.le_of_ble_eq_true rfl, Nat.le_of_ble_eq_true rfl⟩) ⟨cPre_blind, va_recv hK hPc (ci := 2) (q0 := 0) rfl rfl, cPre_of hK hN hPc hDc⟩ rfl rfl hl.1 rfl (lv_room (Nat.le_of_ble_eq_true rfl)) dX2_doFill_25 ⟨Nat.le_of_ble_eq_true rfl, Nat.le_of_ble_eq_true rfl⟩) hS (fun q _ h => hFc q h) hFc (fun r_9 u_9 t_9 H_9 locs_9 ht hvm hw_9 hB hz1 hk1 hS1 => ?_)
        obtain ⟨f_10, rfl⟩ : ∃ z, z = u_9 := ⟨_, rfl⟩
        obtain ⟨hP1, hK1, hD1⟩ := hB
        rw [ht] at hP1
        obtain ⟨hP2, hD2⟩ := va_join (wr := []) (w1 := [(mh, .inr (2, [.int m_hasRun, .int m_thrown, .int m_thrownAt, m_values, m_meant, .ref ma_lanes, .ref ma_lengths, .ref ma_cells, .long m_state])), (ma_lanes, .inl (cI, 40, .inl mc_lanes)), (ma_lengths, .inl (cI, 40, .inl mc_lengths)), (ma_cells, .inl (cI, 480, .inl f_10))]) hP hD [0, 1, 2, 3] [] rfl rfl (by decide) (by decide) hk1 hFc hP1 hD1
        clear hPc hDc hFc hP1 hD1 hK1 hk1 hz1 hvm ht
        replace hP : va_P (dC, dI) vwCl [(mh, .inr (2, [.int m_hasRun, .int m_thrown, .int m_thrownAt, m_values, m_meant, .ref ma_lanes, .ref ma_lengths, .ref ma_cells, .long m_state])), (ma_lanes, .inl (cI, 40, .inl mc_lanes)), (ma_lengths, .inl (cI, 40, .inl mc_lengths)), (ma_cells, .inl (cI, 480, .inl f_10))] H_9 := hP2
        replace hD : va_D A [(mh, .inr (2, [.int m_hasRun, .int m_thrown, .int m_thrownAt, m_values, m_meant, .ref ma_lanes, .ref ma_lengths, .ref ma_cells, .long m_state])), (ma_lanes, .inl (cI, 40, .inl mc_lanes)), (ma_lengths, .inl (cI, 40, .inl mc_lengths)), (ma_cells, .inl (cI, 480, .inl f_10))] := hD2
        replace hS := hS1
        clear hP2 hD2 hS1
        replace hw_9 : (r_9.toInt ≠ 0 ∨ (0 ≤ arra.toInt ∧ 0 ≤ v_2.toInt ∧ v_2.toInt ≤ 11)) := hw_9
        have q_r_9 := hw_9
        refine lv_istore (lv' := [(6, .int r_9), (7, .int v_2), (0, .ref mh), (1, .int arra), (2, .int la), (3, .int xa), (4, .int ya), (5, .int na)]) hx hb dX2_doFill_28 hl (by decide) rfl (fun ls1 hl1 => ?_)
        replace hl := hl1; clear hl1
        have ir_11 := i32r v_2
        refine sf_iinc hx hb dX2_doFill_30 hl (k := 1) (x := v_2) (w := 1) rfl (by decide) (by decide) ⟨by omega, by omega⟩ (fun v_12 q_v_12 ls1 hl1 => ?_)
        replace hl : lv_has ls1 8 [(7, .int v_12), (6, .int r_9), (0, .ref mh), (1, .int arra), (2, .int la), (3, .int xa), (4, .int ya), (5, .int na)] := hl1
        clear hl1
        refine lv_goto (tgt := 6) hx hb dX2_doFill_33 (by decide) ?_
        exact ih_1 (v_12, r_9, f_10) (show True from trivial) (by show (if r_9.toInt = 0 then (if 0 ≤ v_12.toInt ∧ v_12.toInt ≤ 12 then (14 - v_12.toInt).toNat else 1) else 0) < (if v_3.toInt = 0 then (if 0 ≤ v_2.toInt ∧ v_2.toInt ≤ 12 then (14 - v_2.toInt).toNat else 1) else 0); (repeat' split) <;> omega) _ _ _ (hP.sub [0, 1, 2, 3] rfl) (hD.sub [0, 1, 2, 3] (by decide) rfl) hS (lv_sub hl [0, 1, 2, 3, 4, 5, 6, 7] rfl)
