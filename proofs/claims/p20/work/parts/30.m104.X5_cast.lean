def v_X5_cast : List Cond := .code yX5_cast cX5_cast 2 (some .int) :: ([.constant RX5 287 (65535)] ++ ([]))
set_option maxRecDepth 20000 in
theorem gd_X5_cast : gdL v_X5_cast := gdC (gdW (by decide +kernel)) (gdA (gdW (by decide +kernel)) gdE)
set_option maxHeartbeats 8000000 in
set_option maxRecDepth 100000 in
theorem s_X5_cast (l : Launch) (va : Int32) (la : Int32) : Met l yX5_cast v_X5_cast ({ frames := 0, cells := 0, slots := 0, locals := 0 }) (va_Pc [.int va, .int la] (fun _ => True)) (vp_Si (fun (r : Int32) => (castR la.toInt va.toInt r.toInt))) 0 0 (fun _ => False) := by
  refine Met.ofW (cc := cX5_cast) (maxL := 2) (ret := (some .int)) (by decide) rfl ?_
  intro p e s m args below meth c s₁ B hml hv
  obtain ⟨rfl, -⟩ := hv
  have hx := B.exec
  have hb := B.bytes
  have hr := B.returns
  have hts := atoms_spec (ws := v_X5_cast) B.pre
  have hown : s.vm.findClass RX5 = some m.cls := findClass_of_methodNamed B.named
  have hlocks := B.notSynchronized
  have hl := lv_entry ([.int va, .int la]) (n := 2) (Nat.le_of_ble_eq_true rfl)
  rw [lg_entry_eq]
  generalize (lg_sl ([.int va, .int la]) ++ List.replicate (2 - (lg_sl ([.int va, .int la])).length) Slot.unset).toArray = ls at hl ⊢
  replace hl : lv_has ls 2 [(0, .int va), (1, .int la)] := hl
  have z_0 : (0 : Int32).toInt = 0 := by decide
  have z_1 : (1 : Int32).toInt = 1 := by decide
  refine lv_iload_n hx hb dX5_cast_0 rfl (lv_at hl 1 rfl) ?_
  refine lv_if_ne (tgt := 9) hx hb dX5_cast_1 (by decide) (fun c_1 => ?_) (fun c_1 => ?_)
  · -- yes
    have k_1 : ¬ la.toInt = (0 : Int32).toInt := ci_ne c_1
    refine lv_iload_n hx hb dX5_cast_9 rfl (lv_at hl 1 rfl) ?_
    refine lv_iconst (v := 1) hx hb dX5_cast_10 (by decide) ?_
    refine lv_icmp_ne (tgt := 22) hx hb dX5_cast_11 (by decide) (fun c_2 => ?_) (fun c_2 => ?_)
    · -- yes
      have k_2 : ¬ la.toInt = (1 : Int32).toInt := ci_ne c_2
      refine lv_iload_n hx hb dX5_cast_22 rfl (lv_at hl 0 rfl) ?_
      exact W.iret (v := va) hx hb hr (fun t ht hW => ⟨va, rfl, (show castR la.toInt va.toInt va.toInt from (by omega)), ht⟩) (by intro q hq; cases hq) dX5_cast_23
    · -- no
      have k_2 : la.toInt = (1 : Int32).toInt := ci_eq c_2
      refine lv_iload_n hx hb dX5_cast_14 rfl (lv_at hl 0 rfl) ?_
      refine lv_ldcw hx hb hown (hts (.constant RX5 287 (65535)) (List.mem_of_getElem? (i := 1) rfl)) dX5_cast_15 ?_
      refine lv_iand hx hb dX5_cast_18 ?_
      refine lv_topi (fun v_3 e_v_3 => ?_)
      refine lv_goto (tgt := 23) hx hb dX5_cast_19 (by decide) ?_
      exact W.iret (v := v_3) hx hb hr (fun t ht hW => ⟨v_3, rfl, (show castR la.toInt va.toInt v_3.toInt from (by have b0 := cast_aE e_v_3; omega)), ht⟩) (by intro q hq; cases hq) dX5_cast_23
  · -- no
    have k_1 : la.toInt = (0 : Int32).toInt := ci_eq c_1
    refine lv_iload_n hx hb dX5_cast_4 rfl (lv_at hl 0 rfl) ?_
    refine lv_i2b (v := _) hx hb dX5_cast_5 rfl ?_
    refine lv_topi (fun v_4 e_v_4 => ?_)
    refine lv_goto (tgt := 23) hx hb dX5_cast_6 (by decide) ?_
    exact W.iret (v := v_4) hx hb hr (fun t ht hW => ⟨v_4, rfl, (show castR la.toInt va.toInt v_4.toInt from (by have b0 := cast_bE e_v_4; omega)), ht⟩) (by intro q hq; cases hq) dX5_cast_23
