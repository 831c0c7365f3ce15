def v_X5_laneLow : List Cond := .code yX5_laneLow cX5_laneLow 1 (some .long) :: ([.constantLong RX5 131 (-2147483648), .constantLong RX5 129 (-128)] ++ ([]))
set_option maxRecDepth 20000 in
theorem gd_X5_laneLow : gdL v_X5_laneLow := gdC (gdW (by decide +kernel)) (gdA (gdW (by decide +kernel)) gdE)
set_option maxHeartbeats 8000000 in
set_option maxRecDepth 100000 in
theorem s_X5_laneLow (l : Launch) (la : Int32) : Met l yX5_laneLow v_X5_laneLow ({ frames := 0, cells := 0, slots := 0, locals := 0 }) (va_Pc [.int la] (fun _ => True)) (vp_Sl (fun (r : Int64) => ((la.toInt = 0 → r.toInt = -128) ∧ (la.toInt = 1 → r.toInt = 0) ∧ (¬ la.toInt = 0 → ¬ la.toInt = 1 → r.toInt = -2147483648)))) 0 0 (fun _ => False) := by
  refine Met.ofW (cc := cX5_laneLow) (maxL := 1) (ret := (some .long)) (by decide) rfl ?_
  intro p e s m args below meth c s₁ B hml hv
  obtain ⟨rfl, -⟩ := hv
  have hx := B.exec
  have hb := B.bytes
  have hr := B.returns
  have hts := atoms_spec (ws := v_X5_laneLow) B.pre
  have hown : s.vm.findClass RX5 = some m.cls := findClass_of_methodNamed B.named
  have hlocks := B.notSynchronized
  have hl := lv_entry ([.int la]) (n := 1) (Nat.le_of_ble_eq_true rfl)
  rw [lg_entry_eq]
  generalize (lg_sl ([.int la]) ++ List.replicate (1 - (lg_sl ([.int la])).length) Slot.unset).toArray = ls at hl ⊢
  replace hl : lv_has ls 1 [(0, .int la)] := hl
  have z_0 : (0 : Int32).toInt = 0 := by decide
  have z_1 : (1 : Int32).toInt = 1 := by decide
  have zl_m2147483648 : (-2147483648 : Int64).toInt = -2147483648 := by decide
  have zl_m128 : (-128 : Int64).toInt = -128 := by decide
  have zl_0 : (0 : Int64).toInt = 0 := by decide
  refine lv_iload_n hx hb dX5_laneLow_0 rfl (lv_at hl 0 rfl) ?_
  refine lv_if_ne (tgt := 10) hx hb dX5_laneLow_1 (by decide) (fun c_1 => ?_) (fun c_1 => ?_)
  · -- yes
    have k_1 : ¬ la.toInt = (0 : Int32).toInt := ci_ne c_1
    refine lv_iload_n hx hb dX5_laneLow_10 rfl (lv_at hl 0 rfl) ?_
    refine lv_iconst (v := 1) hx hb dX5_laneLow_11 (by decide) ?_
    refine lv_icmp_ne (tgt := 19) hx hb dX5_laneLow_12 (by decide) (fun c_2 => ?_) (fun c_2 => ?_)
    · -- yes
      have k_2 : ¬ la.toInt = (1 : Int32).toInt := ci_ne c_2
      refine lv_ldc2 hx hb hown (hts (.constantLong RX5 131 (-2147483648)) (List.mem_of_getElem? (i := 1) rfl)) dX5_laneLow_19 ?_
      exact W.lret (v := (-2147483648)) hx hb hr (fun t ht hW => ⟨(-2147483648), rfl, (show (la.toInt = 0 → ((-2147483648) : Int64).toInt = -128) ∧ (la.toInt = 1 → ((-2147483648) : Int64).toInt = 0) ∧ (¬ la.toInt = 0 → ¬ la.toInt = 1 → ((-2147483648) : Int64).toInt = -2147483648) from (by omega)), ht⟩) (by intro q hq; cases hq) dX5_laneLow_22
    · -- no
      have k_2 : la.toInt = (1 : Int32).toInt := ci_eq c_2
      refine lv_lconst (v := 0) hx hb dX5_laneLow_15 (by decide) ?_
      refine lv_goto (tgt := 22) hx hb dX5_laneLow_16 (by decide) ?_
      exact W.lret (v := 0) hx hb hr (fun t ht hW => ⟨0, rfl, (show (la.toInt = 0 → (0 : Int64).toInt = -128) ∧ (la.toInt = 1 → (0 : Int64).toInt = 0) ∧ (¬ la.toInt = 0 → ¬ la.toInt = 1 → (0 : Int64).toInt = -2147483648) from (by omega)), ht⟩) (by intro q hq; cases hq) dX5_laneLow_22
  · -- no
    have k_1 : la.toInt = (0 : Int32).toInt := ci_eq c_1
    refine lv_ldc2 hx hb hown (hts (.constantLong RX5 129 (-128)) (List.mem_of_getElem? (i := 2) rfl)) dX5_laneLow_4 ?_
    refine lv_goto (tgt := 22) hx hb dX5_laneLow_7 (by decide) ?_
    exact W.lret (v := (-128)) hx hb hr (fun t ht hW => ⟨(-128), rfl, (show (la.toInt = 0 → ((-128) : Int64).toInt = -128) ∧ (la.toInt = 1 → ((-128) : Int64).toInt = 0) ∧ (¬ la.toInt = 0 → ¬ la.toInt = 1 → ((-128) : Int64).toInt = -2147483648) from (by omega)), ht⟩) (by intro q hq; cases hq) dX5_laneLow_22
