def v_X5_laneHigh : List Cond := .code yX5_laneHigh cX5_laneHigh 1 (some .long) :: ([.constantLong RX5 137 (2147483647), .constantLong RX5 135 (65535), .constantLong RX5 133 (127)] ++ ([]))
set_option maxRecDepth 20000 in
theorem gd_X5_laneHigh : gdL v_X5_laneHigh := gdC (gdW (by decide +kernel)) (gdA (gdW (by decide +kernel)) gdE)
set_option maxHeartbeats 8000000 in
set_option maxRecDepth 100000 in
theorem s_X5_laneHigh (l : Launch) (la : Int32) : Met l yX5_laneHigh v_X5_laneHigh ({ frames := 0, cells := 0, slots := 0, locals := 0 }) (va_Pc [.int la] (fun _ => True)) (vp_Sl (fun (r : Int64) => ((la.toInt = 0 → r.toInt = 127) ∧ (la.toInt = 1 → r.toInt = 65535) ∧ (¬ la.toInt = 0 → ¬ la.toInt = 1 → r.toInt = 2147483647)))) 0 0 (fun _ => False) := by
  refine Met.ofW (cc := cX5_laneHigh) (maxL := 1) (ret := (some .long)) (by decide) rfl ?_
  intro p e s m args below meth c s₁ B hml hv
  obtain ⟨rfl, -⟩ := hv
  have hx := B.exec
  have hb := B.bytes
  have hr := B.returns
  have hts := atoms_spec (ws := v_X5_laneHigh) B.pre
  have hown : s.vm.findClass RX5 = some m.cls := findClass_of_methodNamed B.named
  have hlocks := B.notSynchronized
  have hl := lv_entry ([.int la]) (n := 1) (Nat.le_of_ble_eq_true rfl)
  rw [lg_entry_eq]
  generalize (lg_sl ([.int la]) ++ List.replicate (1 - (lg_sl ([.int la])).length) Slot.unset).toArray = ls at hl ⊢
  replace hl : lv_has ls 1 [(0, .int la)] := hl
  have z_0 : (0 : Int32).toInt = 0 := by decide
  have z_1 : (1 : Int32).toInt = 1 := by decide
  have zl_127 : (127 : Int64).toInt = 127 := by decide
  have zl_65535 : (65535 : Int64).toInt = 65535 := by decide
  have zl_2147483647 : (2147483647 : Int64).toInt = 2147483647 := by decide
  refine lv_iload_n hx hb dX5_laneHigh_0 rfl (lv_at hl 0 rfl) ?_
  refine lv_if_ne (tgt := 10) hx hb dX5_laneHigh_1 (by decide) (fun c_1 => ?_) (fun c_1 => ?_)
  · -- yes
    have k_1 : ¬ la.toInt = (0 : Int32).toInt := ci_ne c_1
    refine lv_iload_n hx hb dX5_laneHigh_10 rfl (lv_at hl 0 rfl) ?_
    refine lv_iconst (v := 1) hx hb dX5_laneHigh_11 (by decide) ?_
    refine lv_icmp_ne (tgt := 21) hx hb dX5_laneHigh_12 (by decide) (fun c_2 => ?_) (fun c_2 => ?_)
    · -- yes
      have k_2 : ¬ la.toInt = (1 : Int32).toInt := ci_ne c_2
      refine lv_ldc2 hx hb hown (hts (.constantLong RX5 137 (2147483647)) (List.mem_of_getElem? (i := 1) rfl)) dX5_laneHigh_21 ?_
      exact W.lret (v := 2147483647) hx hb hr (fun t ht hW => ⟨2147483647, rfl, (show (la.toInt = 0 → (2147483647 : Int64).toInt = 127) ∧ (la.toInt = 1 → (2147483647 : Int64).toInt = 65535) ∧ (¬ la.toInt = 0 → ¬ la.toInt = 1 → (2147483647 : Int64).toInt = 2147483647) from (by omega)), ht⟩) (by intro q hq; cases hq) dX5_laneHigh_24
    · -- no
      have k_2 : la.toInt = (1 : Int32).toInt := ci_eq c_2
      refine lv_ldc2 hx hb hown (hts (.constantLong RX5 135 (65535)) (List.mem_of_getElem? (i := 2) rfl)) dX5_laneHigh_15 ?_
      refine lv_goto (tgt := 24) hx hb dX5_laneHigh_18 (by decide) ?_
      exact W.lret (v := 65535) hx hb hr (fun t ht hW => ⟨65535, rfl, (show (la.toInt = 0 → (65535 : Int64).toInt = 127) ∧ (la.toInt = 1 → (65535 : Int64).toInt = 65535) ∧ (¬ la.toInt = 0 → ¬ la.toInt = 1 → (65535 : Int64).toInt = 2147483647) from (by omega)), ht⟩) (by intro q hq; cases hq) dX5_laneHigh_24
  · -- no
    have k_1 : la.toInt = (0 : Int32).toInt := ci_eq c_1
    refine lv_ldc2 hx hb hown (hts (.constantLong RX5 133 (127)) (List.mem_of_getElem? (i := 3) rfl)) dX5_laneHigh_4 ?_
    refine lv_goto (tgt := 24) hx hb dX5_laneHigh_7 (by decide) ?_
    exact W.lret (v := 127) hx hb hr (fun t ht hW => ⟨127, rfl, (show (la.toInt = 0 → (127 : Int64).toInt = 127) ∧ (la.toInt = 1 → (127 : Int64).toInt = 65535) ∧ (¬ la.toInt = 0 → ¬ la.toInt = 1 → (127 : Int64).toInt = 2147483647) from (by omega)), ht⟩) (by intro q hq; cases hq) dX5_laneHigh_24
