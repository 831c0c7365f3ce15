def v_X4_isVariable : List Cond := .code yX4_isVariable cX4_isVariable 1 (some .boolean) :: ([] ++ ([]))
set_option maxRecDepth 20000 in
theorem gd_X4_isVariable : gdL v_X4_isVariable := gdC (gdW (by decide +kernel)) (gdA (gdW (by decide +kernel)) gdE)
set_option maxHeartbeats 8000000 in
set_option maxRecDepth 100000 in
theorem s_X4_isVariable (l : Launch) (xa : Int32) : Met l yX4_isVariable v_X4_isVariable ({ frames := 0, cells := 0, slots := 0, locals := 0 }) (va_Pc [.int xa] (fun _ => True)) (vp_Si (fun (r : Int32) => (two r (V6 xa) 1 0))) 0 0 (fun _ => False) := by
  refine Met.ofW (cc := cX4_isVariable) (maxL := 1) (ret := (some .boolean)) (by decide) rfl ?_
  intro p e s m args below meth c s₁ B hml hv
  obtain ⟨rfl, -⟩ := hv
  have hx := B.exec
  have hb := B.bytes
  have hr := B.returns
  have hts := atoms_spec (ws := v_X4_isVariable) B.pre
  have hown : s.vm.findClass RX4 = some m.cls := findClass_of_methodNamed B.named
  have hlocks := B.notSynchronized
  have hl := lv_entry ([.int xa]) (n := 1) (Nat.le_of_ble_eq_true rfl)
  rw [lg_entry_eq]
  generalize (lg_sl ([.int xa]) ++ List.replicate (1 - (lg_sl ([.int xa])).length) Slot.unset).toArray = ls at hl ⊢
  replace hl : lv_has ls 1 [(0, .int xa)] := hl
  have z_0 : (0 : Int32).toInt = 0 := by decide
  have z_1 : (1 : Int32).toInt = 1 := by decide
  have z_6 : (6 : Int32).toInt = 6 := by decide
  refine lv_iload_n hx hb dX4_isVariable_0 rfl (lv_at hl 0 rfl) ?_
  refine lv_if_lt (tgt := 14) hx hb dX4_isVariable_1 (by decide) (fun c_1 => ?_) (fun c_1 => ?_)
  · -- yes
    have k_1 : xa.toInt < (0 : Int32).toInt := ci_lt c_1
    refine lv_iconst (v := 0) hx hb dX4_isVariable_14 (by decide) ?_
    exact W.zret (v := 0) (ty := .boolean) hx hb hr rfl (fun t ht hW => ⟨0, rfl, (show two (0 : Int32) (V6 xa) 1 0 from (by first | (refine Or.inl ⟨rfl, ?_⟩; omega) | (refine Or.inr ⟨rfl, ?_⟩; omega))), ht⟩) (by intro q hq; cases hq) dX4_isVariable_15
  · -- no
    have k_1 : (0 : Int32).toInt ≤ xa.toInt := ci_nlt c_1
    refine lv_iload_n hx hb dX4_isVariable_4 rfl (lv_at hl 0 rfl) ?_
    refine lv_bipush (v := 6) hx hb dX4_isVariable_5 (by decide) ?_
    refine lv_icmp_ge (tgt := 14) hx hb dX4_isVariable_7 (by decide) (fun c_2 => ?_) (fun c_2 => ?_)
    · -- yes
      have k_2 : (6 : Int32).toInt ≤ xa.toInt := ci_ge c_2
      refine lv_iconst (v := 0) hx hb dX4_isVariable_14 (by decide) ?_
      exact W.zret (v := 0) (ty := .boolean) hx hb hr rfl (fun t ht hW => ⟨0, rfl, (show two (0 : Int32) (V6 xa) 1 0 from (by first | (refine Or.inl ⟨rfl, ?_⟩; omega) | (refine Or.inr ⟨rfl, ?_⟩; omega))), ht⟩) (by intro q hq; cases hq) dX4_isVariable_15
    · -- no
      have k_2 : xa.toInt < (6 : Int32).toInt := ci_nge c_2
      refine lv_iconst (v := 1) hx hb dX4_isVariable_10 (by decide) ?_
      refine lv_goto (tgt := 15) hx hb dX4_isVariable_11 (by decide) ?_
      exact W.zret (v := 1) (ty := .boolean) hx hb hr rfl (fun t ht hW => ⟨1, rfl, (show two (1 : Int32) (V6 xa) 1 0 from (by first | (refine Or.inl ⟨rfl, ?_⟩; omega) | (refine Or.inr ⟨rfl, ?_⟩; omega))), ht⟩) (by intro q hq; cases hq) dX4_isVariable_15

def v_X4_isReference : List Cond := .code yX4_isReference cX4_isReference 1 (some .boolean) :: ([] ++ ([]))
set_option maxRecDepth 20000 in
theorem gd_X4_isReference : gdL v_X4_isReference := gdC (gdW (by decide +kernel)) (gdA (gdW (by decide +kernel)) gdE)
set_option maxHeartbeats 8000000 in
set_option maxRecDepth 100000 in
theorem s_X4_isReference (l : Launch) (xa : Int32) : Met l yX4_isReference v_X4_isReference ({ frames := 0, cells := 0, slots := 0, locals := 0 }) (va_Pc [.int xa] (fun _ => True)) (vp_Si (fun (r : Int32) => (two r (V6 xa) 1 0))) 0 0 (fun _ => False) := by
  refine Met.ofW (cc := cX4_isReference) (maxL := 1) (ret := (some .boolean)) (by decide) rfl ?_
  intro p e s m args below meth c s₁ B hml hv
  obtain ⟨rfl, -⟩ := hv
  have hx := B.exec
  have hb := B.bytes
  have hr := B.returns
  have hts := atoms_spec (ws := v_X4_isReference) B.pre
  have hown : s.vm.findClass RX4 = some m.cls := findClass_of_methodNamed B.named
  have hlocks := B.notSynchronized
  have hl := lv_entry ([.int xa]) (n := 1) (Nat.le_of_ble_eq_true rfl)
  rw [lg_entry_eq]
  generalize (lg_sl ([.int xa]) ++ List.replicate (1 - (lg_sl ([.int xa])).length) Slot.unset).toArray = ls at hl ⊢
  replace hl : lv_has ls 1 [(0, .int xa)] := hl
  have z_0 : (0 : Int32).toInt = 0 := by decide
  have z_1 : (1 : Int32).toInt = 1 := by decide
  have z_6 : (6 : Int32).toInt = 6 := by decide
  refine lv_iload_n hx hb dX4_isReference_0 rfl (lv_at hl 0 rfl) ?_
  refine lv_if_lt (tgt := 14) hx hb dX4_isReference_1 (by decide) (fun c_1 => ?_) (fun c_1 => ?_)
  · -- yes
    have k_1 : xa.toInt < (0 : Int32).toInt := ci_lt c_1
    refine lv_iconst (v := 0) hx hb dX4_isReference_14 (by decide) ?_
    exact W.zret (v := 0) (ty := .boolean) hx hb hr rfl (fun t ht hW => ⟨0, rfl, (show two (0 : Int32) (V6 xa) 1 0 from (by first | (refine Or.inl ⟨rfl, ?_⟩; omega) | (refine Or.inr ⟨rfl, ?_⟩; omega))), ht⟩) (by intro q hq; cases hq) dX4_isReference_15
  · -- no
    have k_1 : (0 : Int32).toInt ≤ xa.toInt := ci_nlt c_1
    refine lv_iload_n hx hb dX4_isReference_4 rfl (lv_at hl 0 rfl) ?_
    refine lv_bipush (v := 6) hx hb dX4_isReference_5 (by decide) ?_
    refine lv_icmp_ge (tgt := 14) hx hb dX4_isReference_7 (by decide) (fun c_2 => ?_) (fun c_2 => ?_)
    · -- yes
      have k_2 : (6 : Int32).toInt ≤ xa.toInt := ci_ge c_2
      refine lv_iconst (v := 0) hx hb dX4_isReference_14 (by decide) ?_
      exact W.zret (v := 0) (ty := .boolean) hx hb hr rfl (fun t ht hW => ⟨0, rfl, (show two (0 : Int32) (V6 xa) 1 0 from (by first | (refine Or.inl ⟨rfl, ?_⟩; omega) | (refine Or.inr ⟨rfl, ?_⟩; omega))), ht⟩) (by intro q hq; cases hq) dX4_isReference_15
    · -- no
      have k_2 : xa.toInt < (6 : Int32).toInt := ci_nge c_2
      refine lv_iconst (v := 1) hx hb dX4_isReference_10 (by decide) ?_
      refine lv_goto (tgt := 15) hx hb dX4_isReference_11 (by decide) ?_
      exact W.zret (v := 1) (ty := .boolean) hx hb hr rfl (fun t ht hW => ⟨1, rfl, (show two (1 : Int32) (V6 xa) 1 0 from (by first | (refine Or.inl ⟨rfl, ?_⟩; omega) | (refine Or.inr ⟨rfl, ?_⟩; omega))), ht⟩) (by intro q hq; cases hq) dX4_isReference_15

def v_X5_isName : List Cond := .code yX5_isName cX5_isName 1 (some .boolean) :: ([] ++ ([]))
set_option maxRecDepth 20000 in
theorem gd_X5_isName : gdL v_X5_isName := gdC (gdW (by decide +kernel)) (gdA (gdW (by decide +kernel)) gdE)
set_option maxHeartbeats 8000000 in
set_option maxRecDepth 100000 in
theorem s_X5_isName (l : Launch) (xa : Int32) : Met l yX5_isName v_X5_isName ({ frames := 0, cells := 0, slots := 0, locals := 0 }) (va_Pc [.int xa] (fun _ => True)) (vp_Si (fun (r : Int32) => (two r (V6 xa) 1 0))) 0 0 (fun _ => False) := by
  refine Met.ofW (cc := cX5_isName) (maxL := 1) (ret := (some .boolean)) (by decide) rfl ?_
  intro p e s m args below meth c s₁ B hml hv
  obtain ⟨rfl, -⟩ := hv
  have hx := B.exec
  have hb := B.bytes
  have hr := B.returns
  have hts := atoms_spec (ws := v_X5_isName) B.pre
  have hown : s.vm.findClass RX5 = some m.cls := findClass_of_methodNamed B.named
  have hlocks := B.notSynchronized
  have hl := lv_entry ([.int xa]) (n := 1) (Nat.le_of_ble_eq_true rfl)
  rw [lg_entry_eq]
  generalize (lg_sl ([.int xa]) ++ List.replicate (1 - (lg_sl ([.int xa])).length) Slot.unset).toArray = ls at hl ⊢
  replace hl : lv_has ls 1 [(0, .int xa)] := hl
  have z_0 : (0 : Int32).toInt = 0 := by decide
  have z_1 : (1 : Int32).toInt = 1 := by decide
  have z_6 : (6 : Int32).toInt = 6 := by decide
  refine lv_iload_n hx hb dX5_isName_0 rfl (lv_at hl 0 rfl) ?_
  refine lv_if_lt (tgt := 14) hx hb dX5_isName_1 (by decide) (fun c_1 => ?_) (fun c_1 => ?_)
  · -- yes
    have k_1 : xa.toInt < (0 : Int32).toInt := ci_lt c_1
    refine lv_iconst (v := 0) hx hb dX5_isName_14 (by decide) ?_
    exact W.zret (v := 0) (ty := .boolean) hx hb hr rfl (fun t ht hW => ⟨0, rfl, (show two (0 : Int32) (V6 xa) 1 0 from (by first | (refine Or.inl ⟨rfl, ?_⟩; omega) | (refine Or.inr ⟨rfl, ?_⟩; omega))), ht⟩) (by intro q hq; cases hq) dX5_isName_15
  · -- no
    have k_1 : (0 : Int32).toInt ≤ xa.toInt := ci_nlt c_1
    refine lv_iload_n hx hb dX5_isName_4 rfl (lv_at hl 0 rfl) ?_
    refine lv_bipush (v := 6) hx hb dX5_isName_5 (by decide) ?_
    refine lv_icmp_ge (tgt := 14) hx hb dX5_isName_7 (by decide) (fun c_2 => ?_) (fun c_2 => ?_)
    · -- yes
      have k_2 : (6 : Int32).toInt ≤ xa.toInt := ci_ge c_2
      refine lv_iconst (v := 0) hx hb dX5_isName_14 (by decide) ?_
      exact W.zret (v := 0) (ty := .boolean) hx hb hr rfl (fun t ht hW => ⟨0, rfl, (show two (0 : Int32) (V6 xa) 1 0 from (by first | (refine Or.inl ⟨rfl, ?_⟩; omega) | (refine Or.inr ⟨rfl, ?_⟩; omega))), ht⟩) (by intro q hq; cases hq) dX5_isName_15
    · -- no
      have k_2 : xa.toInt < (6 : Int32).toInt := ci_nge c_2
      refine lv_iconst (v := 1) hx hb dX5_isName_10 (by decide) ?_
      refine lv_goto (tgt := 15) hx hb dX5_isName_11 (by decide) ?_
      exact W.zret (v := 1) (ty := .boolean) hx hb hr rfl (fun t ht hW => ⟨1, rfl, (show two (1 : Int32) (V6 xa) 1 0 from (by first | (refine Or.inl ⟨rfl, ?_⟩; omega) | (refine Or.inr ⟨rfl, ?_⟩; omega))), ht⟩) (by intro q hq; cases hq) dX5_isName_15

def v_X4_isLane : List Cond := .code yX4_isLane cX4_isLane 1 (some .boolean) :: ([] ++ ([]))
set_option maxRecDepth 20000 in
theorem gd_X4_isLane : gdL v_X4_isLane := gdC (gdW (by decide +kernel)) (gdA (gdW (by decide +kernel)) gdE)
set_option maxHeartbeats 8000000 in
set_option maxRecDepth 100000 in
theorem s_X4_isLane (l : Launch) (xa : Int32) : Met l yX4_isLane v_X4_isLane ({ frames := 0, cells := 0, slots := 0, locals := 0 }) (va_Pc [.int xa] (fun _ => True)) (vp_Si (fun (r : Int32) => (two r (V3 xa) 1 0))) 0 0 (fun _ => False) := by
  refine Met.ofW (cc := cX4_isLane) (maxL := 1) (ret := (some .boolean)) (by decide) rfl ?_
  intro p e s m args below meth c s₁ B hml hv
  obtain ⟨rfl, -⟩ := hv
  have hx := B.exec
  have hb := B.bytes
  have hr := B.returns
  have hts := atoms_spec (ws := v_X4_isLane) B.pre
  have hown : s.vm.findClass RX4 = some m.cls := findClass_of_methodNamed B.named
  have hlocks := B.notSynchronized
  have hl := lv_entry ([.int xa]) (n := 1) (Nat.le_of_ble_eq_true rfl)
  rw [lg_entry_eq]
  generalize (lg_sl ([.int xa]) ++ List.replicate (1 - (lg_sl ([.int xa])).length) Slot.unset).toArray = ls at hl ⊢
  replace hl : lv_has ls 1 [(0, .int xa)] := hl
  have z_0 : (0 : Int32).toInt = 0 := by decide
  have z_1 : (1 : Int32).toInt = 1 := by decide
  have z_3 : (3 : Int32).toInt = 3 := by decide
  refine lv_iload_n hx hb dX4_isLane_0 rfl (lv_at hl 0 rfl) ?_
  refine lv_if_lt (tgt := 13) hx hb dX4_isLane_1 (by decide) (fun c_1 => ?_) (fun c_1 => ?_)
  · -- yes
    have k_1 : xa.toInt < (0 : Int32).toInt := ci_lt c_1
    refine lv_iconst (v := 0) hx hb dX4_isLane_13 (by decide) ?_
    exact W.zret (v := 0) (ty := .boolean) hx hb hr rfl (fun t ht hW => ⟨0, rfl, (show two (0 : Int32) (V3 xa) 1 0 from (by first | (refine Or.inl ⟨rfl, ?_⟩; omega) | (refine Or.inr ⟨rfl, ?_⟩; omega))), ht⟩) (by intro q hq; cases hq) dX4_isLane_14
  · -- no
    have k_1 : (0 : Int32).toInt ≤ xa.toInt := ci_nlt c_1
    refine lv_iload_n hx hb dX4_isLane_4 rfl (lv_at hl 0 rfl) ?_
    refine lv_iconst (v := 3) hx hb dX4_isLane_5 (by decide) ?_
    refine lv_icmp_ge (tgt := 13) hx hb dX4_isLane_6 (by decide) (fun c_2 => ?_) (fun c_2 => ?_)
    · -- yes
      have k_2 : (3 : Int32).toInt ≤ xa.toInt := ci_ge c_2
      refine lv_iconst (v := 0) hx hb dX4_isLane_13 (by decide) ?_
      exact W.zret (v := 0) (ty := .boolean) hx hb hr rfl (fun t ht hW => ⟨0, rfl, (show two (0 : Int32) (V3 xa) 1 0 from (by first | (refine Or.inl ⟨rfl, ?_⟩; omega) | (refine Or.inr ⟨rfl, ?_⟩; omega))), ht⟩) (by intro q hq; cases hq) dX4_isLane_14
    · -- no
      have k_2 : xa.toInt < (3 : Int32).toInt := ci_nge c_2
      refine lv_iconst (v := 1) hx hb dX4_isLane_9 (by decide) ?_
      refine lv_goto (tgt := 14) hx hb dX4_isLane_10 (by decide) ?_
      exact W.zret (v := 1) (ty := .boolean) hx hb hr rfl (fun t ht hW => ⟨1, rfl, (show two (1 : Int32) (V3 xa) 1 0 from (by first | (refine Or.inl ⟨rfl, ?_⟩; omega) | (refine Or.inr ⟨rfl, ?_⟩; omega))), ht⟩) (by intro q hq; cases hq) dX4_isLane_14

def v_X5_isLane : List Cond := .code yX5_isLane cX5_isLane 1 (some .boolean) :: ([] ++ ([]))
set_option maxRecDepth 20000 in
theorem gd_X5_isLane : gdL v_X5_isLane := gdC (gdW (by decide +kernel)) (gdA (gdW (by decide +kernel)) gdE)
set_option maxHeartbeats 8000000 in
set_option maxRecDepth 100000 in
theorem s_X5_isLane (l : Launch) (xa : Int32) : Met l yX5_isLane v_X5_isLane ({ frames := 0, cells := 0, slots := 0, locals := 0 }) (va_Pc [.int xa] (fun _ => True)) (vp_Si (fun (r : Int32) => (two r (V3 xa) 1 0))) 0 0 (fun _ => False) := by
  refine Met.ofW (cc := cX5_isLane) (maxL := 1) (ret := (some .boolean)) (by decide) rfl ?_
  intro p e s m args below meth c s₁ B hml hv
  obtain ⟨rfl, -⟩ := hv
  have hx := B.exec
  have hb := B.bytes
  have hr := B.returns
  have hts := atoms_spec (ws := v_X5_isLane) B.pre
  have hown : s.vm.findClass RX5 = some m.cls := findClass_of_methodNamed B.named
  have hlocks := B.notSynchronized
  have hl := lv_entry ([.int xa]) (n := 1) (Nat.le_of_ble_eq_true rfl)
  rw [lg_entry_eq]
  generalize (lg_sl ([.int xa]) ++ List.replicate (1 - (lg_sl ([.int xa])).length) Slot.unset).toArray = ls at hl ⊢
  replace hl : lv_has ls 1 [(0, .int xa)] := hl
  have z_0 : (0 : Int32).toInt = 0 := by decide
  have z_1 : (1 : Int32).toInt = 1 := by decide
  have z_3 : (3 : Int32).toInt = 3 := by decide
  refine lv_iload_n hx hb dX5_isLane_0 rfl (lv_at hl 0 rfl) ?_
  refine lv_if_lt (tgt := 13) hx hb dX5_isLane_1 (by decide) (fun c_1 => ?_) (fun c_1 => ?_)
  · -- yes
    have k_1 : xa.toInt < (0 : Int32).toInt := ci_lt c_1
    refine lv_iconst (v := 0) hx hb dX5_isLane_13 (by decide) ?_
    exact W.zret (v := 0) (ty := .boolean) hx hb hr rfl (fun t ht hW => ⟨0, rfl, (show two (0 : Int32) (V3 xa) 1 0 from (by first | (refine Or.inl ⟨rfl, ?_⟩; omega) | (refine Or.inr ⟨rfl, ?_⟩; omega))), ht⟩) (by intro q hq; cases hq) dX5_isLane_14
  · -- no
    have k_1 : (0 : Int32).toInt ≤ xa.toInt := ci_nlt c_1
    refine lv_iload_n hx hb dX5_isLane_4 rfl (lv_at hl 0 rfl) ?_
    refine lv_iconst (v := 3) hx hb dX5_isLane_5 (by decide) ?_
    refine lv_icmp_ge (tgt := 13) hx hb dX5_isLane_6 (by decide) (fun c_2 => ?_) (fun c_2 => ?_)
    · -- yes
      have k_2 : (3 : Int32).toInt ≤ xa.toInt := ci_ge c_2
      refine lv_iconst (v := 0) hx hb dX5_isLane_13 (by decide) ?_
      exact W.zret (v := 0) (ty := .boolean) hx hb hr rfl (fun t ht hW => ⟨0, rfl, (show two (0 : Int32) (V3 xa) 1 0 from (by first | (refine Or.inl ⟨rfl, ?_⟩; omega) | (refine Or.inr ⟨rfl, ?_⟩; omega))), ht⟩) (by intro q hq; cases hq) dX5_isLane_14
    · -- no
      have k_2 : xa.toInt < (3 : Int32).toInt := ci_nge c_2
      refine lv_iconst (v := 1) hx hb dX5_isLane_9 (by decide) ?_
      refine lv_goto (tgt := 14) hx hb dX5_isLane_10 (by decide) ?_
      exact W.zret (v := 1) (ty := .boolean) hx hb hr rfl (fun t ht hW => ⟨1, rfl, (show two (1 : Int32) (V3 xa) 1 0 from (by first | (refine Or.inl ⟨rfl, ?_⟩; omega) | (refine Or.inr ⟨rfl, ?_⟩; omega))), ht⟩) (by intro q hq; cases hq) dX5_isLane_14

def v_X4_isNumber : List Cond := .code yX4_isNumber cX4_isNumber 1 (some .boolean) :: ([.constant RX4 204 (-1000000), .constant RX4 205 (1000000)] ++ ([]))
set_option maxRecDepth 20000 in
theorem gd_X4_isNumber : gdL v_X4_isNumber := gdC (gdW (by decide +kernel)) (gdA (gdW (by decide +kernel)) gdE)
set_option maxHeartbeats 8000000 in
set_option maxRecDepth 100000 in
theorem s_X4_isNumber (l : Launch) (xa : Int32) : Met l yX4_isNumber v_X4_isNumber ({ frames := 0, cells := 0, slots := 0, locals := 0 }) (va_Pc [.int xa] (fun _ => True)) (vp_Si (fun (r : Int32) => (two r (VN xa) 1 0))) 0 0 (fun _ => False) := by
  refine Met.ofW (cc := cX4_isNumber) (maxL := 1) (ret := (some .boolean)) (by decide) rfl ?_
  intro p e s m args below meth c s₁ B hml hv
  obtain ⟨rfl, -⟩ := hv
  have hx := B.exec
  have hb := B.bytes
  have hr := B.returns
  have hts := atoms_spec (ws := v_X4_isNumber) B.pre
  have hown : s.vm.findClass RX4 = some m.cls := findClass_of_methodNamed B.named
  have hlocks := B.notSynchronized
  have hl := lv_entry ([.int xa]) (n := 1) (Nat.le_of_ble_eq_true rfl)
  rw [lg_entry_eq]
  generalize (lg_sl ([.int xa]) ++ List.replicate (1 - (lg_sl ([.int xa])).length) Slot.unset).toArray = ls at hl ⊢
  replace hl : lv_has ls 1 [(0, .int xa)] := hl
  have z_m1000000 : (-1000000 : Int32).toInt = -1000000 := by decide
  have z_0 : (0 : Int32).toInt = 0 := by decide
  have z_1 : (1 : Int32).toInt = 1 := by decide
  have z_1000000 : (1000000 : Int32).toInt = 1000000 := by decide
  refine lv_iload_n hx hb dX4_isNumber_0 rfl (lv_at hl 0 rfl) ?_
  refine lv_ldc hx hb hown (hts (.constant RX4 204 (-1000000)) (List.mem_of_getElem? (i := 1) rfl)) dX4_isNumber_1 ?_
  refine lv_icmp_lt (tgt := 16) hx hb dX4_isNumber_3 (by decide) (fun c_1 => ?_) (fun c_1 => ?_)
  · -- yes
    have k_1 : xa.toInt < (-1000000 : Int32).toInt := ci_lt c_1
    refine lv_iconst (v := 0) hx hb dX4_isNumber_16 (by decide) ?_
    exact W.zret (v := 0) (ty := .boolean) hx hb hr rfl (fun t ht hW => ⟨0, rfl, (show two (0 : Int32) (VN xa) 1 0 from (by first | (refine Or.inl ⟨rfl, ?_⟩; omega) | (refine Or.inr ⟨rfl, ?_⟩; omega))), ht⟩) (by intro q hq; cases hq) dX4_isNumber_17
  · -- no
    have k_1 : (-1000000 : Int32).toInt ≤ xa.toInt := ci_nlt c_1
    refine lv_iload_n hx hb dX4_isNumber_6 rfl (lv_at hl 0 rfl) ?_
    refine lv_ldc hx hb hown (hts (.constant RX4 205 (1000000)) (List.mem_of_getElem? (i := 2) rfl)) dX4_isNumber_7 ?_
    refine lv_icmp_gt (tgt := 16) hx hb dX4_isNumber_9 (by decide) (fun c_2 => ?_) (fun c_2 => ?_)
    · -- yes
      have k_2 : (1000000 : Int32).toInt < xa.toInt := ci_gt c_2
      refine lv_iconst (v := 0) hx hb dX4_isNumber_16 (by decide) ?_
      exact W.zret (v := 0) (ty := .boolean) hx hb hr rfl (fun t ht hW => ⟨0, rfl, (show two (0 : Int32) (VN xa) 1 0 from (by first | (refine Or.inl ⟨rfl, ?_⟩; omega) | (refine Or.inr ⟨rfl, ?_⟩; omega))), ht⟩) (by intro q hq; cases hq) dX4_isNumber_17
    · -- no
      have k_2 : xa.toInt ≤ (1000000 : Int32).toInt := ci_ngt c_2
      refine lv_iconst (v := 1) hx hb dX4_isNumber_12 (by decide) ?_
      refine lv_goto (tgt := 17) hx hb dX4_isNumber_13 (by decide) ?_
      exact W.zret (v := 1) (ty := .boolean) hx hb hr rfl (fun t ht hW => ⟨1, rfl, (show two (1 : Int32) (VN xa) 1 0 from (by first | (refine Or.inl ⟨rfl, ?_⟩; omega) | (refine Or.inr ⟨rfl, ?_⟩; omega))), ht⟩) (by intro q hq; cases hq) dX4_isNumber_17

def v_X5_isNumber : List Cond := .code yX5_isNumber cX5_isNumber 1 (some .boolean) :: ([.constant RX5 113 (-1000000), .constant RX5 114 (1000000)] ++ ([]))
set_option maxRecDepth 20000 in
theorem gd_X5_isNumber : gdL v_X5_isNumber := gdC (gdW (by decide +kernel)) (gdA (gdW (by decide +kernel)) gdE)
set_option maxHeartbeats 8000000 in
set_option maxRecDepth 100000 in
theorem s_X5_isNumber (l : Launch) (xa : Int32) : Met l yX5_isNumber v_X5_isNumber ({ frames := 0, cells := 0, slots := 0, locals := 0 }) (va_Pc [.int xa] (fun _ => True)) (vp_Si (fun (r : Int32) => (two r (VN xa) 1 0))) 0 0 (fun _ => False) := by
  refine Met.ofW (cc := cX5_isNumber) (maxL := 1) (ret := (some .boolean)) (by decide) rfl ?_
  intro p e s m args below meth c s₁ B hml hv
  obtain ⟨rfl, -⟩ := hv
  have hx := B.exec
  have hb := B.bytes
  have hr := B.returns
  have hts := atoms_spec (ws := v_X5_isNumber) B.pre
  have hown : s.vm.findClass RX5 = some m.cls := findClass_of_methodNamed B.named
  have hlocks := B.notSynchronized
  have hl := lv_entry ([.int xa]) (n := 1) (Nat.le_of_ble_eq_true rfl)
  rw [lg_entry_eq]
  generalize (lg_sl ([.int xa]) ++ List.replicate (1 - (lg_sl ([.int xa])).length) Slot.unset).toArray = ls at hl ⊢
  replace hl : lv_has ls 1 [(0, .int xa)] := hl
  have z_m1000000 : (-1000000 : Int32).toInt = -1000000 := by decide
  have z_0 : (0 : Int32).toInt = 0 := by decide
  have z_1 : (1 : Int32).toInt = 1 := by decide
  have z_1000000 : (1000000 : Int32).toInt = 1000000 := by decide
  refine lv_iload_n hx hb dX5_isNumber_0 rfl (lv_at hl 0 rfl) ?_
  refine lv_ldc hx hb hown (hts (.constant RX5 113 (-1000000)) (List.mem_of_getElem? (i := 1) rfl)) dX5_isNumber_1 ?_
  refine lv_icmp_lt (tgt := 16) hx hb dX5_isNumber_3 (by decide) (fun c_1 => ?_) (fun c_1 => ?_)
  · -- yes
    have k_1 : xa.toInt < (-1000000 : Int32).toInt := ci_lt c_1
    refine lv_iconst (v := 0) hx hb dX5_isNumber_16 (by decide) ?_
    exact W.zret (v := 0) (ty := .boolean) hx hb hr rfl (fun t ht hW => ⟨0, rfl, (show two (0 : Int32) (VN xa) 1 0 from (by first | (refine Or.inl ⟨rfl, ?_⟩; omega) | (refine Or.inr ⟨rfl, ?_⟩; omega))), ht⟩) (by intro q hq; cases hq) dX5_isNumber_17
  · -- no
    have k_1 : (-1000000 : Int32).toInt ≤ xa.toInt := ci_nlt c_1
    refine lv_iload_n hx hb dX5_isNumber_6 rfl (lv_at hl 0 rfl) ?_
    refine lv_ldc hx hb hown (hts (.constant RX5 114 (1000000)) (List.mem_of_getElem? (i := 2) rfl)) dX5_isNumber_7 ?_
    refine lv_icmp_gt (tgt := 16) hx hb dX5_isNumber_9 (by decide) (fun c_2 => ?_) (fun c_2 => ?_)
    · -- yes
      have k_2 : (1000000 : Int32).toInt < xa.toInt := ci_gt c_2
      refine lv_iconst (v := 0) hx hb dX5_isNumber_16 (by decide) ?_
      exact W.zret (v := 0) (ty := .boolean) hx hb hr rfl (fun t ht hW => ⟨0, rfl, (show two (0 : Int32) (VN xa) 1 0 from (by first | (refine Or.inl ⟨rfl, ?_⟩; omega) | (refine Or.inr ⟨rfl, ?_⟩; omega))), ht⟩) (by intro q hq; cases hq) dX5_isNumber_17
    · -- no
      have k_2 : xa.toInt ≤ (1000000 : Int32).toInt := ci_ngt c_2
      refine lv_iconst (v := 1) hx hb dX5_isNumber_12 (by decide) ?_
      refine lv_goto (tgt := 17) hx hb dX5_isNumber_13 (by decide) ?_
      exact W.zret (v := 1) (ty := .boolean) hx hb hr rfl (fun t ht hW => ⟨1, rfl, (show two (1 : Int32) (VN xa) 1 0 from (by first | (refine Or.inl ⟨rfl, ?_⟩; omega) | (refine Or.inr ⟨rfl, ?_⟩; omega))), ht⟩) (by intro q hq; cases hq) dX5_isNumber_17

def v_X4_isIn : List Cond := .code yX4_isIn cX4_isIn 3 (some .boolean) :: ([] ++ ([]))
set_option maxRecDepth 20000 in
theorem gd_X4_isIn : gdL v_X4_isIn := gdC (gdW (by decide +kernel)) (gdA (gdW (by decide +kernel)) gdE)
set_option maxHeartbeats 8000000 in
set_option maxRecDepth 100000 in
theorem s_X4_isIn (l : Launch) (la : Int64) (ia : Int32) (hy_ia : 0 ≤ ia.toInt ∧ ia.toInt ≤ 39) : Met l yX4_isIn v_X4_isIn ({ frames := 0, cells := 0, slots := 0, locals := 0 }) (va_Pc [.long la, .int ia] (fun _ => True)) (vp_Si (fun (r : Int32) => (two r (sbit la (ia).toNatClampNeg) 1 0))) 0 0 (fun _ => False) := by
  refine Met.ofW (cc := cX4_isIn) (maxL := 3) (ret := (some .boolean)) (by decide) rfl ?_
  intro p e s m args below meth c s₁ B hml hv
  obtain ⟨rfl, -⟩ := hv
  have hx := B.exec
  have hb := B.bytes
  have hr := B.returns
  have hts := atoms_spec (ws := v_X4_isIn) B.pre
  have hown : s.vm.findClass RX4 = some m.cls := findClass_of_methodNamed B.named
  have hlocks := B.notSynchronized
  have hl := lv_entry ([.long la, .int ia]) (n := 3) (Nat.le_of_ble_eq_true rfl)
  rw [lg_entry_eq]
  generalize (lg_sl ([.long la, .int ia]) ++ List.replicate (3 - (lg_sl ([.long la, .int ia])).length) Slot.unset).toArray = ls at hl ⊢
  replace hl : lv_has ls 3 [(0, .long la), (2, .int ia)] := hl
  have z_0 : (0 : Int32).toInt = 0 := by decide
  have z_1 : (1 : Int32).toInt = 1 := by decide
  have zl_1 : (1 : Int64).toInt = 1 := by decide
  refine lv_lload_n hx hb dX4_isIn_0 rfl (lv_at hl 0 rfl) ?_
  refine lv_iload_n hx hb dX4_isIn_1 rfl (lv_at hl 1 rfl) ?_
  refine lv_lushr (v := _) hx hb dX4_isIn_2 rfl ?_
  refine lv_topl (fun v_1 e_v_1 => ?_)
  refine lv_lconst (v := 1) hx hb dX4_isIn_3 (by decide) ?_
  refine lv_land hx hb dX4_isIn_4 ?_
  refine lv_topl (fun v_2 e_v_2 => ?_)
  refine lv_lconst (v := 1) hx hb dX4_isIn_5 (by decide) ?_
  refine W.lcmp hx hb dX4_isIn_6 ?_
  refine lv_if_ne (tgt := 14) hx hb dX4_isIn_7 (by decide) (fun c_3 => ?_) (fun c_3 => ?_)
  · -- yes
    have k_3 : ¬ v_2.toInt = (1 : Int64).toInt := lc_ne c_3
    refine lv_iconst (v := 0) hx hb dX4_isIn_14 (by decide) ?_
    exact W.zret (v := 0) (ty := .boolean) hx hb hr rfl (fun t ht hW => ⟨0, rfl, (show two (0 : Int32) (sbit la (ia).toNatClampNeg) 1 0 from (Or.inr ⟨rfl, ((sb_isIn hy_ia e_v_1 e_v_2).resolve_left (fun h => by omega)).2⟩)), ht⟩) (by intro q hq; cases hq) dX4_isIn_15
  · -- no
    have k_3 : v_2.toInt = (1 : Int64).toInt := lc_eq c_3
    refine lv_iconst (v := 1) hx hb dX4_isIn_10 (by decide) ?_
    refine lv_goto (tgt := 15) hx hb dX4_isIn_11 (by decide) ?_
    exact W.zret (v := 1) (ty := .boolean) hx hb hr rfl (fun t ht hW => ⟨1, rfl, (show two (1 : Int32) (sbit la (ia).toNatClampNeg) 1 0 from (Or.inl ⟨rfl, ((sb_isIn hy_ia e_v_1 e_v_2).resolve_right (fun h => by omega)).2⟩)), ht⟩) (by intro q hq; cases hq) dX4_isIn_15

def v_X4_leastOfLane : List Cond := .code yX4_leastOfLane cX4_leastOfLane 1 (some .int) :: ([.constant RX4 206 (-2147483648)] ++ ([]))
set_option maxRecDepth 20000 in
theorem gd_X4_leastOfLane : gdL v_X4_leastOfLane := gdC (gdW (by decide +kernel)) (gdA (gdW (by decide +kernel)) gdE)
set_option maxHeartbeats 8000000 in
set_option maxRecDepth 100000 in
theorem s_X4_leastOfLane (l : Launch) (ia : Int32) : Met l yX4_leastOfLane v_X4_leastOfLane ({ frames := 0, cells := 0, slots := 0, locals := 0 }) (va_Pc [.int ia] (fun _ => True)) (vp_Si (fun (r : Int32) => ((ia.toInt = 0 → r.toInt = -128) ∧ (ia.toInt = 1 → r.toInt = 0) ∧ (¬ ia.toInt = 0 → ¬ ia.toInt = 1 → r.toInt = -2147483648)))) 0 0 (fun _ => False) := by
  refine Met.ofW (cc := cX4_leastOfLane) (maxL := 1) (ret := (some .int)) (by decide) rfl ?_
  intro p e s m args below meth c s₁ B hml hv
  obtain ⟨rfl, -⟩ := hv
  have hx := B.exec
  have hb := B.bytes
  have hr := B.returns
  have hts := atoms_spec (ws := v_X4_leastOfLane) B.pre
  have hown : s.vm.findClass RX4 = some m.cls := findClass_of_methodNamed B.named
  have hlocks := B.notSynchronized
  have hl := lv_entry ([.int ia]) (n := 1) (Nat.le_of_ble_eq_true rfl)
  rw [lg_entry_eq]
  generalize (lg_sl ([.int ia]) ++ List.replicate (1 - (lg_sl ([.int ia])).length) Slot.unset).toArray = ls at hl ⊢
  replace hl : lv_has ls 1 [(0, .int ia)] := hl
  have z_m2147483648 : (-2147483648 : Int32).toInt = -2147483648 := by decide
  have z_m128 : (-128 : Int32).toInt = -128 := by decide
  have z_0 : (0 : Int32).toInt = 0 := by decide
  have z_1 : (1 : Int32).toInt = 1 := by decide
  refine lv_iload_n hx hb dX4_leastOfLane_0 rfl (lv_at hl 0 rfl) ?_
  refine lv_if_ne (tgt := 7) hx hb dX4_leastOfLane_1 (by decide) (fun c_1 => ?_) (fun c_1 => ?_)
  · -- yes
    have k_1 : ¬ ia.toInt = (0 : Int32).toInt := ci_ne c_1
    refine lv_iload_n hx hb dX4_leastOfLane_7 rfl (lv_at hl 0 rfl) ?_
    refine lv_iconst (v := 1) hx hb dX4_leastOfLane_8 (by decide) ?_
    refine lv_icmp_ne (tgt := 16) hx hb dX4_leastOfLane_9 (by decide) (fun c_2 => ?_) (fun c_2 => ?_)
    · -- yes
      have k_2 : ¬ ia.toInt = (1 : Int32).toInt := ci_ne c_2
      refine lv_ldc hx hb hown (hts (.constant RX4 206 (-2147483648)) (List.mem_of_getElem? (i := 1) rfl)) dX4_leastOfLane_16 ?_
      exact W.iret (v := (-2147483648)) hx hb hr (fun t ht hW => ⟨(-2147483648), rfl, (show (ia.toInt = 0 → ((-2147483648) : Int32).toInt = -128) ∧ (ia.toInt = 1 → ((-2147483648) : Int32).toInt = 0) ∧ (¬ ia.toInt = 0 → ¬ ia.toInt = 1 → ((-2147483648) : Int32).toInt = -2147483648) from (by omega)), ht⟩) (by intro q hq; cases hq) dX4_leastOfLane_18
    · -- no
      have k_2 : ia.toInt = (1 : Int32).toInt := ci_eq c_2
      refine lv_iconst (v := 0) hx hb dX4_leastOfLane_12 (by decide) ?_
      refine lv_goto (tgt := 18) hx hb dX4_leastOfLane_13 (by decide) ?_
      exact W.iret (v := 0) hx hb hr (fun t ht hW => ⟨0, rfl, (show (ia.toInt = 0 → (0 : Int32).toInt = -128) ∧ (ia.toInt = 1 → (0 : Int32).toInt = 0) ∧ (¬ ia.toInt = 0 → ¬ ia.toInt = 1 → (0 : Int32).toInt = -2147483648) from (by omega)), ht⟩) (by intro q hq; cases hq) dX4_leastOfLane_18
  · -- no
    have k_1 : ia.toInt = (0 : Int32).toInt := ci_eq c_1
    refine lv_bipush (v := (-128)) hx hb dX4_leastOfLane_4 (by decide) ?_
    exact W.iret (v := (-128)) hx hb hr (fun t ht hW => ⟨(-128), rfl, (show (ia.toInt = 0 → ((-128) : Int32).toInt = -128) ∧ (ia.toInt = 1 → ((-128) : Int32).toInt = 0) ∧ (¬ ia.toInt = 0 → ¬ ia.toInt = 1 → ((-128) : Int32).toInt = -2147483648) from (by omega)), ht⟩) (by intro q hq; cases hq) dX4_leastOfLane_6

def v_X4_greatestOfLane : List Cond := .code yX4_greatestOfLane cX4_greatestOfLane 1 (some .int) :: ([.constant RX4 208 (2147483647), .constant RX4 207 (65535)] ++ ([]))
set_option maxRecDepth 20000 in
theorem gd_X4_greatestOfLane : gdL v_X4_greatestOfLane := gdC (gdW (by decide +kernel)) (gdA (gdW (by decide +kernel)) gdE)
set_option maxHeartbeats 8000000 in
set_option maxRecDepth 100000 in
theorem s_X4_greatestOfLane (l : Launch) (ia : Int32) : Met l yX4_greatestOfLane v_X4_greatestOfLane ({ frames := 0, cells := 0, slots := 0, locals := 0 }) (va_Pc [.int ia] (fun _ => True)) (vp_Si (fun (r : Int32) => ((ia.toInt = 0 → r.toInt = 127) ∧ (ia.toInt = 1 → r.toInt = 65535) ∧ (¬ ia.toInt = 0 → ¬ ia.toInt = 1 → r.toInt = 2147483647)))) 0 0 (fun _ => False) := by
  refine Met.ofW (cc := cX4_greatestOfLane) (maxL := 1) (ret := (some .int)) (by decide) rfl ?_
  intro p e s m args below meth c s₁ B hml hv
  obtain ⟨rfl, -⟩ := hv
  have hx := B.exec
  have hb := B.bytes
  have hr := B.returns
  have hts := atoms_spec (ws := v_X4_greatestOfLane) B.pre
  have hown : s.vm.findClass RX4 = some m.cls := findClass_of_methodNamed B.named
  have hlocks := B.notSynchronized
  have hl := lv_entry ([.int ia]) (n := 1) (Nat.le_of_ble_eq_true rfl)
  rw [lg_entry_eq]
  generalize (lg_sl ([.int ia]) ++ List.replicate (1 - (lg_sl ([.int ia])).length) Slot.unset).toArray = ls at hl ⊢
  replace hl : lv_has ls 1 [(0, .int ia)] := hl
  have z_0 : (0 : Int32).toInt = 0 := by decide
  have z_1 : (1 : Int32).toInt = 1 := by decide
  have z_127 : (127 : Int32).toInt = 127 := by decide
  have z_65535 : (65535 : Int32).toInt = 65535 := by decide
  have z_2147483647 : (2147483647 : Int32).toInt = 2147483647 := by decide
  refine lv_iload_n hx hb dX4_greatestOfLane_0 rfl (lv_at hl 0 rfl) ?_
  refine lv_if_ne (tgt := 7) hx hb dX4_greatestOfLane_1 (by decide) (fun c_1 => ?_) (fun c_1 => ?_)
  · -- yes
    have k_1 : ¬ ia.toInt = (0 : Int32).toInt := ci_ne c_1
    refine lv_iload_n hx hb dX4_greatestOfLane_7 rfl (lv_at hl 0 rfl) ?_
    refine lv_iconst (v := 1) hx hb dX4_greatestOfLane_8 (by decide) ?_
    refine lv_icmp_ne (tgt := 17) hx hb dX4_greatestOfLane_9 (by decide) (fun c_2 => ?_) (fun c_2 => ?_)
    · -- yes
      have k_2 : ¬ ia.toInt = (1 : Int32).toInt := ci_ne c_2
      refine lv_ldc hx hb hown (hts (.constant RX4 208 (2147483647)) (List.mem_of_getElem? (i := 1) rfl)) dX4_greatestOfLane_17 ?_
      exact W.iret (v := 2147483647) hx hb hr (fun t ht hW => ⟨2147483647, rfl, (show (ia.toInt = 0 → (2147483647 : Int32).toInt = 127) ∧ (ia.toInt = 1 → (2147483647 : Int32).toInt = 65535) ∧ (¬ ia.toInt = 0 → ¬ ia.toInt = 1 → (2147483647 : Int32).toInt = 2147483647) from (by omega)), ht⟩) (by intro q hq; cases hq) dX4_greatestOfLane_19
    · -- no
      have k_2 : ia.toInt = (1 : Int32).toInt := ci_eq c_2
      refine lv_ldc hx hb hown (hts (.constant RX4 207 (65535)) (List.mem_of_getElem? (i := 2) rfl)) dX4_greatestOfLane_12 ?_
      refine lv_goto (tgt := 19) hx hb dX4_greatestOfLane_14 (by decide) ?_
      exact W.iret (v := 65535) hx hb hr (fun t ht hW => ⟨65535, rfl, (show (ia.toInt = 0 → (65535 : Int32).toInt = 127) ∧ (ia.toInt = 1 → (65535 : Int32).toInt = 65535) ∧ (¬ ia.toInt = 0 → ¬ ia.toInt = 1 → (65535 : Int32).toInt = 2147483647) from (by omega)), ht⟩) (by intro q hq; cases hq) dX4_greatestOfLane_19
  · -- no
    have k_1 : ia.toInt = (0 : Int32).toInt := ci_eq c_1
    refine lv_bipush (v := 127) hx hb dX4_greatestOfLane_4 (by decide) ?_
    exact W.iret (v := 127) hx hb hr (fun t ht hW => ⟨127, rfl, (show (ia.toInt = 0 → (127 : Int32).toInt = 127) ∧ (ia.toInt = 1 → (127 : Int32).toInt = 65535) ∧ (¬ ia.toInt = 0 → ¬ ia.toInt = 1 → (127 : Int32).toInt = 2147483647) from (by omega)), ht⟩) (by intro q hq; cases hq) dX4_greatestOfLane_6

def v_X1_bitIf : List Cond := .code yX1_bitIf cX1_bitIf 2 (some .int) :: ([] ++ ([]))
set_option maxRecDepth 20000 in
theorem gd_X1_bitIf : gdL v_X1_bitIf := gdC (gdW (by decide +kernel)) (gdA (gdW (by decide +kernel)) gdE)
set_option maxHeartbeats 8000000 in
set_option maxRecDepth 100000 in
theorem s_X1_bitIf (l : Launch) (ba : Int32) (ia : Int32) (hy_ia : 0 ≤ ia.toInt ∧ ia.toInt ≤ 31) : Met l yX1_bitIf v_X1_bitIf ({ frames := 0, cells := 0, slots := 0, locals := 0 }) (va_Pc [.int ba, .int ia] (fun _ => True)) (vp_Si (fun (r : Int32) => (ba.toInt = 0 ∨ lbit r (ia).toNatClampNeg))) 0 0 (fun _ => False) := by
  refine Met.ofW (cc := cX1_bitIf) (maxL := 2) (ret := (some .int)) (by decide) rfl ?_
  intro p e s m args below meth c s₁ B hml hv
  obtain ⟨rfl, -⟩ := hv
  have hx := B.exec
  have hb := B.bytes
  have hr := B.returns
  have hts := atoms_spec (ws := v_X1_bitIf) B.pre
  have hown : s.vm.findClass RX1 = some m.cls := findClass_of_methodNamed B.named
  have hlocks := B.notSynchronized
  have hl := lv_entry ([.int ba, .int ia]) (n := 2) (Nat.le_of_ble_eq_true rfl)
  rw [lg_entry_eq]
  generalize (lg_sl ([.int ba, .int ia]) ++ List.replicate (2 - (lg_sl ([.int ba, .int ia])).length) Slot.unset).toArray = ls at hl ⊢
  replace hl : lv_has ls 2 [(0, .int ba), (1, .int ia)] := hl
  have z_0 : (0 : Int32).toInt = 0 := by decide
  have z_1 : (1 : Int32).toInt = 1 := by decide
  refine lv_iload_n hx hb dX1_bitIf_0 rfl (lv_at hl 0 rfl) ?_
  refine lv_if_eq (tgt := 10) hx hb dX1_bitIf_1 (by decide) (fun c_1 => ?_) (fun c_1 => ?_)
  · -- yes
    have k_1 : ba.toInt = (0 : Int32).toInt := ci_eq c_1
    refine lv_iconst (v := 0) hx hb dX1_bitIf_10 (by decide) ?_
    exact W.iret (v := 0) hx hb hr (fun t ht hW => ⟨0, rfl, (show ba.toInt = 0 ∨ lbit (0 : Int32) (ia).toNatClampNeg from (Or.inl (by omega))), ht⟩) (by intro q hq; cases hq) dX1_bitIf_11
  · -- no
    have k_1 : ¬ ba.toInt = (0 : Int32).toInt := ci_ne c_1
    refine lv_iconst (v := 1) hx hb dX1_bitIf_4 (by decide) ?_
    refine lv_iload_n hx hb dX1_bitIf_5 rfl (lv_at hl 1 rfl) ?_
    refine lv_ishl hx hb dX1_bitIf_6 ?_
    refine lv_topi (fun v_2 e_v_2 => ?_)
    refine lv_goto (tgt := 11) hx hb dX1_bitIf_7 (by decide) ?_
    exact W.iret (v := v_2) hx hb hr (fun t ht hW => ⟨v_2, rfl, (show ba.toInt = 0 ∨ lbit v_2 (ia).toNatClampNeg from (Or.inr ((lb_shl hy_ia e_v_2 (by have b0 := nn_cl2 ia; omega)).mpr rfl))), ht⟩) (by intro q hq; cases hq) dX1_bitIf_11

def v_J13_bitCount_95d88 : List Cond := .code yJ13_bitCount_95d88 cJ13_bitCount_95d88 2 (some .int) :: ([.constantLong RJ13 314 (6148914691236517205), .constantLong RJ13 316 (3689348814741910323), .constantLong RJ13 318 (1085102592571150095)] ++ ([]))
set_option maxRecDepth 20000 in
theorem gd_J13_bitCount_95d88 : gdL v_J13_bitCount_95d88 := gdC (gdW (by decide +kernel)) (gdA (gdW (by decide +kernel)) gdE)
set_option maxHeartbeats 8000000 in
set_option maxRecDepth 100000 in
theorem s_J13_bitCount_95d88 (l : Launch) (la : Int64) : Met l yJ13_bitCount_95d88 v_J13_bitCount_95d88 ({ frames := 0, cells := 0, slots := 0, locals := 0 }) (va_Pc [.long la] (fun _ => True)) (vp_Si (fun (r : Int32) => (r.toInt = 1 → ∀ i j : Nat, i < 64 → j < 64 → sbit la i → sbit la j → i = j))) 0 0 (fun _ => False) := by
  refine Met.ofW (cc := cJ13_bitCount_95d88) (maxL := 2) (ret := (some .int)) (by decide) rfl ?_
  intro p e s m args below meth c s₁ B hml hv
  obtain ⟨rfl, -⟩ := hv
  have hx := B.exec
  have hb := B.bytes
  have hr := B.returns
  have hts := atoms_spec (ws := v_J13_bitCount_95d88) B.pre
  have hown : s.vm.findClass RJ13 = some m.cls := findClass_of_methodNamed B.named
  have hlocks := B.notSynchronized
  have hl := lv_entry ([.long la]) (n := 2) (Nat.le_of_ble_eq_true rfl)
  rw [lg_entry_eq]
  generalize (lg_sl ([.long la]) ++ List.replicate (2 - (lg_sl ([.long la])).length) Slot.unset).toArray = ls at hl ⊢
  replace hl : lv_has ls 2 [(0, .long la)] := hl
  have z_0 : (0 : Int32).toInt = 0 := by decide
  have z_1 : (1 : Int32).toInt = 1 := by decide
  refine lv_lload_n hx hb dJ13_bitCount_95d88_0 rfl (lv_at hl 0 rfl) ?_
  refine lv_lload_n hx hb dJ13_bitCount_95d88_1 rfl (lv_at hl 0 rfl) ?_
  refine lv_iconst (v := 1) hx hb dJ13_bitCount_95d88_2 (by decide) ?_
  refine lv_lushr (v := _) hx hb dJ13_bitCount_95d88_3 rfl ?_
  refine lv_topl (fun v_1 e_v_1 => ?_)
  refine lv_ldc2 hx hb hown (hts (.constantLong RJ13 314 (6148914691236517205)) (List.mem_of_getElem? (i := 1) rfl)) dJ13_bitCount_95d88_4 ?_
  refine lv_land hx hb dJ13_bitCount_95d88_7 ?_
  refine lv_topl (fun v_2 e_v_2 => ?_)
  refine lv_lsub hx hb dJ13_bitCount_95d88_8 ?_
  refine lv_topl (fun v_3 e_v_3 => ?_)
  refine lv_lstore_n (lv' := [(0, .long v_3)]) hx hb dJ13_bitCount_95d88_9 rfl hl (by decide) rfl (fun ls1 hl1 => ?_)
  replace hl := hl1; clear hl1
  refine lv_lload_n hx hb dJ13_bitCount_95d88_10 rfl (lv_at hl 0 rfl) ?_
  refine lv_ldc2 hx hb hown (hts (.constantLong RJ13 316 (3689348814741910323)) (List.mem_of_getElem? (i := 2) rfl)) dJ13_bitCount_95d88_11 ?_
  refine lv_land hx hb dJ13_bitCount_95d88_14 ?_
  refine lv_topl (fun v_4 e_v_4 => ?_)
  refine lv_lload_n hx hb dJ13_bitCount_95d88_15 rfl (lv_at hl 0 rfl) ?_
  refine lv_iconst (v := 2) hx hb dJ13_bitCount_95d88_16 (by decide) ?_
  refine lv_lushr (v := _) hx hb dJ13_bitCount_95d88_17 rfl ?_
  refine lv_topl (fun v_5 e_v_5 => ?_)
  refine lv_ldc2 hx hb hown (hts (.constantLong RJ13 316 (3689348814741910323)) (List.mem_of_getElem? (i := 2) rfl)) dJ13_bitCount_95d88_18 ?_
  refine lv_land hx hb dJ13_bitCount_95d88_21 ?_
  refine lv_topl (fun v_6 e_v_6 => ?_)
  refine lv_ladd hx hb dJ13_bitCount_95d88_22 ?_
  refine lv_topl (fun v_7 e_v_7 => ?_)
  refine lv_lstore_n (lv' := [(0, .long v_7)]) hx hb dJ13_bitCount_95d88_23 rfl hl (by decide) rfl (fun ls1 hl1 => ?_)
  replace hl := hl1; clear hl1
  refine lv_lload_n hx hb dJ13_bitCount_95d88_24 rfl (lv_at hl 0 rfl) ?_
  refine lv_lload_n hx hb dJ13_bitCount_95d88_25 rfl (lv_at hl 0 rfl) ?_
  refine lv_iconst (v := 4) hx hb dJ13_bitCount_95d88_26 (by decide) ?_
  refine lv_lushr (v := _) hx hb dJ13_bitCount_95d88_27 rfl ?_
  refine lv_topl (fun v_8 e_v_8 => ?_)
  refine lv_ladd hx hb dJ13_bitCount_95d88_28 ?_
  refine lv_topl (fun v_9 e_v_9 => ?_)
  refine lv_ldc2 hx hb hown (hts (.constantLong RJ13 318 (1085102592571150095)) (List.mem_of_getElem? (i := 3) rfl)) dJ13_bitCount_95d88_29 ?_
  refine lv_land hx hb dJ13_bitCount_95d88_32 ?_
  refine lv_topl (fun v_10 e_v_10 => ?_)
  refine lv_lstore_n (lv' := [(0, .long v_10)]) hx hb dJ13_bitCount_95d88_33 rfl hl (by decide) rfl (fun ls1 hl1 => ?_)
  replace hl := hl1; clear hl1
  refine lv_lload_n hx hb dJ13_bitCount_95d88_34 rfl (lv_at hl 0 rfl) ?_
  refine lv_lload_n hx hb dJ13_bitCount_95d88_35 rfl (lv_at hl 0 rfl) ?_
  refine lv_bipush (v := 8) hx hb dJ13_bitCount_95d88_36 (by decide) ?_
  refine lv_lushr (v := _) hx hb dJ13_bitCount_95d88_38 rfl ?_
  refine lv_topl (fun v_11 e_v_11 => ?_)
  refine lv_ladd hx hb dJ13_bitCount_95d88_39 ?_
  refine lv_topl (fun v_12 e_v_12 => ?_)
  refine lv_lstore_n (lv' := [(0, .long v_12)]) hx hb dJ13_bitCount_95d88_40 rfl hl (by decide) rfl (fun ls1 hl1 => ?_)
  replace hl := hl1; clear hl1
  refine lv_lload_n hx hb dJ13_bitCount_95d88_41 rfl (lv_at hl 0 rfl) ?_
  refine lv_lload_n hx hb dJ13_bitCount_95d88_42 rfl (lv_at hl 0 rfl) ?_
  refine lv_bipush (v := 16) hx hb dJ13_bitCount_95d88_43 (by decide) ?_
  refine lv_lushr (v := _) hx hb dJ13_bitCount_95d88_45 rfl ?_
  refine lv_topl (fun v_13 e_v_13 => ?_)
  refine lv_ladd hx hb dJ13_bitCount_95d88_46 ?_
  refine lv_topl (fun v_14 e_v_14 => ?_)
  refine lv_lstore_n (lv' := [(0, .long v_14)]) hx hb dJ13_bitCount_95d88_47 rfl hl (by decide) rfl (fun ls1 hl1 => ?_)
  replace hl := hl1; clear hl1
  refine lv_lload_n hx hb dJ13_bitCount_95d88_48 rfl (lv_at hl 0 rfl) ?_
  refine lv_lload_n hx hb dJ13_bitCount_95d88_49 rfl (lv_at hl 0 rfl) ?_
  refine lv_bipush (v := 32) hx hb dJ13_bitCount_95d88_50 (by decide) ?_
  refine lv_lushr (v := _) hx hb dJ13_bitCount_95d88_52 rfl ?_
  refine lv_topl (fun v_15 e_v_15 => ?_)
  refine lv_ladd hx hb dJ13_bitCount_95d88_53 ?_
  refine lv_topl (fun v_16 e_v_16 => ?_)
  refine lv_lstore_n (lv' := [(0, .long v_16)]) hx hb dJ13_bitCount_95d88_54 rfl hl (by decide) rfl (fun ls1 hl1 => ?_)
  replace hl := hl1; clear hl1
  refine lv_lload_n hx hb dJ13_bitCount_95d88_55 rfl (lv_at hl 0 rfl) ?_
  refine lv_l2i (v := _) hx hb dJ13_bitCount_95d88_56 rfl ?_
  refine lv_topi (fun v_17 e_v_17 => ?_)
  refine lv_bipush (v := 127) hx hb dJ13_bitCount_95d88_57 (by decide) ?_
  refine lv_iand hx hb dJ13_bitCount_95d88_59 ?_
  refine lv_topi (fun v_18 e_v_18 => ?_)
  exact W.iret (v := v_18) hx hb hr (fun t ht hW => ⟨v_18, rfl, (show v_18.toInt = 1 → ∀ i j : Nat, i < 64 → j < 64 → sbit la i → sbit la j → i = j from (pop13 e_v_1 e_v_2 e_v_3 e_v_4 e_v_5 e_v_6 e_v_7 e_v_8 e_v_9 e_v_10 e_v_11 e_v_12 e_v_13 e_v_14 e_v_15 e_v_16 e_v_17 e_v_18)), ht⟩) (by intro q hq; cases hq) dJ13_bitCount_95d88_60

def v_J6_bitCount_0f7a4 : List Cond := .code yJ6_bitCount_0f7a4 cJ6_bitCount_0f7a4 1 (some .int) :: ([.constant RJ6 265 (1431655765), .constant RJ6 266 (858993459), .constant RJ6 267 (252645135)] ++ ([]))
set_option maxRecDepth 20000 in
theorem gd_J6_bitCount_0f7a4 : gdL v_J6_bitCount_0f7a4 := gdC (gdW (by decide +kernel)) (gdA (gdW (by decide +kernel)) gdE)
set_option maxHeartbeats 8000000 in
set_option maxRecDepth 100000 in
theorem s_J6_bitCount_0f7a4 (l : Launch) (ia : Int32) (hy_ia : 0 ≤ ia.toInt ∧ ia.toInt ≤ 7) : Met l yJ6_bitCount_0f7a4 v_J6_bitCount_0f7a4 ({ frames := 0, cells := 0, slots := 0, locals := 0 }) (va_Pc [.int ia] (fun _ => True)) (vp_Si (fun (r : Int32) => (∀ p q : Nat, p < 3 → q < 3 → ¬ p = q → lbit ia p → lbit ia q → 1 < r.toInt))) 0 0 (fun _ => False) := by
  refine Met.ofW (cc := cJ6_bitCount_0f7a4) (maxL := 1) (ret := (some .int)) (by decide) rfl ?_
  intro p e s m args below meth c s₁ B hml hv
  obtain ⟨rfl, -⟩ := hv
  have hx := B.exec
  have hb := B.bytes
  have hr := B.returns
  have hts := atoms_spec (ws := v_J6_bitCount_0f7a4) B.pre
  have hown : s.vm.findClass RJ6 = some m.cls := findClass_of_methodNamed B.named
  have hlocks := B.notSynchronized
  have hl := lv_entry ([.int ia]) (n := 1) (Nat.le_of_ble_eq_true rfl)
  rw [lg_entry_eq]
  generalize (lg_sl ([.int ia]) ++ List.replicate (1 - (lg_sl ([.int ia])).length) Slot.unset).toArray = ls at hl ⊢
  replace hl : lv_has ls 1 [(0, .int ia)] := hl
  have z_0 : (0 : Int32).toInt = 0 := by decide
  have z_1 : (1 : Int32).toInt = 1 := by decide
  refine lv_iload_n hx hb dJ6_bitCount_0f7a4_0 rfl (lv_at hl 0 rfl) ?_
  refine lv_iload_n hx hb dJ6_bitCount_0f7a4_1 rfl (lv_at hl 0 rfl) ?_
  refine lv_iconst (v := 1) hx hb dJ6_bitCount_0f7a4_2 (by decide) ?_
  refine lv_iushr (v := _) hx hb dJ6_bitCount_0f7a4_3 rfl ?_
  refine lv_topi (fun v_1 e_v_1 => ?_)
  refine lv_ldcw hx hb hown (hts (.constant RJ6 265 (1431655765)) (List.mem_of_getElem? (i := 1) rfl)) dJ6_bitCount_0f7a4_4 ?_
  refine lv_iand hx hb dJ6_bitCount_0f7a4_7 ?_
  refine lv_topi (fun v_2 e_v_2 => ?_)
  refine lv_isub hx hb dJ6_bitCount_0f7a4_8 ?_
  refine lv_topi (fun v_3 e_v_3 => ?_)
  refine lv_istore_n (lv' := [(0, .int v_3)]) hx hb dJ6_bitCount_0f7a4_9 rfl hl (by decide) rfl (fun ls1 hl1 => ?_)
  replace hl := hl1; clear hl1
  refine lv_iload_n hx hb dJ6_bitCount_0f7a4_10 rfl (lv_at hl 0 rfl) ?_
  refine lv_ldcw hx hb hown (hts (.constant RJ6 266 (858993459)) (List.mem_of_getElem? (i := 2) rfl)) dJ6_bitCount_0f7a4_11 ?_
  refine lv_iand hx hb dJ6_bitCount_0f7a4_14 ?_
  refine lv_topi (fun v_4 e_v_4 => ?_)
  refine lv_iload_n hx hb dJ6_bitCount_0f7a4_15 rfl (lv_at hl 0 rfl) ?_
  refine lv_iconst (v := 2) hx hb dJ6_bitCount_0f7a4_16 (by decide) ?_
  refine lv_iushr (v := _) hx hb dJ6_bitCount_0f7a4_17 rfl ?_
  refine lv_topi (fun v_5 e_v_5 => ?_)
  refine lv_ldcw hx hb hown (hts (.constant RJ6 266 (858993459)) (List.mem_of_getElem? (i := 2) rfl)) dJ6_bitCount_0f7a4_18 ?_
  refine lv_iand hx hb dJ6_bitCount_0f7a4_21 ?_
  refine lv_topi (fun v_6 e_v_6 => ?_)
  refine lv_iadd hx hb dJ6_bitCount_0f7a4_22 ?_
  refine lv_topi (fun v_7 e_v_7 => ?_)
  refine lv_istore_n (lv' := [(0, .int v_7)]) hx hb dJ6_bitCount_0f7a4_23 rfl hl (by decide) rfl (fun ls1 hl1 => ?_)
  replace hl := hl1; clear hl1
  refine lv_iload_n hx hb dJ6_bitCount_0f7a4_24 rfl (lv_at hl 0 rfl) ?_
  refine lv_iload_n hx hb dJ6_bitCount_0f7a4_25 rfl (lv_at hl 0 rfl) ?_
  refine lv_iconst (v := 4) hx hb dJ6_bitCount_0f7a4_26 (by decide) ?_
  refine lv_iushr (v := _) hx hb dJ6_bitCount_0f7a4_27 rfl ?_
  refine lv_topi (fun v_8 e_v_8 => ?_)
  refine lv_iadd hx hb dJ6_bitCount_0f7a4_28 ?_
  refine lv_topi (fun v_9 e_v_9 => ?_)
  refine lv_ldcw hx hb hown (hts (.constant RJ6 267 (252645135)) (List.mem_of_getElem? (i := 3) rfl)) dJ6_bitCount_0f7a4_29 ?_
  refine lv_iand hx hb dJ6_bitCount_0f7a4_32 ?_
  refine lv_topi (fun v_10 e_v_10 => ?_)
  refine lv_istore_n (lv' := [(0, .int v_10)]) hx hb dJ6_bitCount_0f7a4_33 rfl hl (by decide) rfl (fun ls1 hl1 => ?_)
  replace hl := hl1; clear hl1
  refine lv_iload_n hx hb dJ6_bitCount_0f7a4_34 rfl (lv_at hl 0 rfl) ?_
  refine lv_iload_n hx hb dJ6_bitCount_0f7a4_35 rfl (lv_at hl 0 rfl) ?_
  refine lv_bipush (v := 8) hx hb dJ6_bitCount_0f7a4_36 (by decide) ?_
  refine lv_iushr (v := _) hx hb dJ6_bitCount_0f7a4_38 rfl ?_
  refine lv_topi (fun v_11 e_v_11 => ?_)
  refine lv_iadd hx hb dJ6_bitCount_0f7a4_39 ?_
  refine lv_topi (fun v_12 e_v_12 => ?_)
  refine lv_istore_n (lv' := [(0, .int v_12)]) hx hb dJ6_bitCount_0f7a4_40 rfl hl (by decide) rfl (fun ls1 hl1 => ?_)
  replace hl := hl1; clear hl1
  refine lv_iload_n hx hb dJ6_bitCount_0f7a4_41 rfl (lv_at hl 0 rfl) ?_
  refine lv_iload_n hx hb dJ6_bitCount_0f7a4_42 rfl (lv_at hl 0 rfl) ?_
  refine lv_bipush (v := 16) hx hb dJ6_bitCount_0f7a4_43 (by decide) ?_
  refine lv_iushr (v := _) hx hb dJ6_bitCount_0f7a4_45 rfl ?_
  refine lv_topi (fun v_13 e_v_13 => ?_)
  refine lv_iadd hx hb dJ6_bitCount_0f7a4_46 ?_
  refine lv_topi (fun v_14 e_v_14 => ?_)
  refine lv_istore_n (lv' := [(0, .int v_14)]) hx hb dJ6_bitCount_0f7a4_47 rfl hl (by decide) rfl (fun ls1 hl1 => ?_)
  replace hl := hl1; clear hl1
  refine lv_iload_n hx hb dJ6_bitCount_0f7a4_48 rfl (lv_at hl 0 rfl) ?_
  refine lv_bipush (v := 63) hx hb dJ6_bitCount_0f7a4_49 (by decide) ?_
  refine lv_iand hx hb dJ6_bitCount_0f7a4_51 ?_
  refine lv_topi (fun v_15 e_v_15 => ?_)
  exact W.iret (v := v_15) hx hb hr (fun t ht hW => ⟨v_15, rfl, (show ∀ p q : Nat, p < 3 → q < 3 → ¬ p = q → lbit ia p → lbit ia q → 1 < v_15.toInt from (pop6 hy_ia e_v_1 e_v_2 e_v_3 e_v_4 e_v_5 e_v_6 e_v_7 e_v_8 e_v_9 e_v_10 e_v_11 e_v_12 e_v_13 e_v_14 e_v_15)), ht⟩) (by intro q hq; cases hq) dJ6_bitCount_0f7a4_52

def v_X2_castTo : List Cond := .code yX2_castTo cX2_castTo 2 (some .int) :: ([] ++ ([]))
set_option maxRecDepth 20000 in
theorem gd_X2_castTo : gdL v_X2_castTo := gdC (gdW (by decide +kernel)) (gdA (gdW (by decide +kernel)) gdE)
set_option maxHeartbeats 8000000 in
set_option maxRecDepth 100000 in
theorem s_X2_castTo (l : Launch) (ia : Int32) (na : Int32) : Met l yX2_castTo v_X2_castTo ({ frames := 0, cells := 0, slots := 0, locals := 0 }) (va_Pc [.int ia, .int na] (fun _ => True)) (vp_Si (fun (r : Int32) => (castR ia.toInt na.toInt r.toInt))) 0 0 (fun _ => False) := by
  refine Met.ofW (cc := cX2_castTo) (maxL := 2) (ret := (some .int)) (by decide) rfl ?_
  intro p e s m args below meth c s₁ B hml hv
  obtain ⟨rfl, -⟩ := hv
  have hx := B.exec
  have hb := B.bytes
  have hr := B.returns
  have hts := atoms_spec (ws := v_X2_castTo) B.pre
  have hown : s.vm.findClass RX2 = some m.cls := findClass_of_methodNamed B.named
  have hlocks := B.notSynchronized
  have hl := lv_entry ([.int ia, .int na]) (n := 2) (Nat.le_of_ble_eq_true rfl)
  rw [lg_entry_eq]
  generalize (lg_sl ([.int ia, .int na]) ++ List.replicate (2 - (lg_sl ([.int ia, .int na])).length) Slot.unset).toArray = ls at hl ⊢
  replace hl : lv_has ls 2 [(0, .int ia), (1, .int na)] := hl
  have z_0 : (0 : Int32).toInt = 0 := by decide
  have z_1 : (1 : Int32).toInt = 1 := by decide
  refine lv_iload_n hx hb dX2_castTo_0 rfl (lv_at hl 0 rfl) ?_
  refine lv_if_ne (tgt := 7) hx hb dX2_castTo_1 (by decide) (fun c_1 => ?_) (fun c_1 => ?_)
  · -- yes
    have k_1 : ¬ ia.toInt = (0 : Int32).toInt := ci_ne c_1
    refine lv_iload_n hx hb dX2_castTo_7 rfl (lv_at hl 0 rfl) ?_
    refine lv_iconst (v := 1) hx hb dX2_castTo_8 (by decide) ?_
    refine lv_icmp_ne (tgt := 17) hx hb dX2_castTo_9 (by decide) (fun c_2 => ?_) (fun c_2 => ?_)
    · -- yes
      have k_2 : ¬ ia.toInt = (1 : Int32).toInt := ci_ne c_2
      refine lv_iload_n hx hb dX2_castTo_17 rfl (lv_at hl 1 rfl) ?_
      exact W.iret (v := na) hx hb hr (fun t ht hW => ⟨na, rfl, (show castR ia.toInt na.toInt na.toInt from (by omega)), ht⟩) (by intro q hq; cases hq) dX2_castTo_18
    · -- no
      have k_2 : ia.toInt = (1 : Int32).toInt := ci_eq c_2
      refine lv_iload_n hx hb dX2_castTo_12 rfl (lv_at hl 1 rfl) ?_
      refine lv_i2c (v := _) hx hb dX2_castTo_13 rfl ?_
      refine lv_topi (fun v_3 e_v_3 => ?_)
      refine lv_goto (tgt := 18) hx hb dX2_castTo_14 (by decide) ?_
      exact W.iret (v := v_3) hx hb hr (fun t ht hW => ⟨v_3, rfl, (show castR ia.toInt na.toInt v_3.toInt from (by have b0 := cast_cE e_v_3; omega)), ht⟩) (by intro q hq; cases hq) dX2_castTo_18
  · -- no
    have k_1 : ia.toInt = (0 : Int32).toInt := ci_eq c_1
    refine lv_iload_n hx hb dX2_castTo_4 rfl (lv_at hl 1 rfl) ?_
    refine lv_i2b (v := _) hx hb dX2_castTo_5 rfl ?_
    refine lv_topi (fun v_4 e_v_4 => ?_)
    exact W.iret (v := v_4) hx hb hr (fun t ht hW => ⟨v_4, rfl, (show castR ia.toInt na.toInt v_4.toInt from (by have b0 := cast_bE e_v_4; omega)), ht⟩) (by intro q hq; cases hq) dX2_castTo_6
