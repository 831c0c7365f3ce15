def w_X4_isVariable : List Cond := .code yX4_isVariable cX4_isVariable 1 (some .boolean) :: ([])
set_option maxHeartbeats 4000000 in
set_option maxRecDepth 100000 in
theorem c_X4_isVariable (l : Launch) (xa : Int32) : Met l yX4_isVariable w_X4_isVariable ({ frames := 0, cells := 0, slots := 0, locals := 0 }) (va_Pc [.int xa] (fun _ => True)) (vp_Si (fun (r : Int32) => two r (V6 xa) 1 0)) 0 0 (fun _ => False) := by
  refine Met.ofW (cc := cX4_isVariable) (maxL := 1) (ret := (some .boolean)) (by decide) rfl ?_
  intro p e s m args below meth c s₁ B hml hv
  obtain ⟨rfl, -⟩ := hv
  have hx := B.exec
  have hb := B.bytes
  have hr := B.returns
  have hts := atoms_spec (ws := w_X4_isVariable) B.pre
  have hown : s.vm.findClass RX4 = some m.cls := findClass_of_methodNamed B.named
  have hlocks := B.notSynchronized
  have hl := lv_entry ([.int xa]) (n := 1) (Nat.le_of_ble_eq_true rfl)
  rw [lg_entry_eq]
  generalize (lg_sl ([.int xa]) ++ List.replicate (1 - (lg_sl ([.int xa])).length) Slot.unset).toArray = ls at hl ⊢
  replace hl : lv_has ls 1 [(0, .int xa)] := hl
  refine lv_iload_n hx hb dX4_isVariable_0 rfl (lv_at hl 0 rfl) ?_
  refine lv_if_lt (tgt := 14) hx hb dX4_isVariable_1 (by decide) (fun c_1 => ?_) (fun c_1 => ?_)
  · -- yes
    have k_1 : (xa.toInt : Int) < (0 : Int) := by first | exact lt_i c_1 | simpa using lt_i c_1
    refine lv_iconst (v := 0) hx hb dX4_isVariable_14 (by decide) ?_
    exact W.zret (v := 0) (ty := .boolean) hx hb hr rfl (fun t ht hW => ⟨0, rfl, (by refine Or.inr ⟨rfl, ?_⟩; first | assumption | omega), ht⟩) (by intro q hq; cases hq) dX4_isVariable_15
  · -- no
    have k_1 : (0 : Int) ≤ (xa.toInt : Int) := by first | exact nlt_i c_1 | simpa using nlt_i c_1
    refine lv_iload_n hx hb dX4_isVariable_4 rfl (lv_at hl 0 rfl) ?_
    refine lv_bipush (v := 6) hx hb dX4_isVariable_5 (by decide) ?_
    refine lv_icmp_ge (tgt := 14) hx hb dX4_isVariable_7 (by decide) (fun c_2 => ?_) (fun c_2 => ?_)
    · -- yes
      have k_2 : (6 : Int) ≤ (xa.toInt : Int) := by first | exact le_i c_2 | simpa using le_i c_2
      refine lv_iconst (v := 0) hx hb dX4_isVariable_14 (by decide) ?_
      exact W.zret (v := 0) (ty := .boolean) hx hb hr rfl (fun t ht hW => ⟨0, rfl, (by refine Or.inr ⟨rfl, ?_⟩; first | assumption | omega), ht⟩) (by intro q hq; cases hq) dX4_isVariable_15
    · -- no
      have k_2 : (xa.toInt : Int) < (6 : Int) := by first | exact nle_i c_2 | simpa using nle_i c_2
      refine lv_iconst (v := 1) hx hb dX4_isVariable_10 (by decide) ?_
      refine lv_goto (tgt := 15) hx hb dX4_isVariable_11 (by decide) ?_
      exact W.zret (v := 1) (ty := .boolean) hx hb hr rfl (fun t ht hW => ⟨1, rfl, (by refine Or.inl ⟨rfl, ?_⟩; first | assumption | omega), ht⟩) (by intro q hq; cases hq) dX4_isVariable_15

def w_X4_isReference : List Cond := .code yX4_isReference cX4_isReference 1 (some .boolean) :: ([])
set_option maxHeartbeats 4000000 in
set_option maxRecDepth 100000 in
theorem c_X4_isReference (l : Launch) (xa : Int32) : Met l yX4_isReference w_X4_isReference ({ frames := 0, cells := 0, slots := 0, locals := 0 }) (va_Pc [.int xa] (fun _ => True)) (vp_Si (fun (r : Int32) => two r (V6 xa) 1 0)) 0 0 (fun _ => False) := by
  refine Met.ofW (cc := cX4_isReference) (maxL := 1) (ret := (some .boolean)) (by decide) rfl ?_
  intro p e s m args below meth c s₁ B hml hv
  obtain ⟨rfl, -⟩ := hv
  have hx := B.exec
  have hb := B.bytes
  have hr := B.returns
  have hts := atoms_spec (ws := w_X4_isReference) B.pre
  have hown : s.vm.findClass RX4 = some m.cls := findClass_of_methodNamed B.named
  have hlocks := B.notSynchronized
  have hl := lv_entry ([.int xa]) (n := 1) (Nat.le_of_ble_eq_true rfl)
  rw [lg_entry_eq]
  generalize (lg_sl ([.int xa]) ++ List.replicate (1 - (lg_sl ([.int xa])).length) Slot.unset).toArray = ls at hl ⊢
  replace hl : lv_has ls 1 [(0, .int xa)] := hl
  refine lv_iload_n hx hb dX4_isReference_0 rfl (lv_at hl 0 rfl) ?_
  refine lv_if_lt (tgt := 14) hx hb dX4_isReference_1 (by decide) (fun c_1 => ?_) (fun c_1 => ?_)
  · -- yes
    have k_1 : (xa.toInt : Int) < (0 : Int) := by first | exact lt_i c_1 | simpa using lt_i c_1
    refine lv_iconst (v := 0) hx hb dX4_isReference_14 (by decide) ?_
    exact W.zret (v := 0) (ty := .boolean) hx hb hr rfl (fun t ht hW => ⟨0, rfl, (by refine Or.inr ⟨rfl, ?_⟩; first | assumption | omega), ht⟩) (by intro q hq; cases hq) dX4_isReference_15
  · -- no
    have k_1 : (0 : Int) ≤ (xa.toInt : Int) := by first | exact nlt_i c_1 | simpa using nlt_i c_1
    refine lv_iload_n hx hb dX4_isReference_4 rfl (lv_at hl 0 rfl) ?_
    refine lv_bipush (v := 6) hx hb dX4_isReference_5 (by decide) ?_
    refine lv_icmp_ge (tgt := 14) hx hb dX4_isReference_7 (by decide) (fun c_2 => ?_) (fun c_2 => ?_)
    · -- yes
      have k_2 : (6 : Int) ≤ (xa.toInt : Int) := by first | exact le_i c_2 | simpa using le_i c_2
      refine lv_iconst (v := 0) hx hb dX4_isReference_14 (by decide) ?_
      exact W.zret (v := 0) (ty := .boolean) hx hb hr rfl (fun t ht hW => ⟨0, rfl, (by refine Or.inr ⟨rfl, ?_⟩; first | assumption | omega), ht⟩) (by intro q hq; cases hq) dX4_isReference_15
    · -- no
      have k_2 : (xa.toInt : Int) < (6 : Int) := by first | exact nle_i c_2 | simpa using nle_i c_2
      refine lv_iconst (v := 1) hx hb dX4_isReference_10 (by decide) ?_
      refine lv_goto (tgt := 15) hx hb dX4_isReference_11 (by decide) ?_
      exact W.zret (v := 1) (ty := .boolean) hx hb hr rfl (fun t ht hW => ⟨1, rfl, (by refine Or.inl ⟨rfl, ?_⟩; first | assumption | omega), ht⟩) (by intro q hq; cases hq) dX4_isReference_15

def w_X5_isName : List Cond := .code yX5_isName cX5_isName 1 (some .boolean) :: ([])
set_option maxHeartbeats 4000000 in
set_option maxRecDepth 100000 in
theorem c_X5_isName (l : Launch) (xa : Int32) : Met l yX5_isName w_X5_isName ({ frames := 0, cells := 0, slots := 0, locals := 0 }) (va_Pc [.int xa] (fun _ => True)) (vp_Si (fun (r : Int32) => two r (V6 xa) 1 0)) 0 0 (fun _ => False) := by
  refine Met.ofW (cc := cX5_isName) (maxL := 1) (ret := (some .boolean)) (by decide) rfl ?_
  intro p e s m args below meth c s₁ B hml hv
  obtain ⟨rfl, -⟩ := hv
  have hx := B.exec
  have hb := B.bytes
  have hr := B.returns
  have hts := atoms_spec (ws := w_X5_isName) B.pre
  have hown : s.vm.findClass RX5 = some m.cls := findClass_of_methodNamed B.named
  have hlocks := B.notSynchronized
  have hl := lv_entry ([.int xa]) (n := 1) (Nat.le_of_ble_eq_true rfl)
  rw [lg_entry_eq]
  generalize (lg_sl ([.int xa]) ++ List.replicate (1 - (lg_sl ([.int xa])).length) Slot.unset).toArray = ls at hl ⊢
  replace hl : lv_has ls 1 [(0, .int xa)] := hl
  refine lv_iload_n hx hb dX5_isName_0 rfl (lv_at hl 0 rfl) ?_
  refine lv_if_lt (tgt := 14) hx hb dX5_isName_1 (by decide) (fun c_1 => ?_) (fun c_1 => ?_)
  · -- yes
    have k_1 : (xa.toInt : Int) < (0 : Int) := by first | exact lt_i c_1 | simpa using lt_i c_1
    refine lv_iconst (v := 0) hx hb dX5_isName_14 (by decide) ?_
    exact W.zret (v := 0) (ty := .boolean) hx hb hr rfl (fun t ht hW => ⟨0, rfl, (by refine Or.inr ⟨rfl, ?_⟩; first | assumption | omega), ht⟩) (by intro q hq; cases hq) dX5_isName_15
  · -- no
    have k_1 : (0 : Int) ≤ (xa.toInt : Int) := by first | exact nlt_i c_1 | simpa using nlt_i c_1
    refine lv_iload_n hx hb dX5_isName_4 rfl (lv_at hl 0 rfl) ?_
    refine lv_bipush (v := 6) hx hb dX5_isName_5 (by decide) ?_
    refine lv_icmp_ge (tgt := 14) hx hb dX5_isName_7 (by decide) (fun c_2 => ?_) (fun c_2 => ?_)
    · -- yes
      have k_2 : (6 : Int) ≤ (xa.toInt : Int) := by first | exact le_i c_2 | simpa using le_i c_2
      refine lv_iconst (v := 0) hx hb dX5_isName_14 (by decide) ?_
      exact W.zret (v := 0) (ty := .boolean) hx hb hr rfl (fun t ht hW => ⟨0, rfl, (by refine Or.inr ⟨rfl, ?_⟩; first | assumption | omega), ht⟩) (by intro q hq; cases hq) dX5_isName_15
    · -- no
      have k_2 : (xa.toInt : Int) < (6 : Int) := by first | exact nle_i c_2 | simpa using nle_i c_2
      refine lv_iconst (v := 1) hx hb dX5_isName_10 (by decide) ?_
      refine lv_goto (tgt := 15) hx hb dX5_isName_11 (by decide) ?_
      exact W.zret (v := 1) (ty := .boolean) hx hb hr rfl (fun t ht hW => ⟨1, rfl, (by refine Or.inl ⟨rfl, ?_⟩; first | assumption | omega), ht⟩) (by intro q hq; cases hq) dX5_isName_15

def w_X4_isLane : List Cond := .code yX4_isLane cX4_isLane 1 (some .boolean) :: ([])
set_option maxHeartbeats 4000000 in
set_option maxRecDepth 100000 in
theorem c_X4_isLane (l : Launch) (xa : Int32) : Met l yX4_isLane w_X4_isLane ({ frames := 0, cells := 0, slots := 0, locals := 0 }) (va_Pc [.int xa] (fun _ => True)) (vp_Si (fun (r : Int32) => two r (V3 xa) 1 0)) 0 0 (fun _ => False) := by
  refine Met.ofW (cc := cX4_isLane) (maxL := 1) (ret := (some .boolean)) (by decide) rfl ?_
  intro p e s m args below meth c s₁ B hml hv
  obtain ⟨rfl, -⟩ := hv
  have hx := B.exec
  have hb := B.bytes
  have hr := B.returns
  have hts := atoms_spec (ws := w_X4_isLane) B.pre
  have hown : s.vm.findClass RX4 = some m.cls := findClass_of_methodNamed B.named
  have hlocks := B.notSynchronized
  have hl := lv_entry ([.int xa]) (n := 1) (Nat.le_of_ble_eq_true rfl)
  rw [lg_entry_eq]
  generalize (lg_sl ([.int xa]) ++ List.replicate (1 - (lg_sl ([.int xa])).length) Slot.unset).toArray = ls at hl ⊢
  replace hl : lv_has ls 1 [(0, .int xa)] := hl
  refine lv_iload_n hx hb dX4_isLane_0 rfl (lv_at hl 0 rfl) ?_
  refine lv_if_lt (tgt := 13) hx hb dX4_isLane_1 (by decide) (fun c_1 => ?_) (fun c_1 => ?_)
  · -- yes
    have k_1 : (xa.toInt : Int) < (0 : Int) := by first | exact lt_i c_1 | simpa using lt_i c_1
    refine lv_iconst (v := 0) hx hb dX4_isLane_13 (by decide) ?_
    exact W.zret (v := 0) (ty := .boolean) hx hb hr rfl (fun t ht hW => ⟨0, rfl, (by refine Or.inr ⟨rfl, ?_⟩; first | assumption | omega), ht⟩) (by intro q hq; cases hq) dX4_isLane_14
  · -- no
    have k_1 : (0 : Int) ≤ (xa.toInt : Int) := by first | exact nlt_i c_1 | simpa using nlt_i c_1
    refine lv_iload_n hx hb dX4_isLane_4 rfl (lv_at hl 0 rfl) ?_
    refine lv_iconst (v := 3) hx hb dX4_isLane_5 (by decide) ?_
    refine lv_icmp_ge (tgt := 13) hx hb dX4_isLane_6 (by decide) (fun c_2 => ?_) (fun c_2 => ?_)
    · -- yes
      have k_2 : (3 : Int) ≤ (xa.toInt : Int) := by first | exact le_i c_2 | simpa using le_i c_2
      refine lv_iconst (v := 0) hx hb dX4_isLane_13 (by decide) ?_
      exact W.zret (v := 0) (ty := .boolean) hx hb hr rfl (fun t ht hW => ⟨0, rfl, (by refine Or.inr ⟨rfl, ?_⟩; first | assumption | omega), ht⟩) (by intro q hq; cases hq) dX4_isLane_14
    · -- no
      have k_2 : (xa.toInt : Int) < (3 : Int) := by first | exact nle_i c_2 | simpa using nle_i c_2
      refine lv_iconst (v := 1) hx hb dX4_isLane_9 (by decide) ?_
      refine lv_goto (tgt := 14) hx hb dX4_isLane_10 (by decide) ?_
      exact W.zret (v := 1) (ty := .boolean) hx hb hr rfl (fun t ht hW => ⟨1, rfl, (by refine Or.inl ⟨rfl, ?_⟩; first | assumption | omega), ht⟩) (by intro q hq; cases hq) dX4_isLane_14

def w_X5_isLane : List Cond := .code yX5_isLane cX5_isLane 1 (some .boolean) :: ([])
set_option maxHeartbeats 4000000 in
set_option maxRecDepth 100000 in
theorem c_X5_isLane (l : Launch) (xa : Int32) : Met l yX5_isLane w_X5_isLane ({ frames := 0, cells := 0, slots := 0, locals := 0 }) (va_Pc [.int xa] (fun _ => True)) (vp_Si (fun (r : Int32) => two r (V3 xa) 1 0)) 0 0 (fun _ => False) := by
  refine Met.ofW (cc := cX5_isLane) (maxL := 1) (ret := (some .boolean)) (by decide) rfl ?_
  intro p e s m args below meth c s₁ B hml hv
  obtain ⟨rfl, -⟩ := hv
  have hx := B.exec
  have hb := B.bytes
  have hr := B.returns
  have hts := atoms_spec (ws := w_X5_isLane) B.pre
  have hown : s.vm.findClass RX5 = some m.cls := findClass_of_methodNamed B.named
  have hlocks := B.notSynchronized
  have hl := lv_entry ([.int xa]) (n := 1) (Nat.le_of_ble_eq_true rfl)
  rw [lg_entry_eq]
  generalize (lg_sl ([.int xa]) ++ List.replicate (1 - (lg_sl ([.int xa])).length) Slot.unset).toArray = ls at hl ⊢
  replace hl : lv_has ls 1 [(0, .int xa)] := hl
  refine lv_iload_n hx hb dX5_isLane_0 rfl (lv_at hl 0 rfl) ?_
  refine lv_if_lt (tgt := 13) hx hb dX5_isLane_1 (by decide) (fun c_1 => ?_) (fun c_1 => ?_)
  · -- yes
    have k_1 : (xa.toInt : Int) < (0 : Int) := by first | exact lt_i c_1 | simpa using lt_i c_1
    refine lv_iconst (v := 0) hx hb dX5_isLane_13 (by decide) ?_
    exact W.zret (v := 0) (ty := .boolean) hx hb hr rfl (fun t ht hW => ⟨0, rfl, (by refine Or.inr ⟨rfl, ?_⟩; first | assumption | omega), ht⟩) (by intro q hq; cases hq) dX5_isLane_14
  · -- no
    have k_1 : (0 : Int) ≤ (xa.toInt : Int) := by first | exact nlt_i c_1 | simpa using nlt_i c_1
    refine lv_iload_n hx hb dX5_isLane_4 rfl (lv_at hl 0 rfl) ?_
    refine lv_iconst (v := 3) hx hb dX5_isLane_5 (by decide) ?_
    refine lv_icmp_ge (tgt := 13) hx hb dX5_isLane_6 (by decide) (fun c_2 => ?_) (fun c_2 => ?_)
    · -- yes
      have k_2 : (3 : Int) ≤ (xa.toInt : Int) := by first | exact le_i c_2 | simpa using le_i c_2
      refine lv_iconst (v := 0) hx hb dX5_isLane_13 (by decide) ?_
      exact W.zret (v := 0) (ty := .boolean) hx hb hr rfl (fun t ht hW => ⟨0, rfl, (by refine Or.inr ⟨rfl, ?_⟩; first | assumption | omega), ht⟩) (by intro q hq; cases hq) dX5_isLane_14
    · -- no
      have k_2 : (xa.toInt : Int) < (3 : Int) := by first | exact nle_i c_2 | simpa using nle_i c_2
      refine lv_iconst (v := 1) hx hb dX5_isLane_9 (by decide) ?_
      refine lv_goto (tgt := 14) hx hb dX5_isLane_10 (by decide) ?_
      exact W.zret (v := 1) (ty := .boolean) hx hb hr rfl (fun t ht hW => ⟨1, rfl, (by refine Or.inl ⟨rfl, ?_⟩; first | assumption | omega), ht⟩) (by intro q hq; cases hq) dX5_isLane_14

def w_X4_isNumber : List Cond := .code yX4_isNumber cX4_isNumber 1 (some .boolean) :: ([.constant RX4 204 (-1000000), .constant RX4 205 (1000000)])
set_option maxHeartbeats 4000000 in
set_option maxRecDepth 100000 in
theorem c_X4_isNumber (l : Launch) (xa : Int32) : Met l yX4_isNumber w_X4_isNumber ({ frames := 0, cells := 0, slots := 0, locals := 0 }) (va_Pc [.int xa] (fun _ => True)) (vp_Si (fun (r : Int32) => two r (VN xa) 1 0)) 0 0 (fun _ => False) := by
  refine Met.ofW (cc := cX4_isNumber) (maxL := 1) (ret := (some .boolean)) (by decide) rfl ?_
  intro p e s m args below meth c s₁ B hml hv
  obtain ⟨rfl, -⟩ := hv
  have hx := B.exec
  have hb := B.bytes
  have hr := B.returns
  have hts := atoms_spec (ws := w_X4_isNumber) B.pre
  have hown : s.vm.findClass RX4 = some m.cls := findClass_of_methodNamed B.named
  have hlocks := B.notSynchronized
  have hl := lv_entry ([.int xa]) (n := 1) (Nat.le_of_ble_eq_true rfl)
  rw [lg_entry_eq]
  generalize (lg_sl ([.int xa]) ++ List.replicate (1 - (lg_sl ([.int xa])).length) Slot.unset).toArray = ls at hl ⊢
  replace hl : lv_has ls 1 [(0, .int xa)] := hl
  refine lv_iload_n hx hb dX4_isNumber_0 rfl (lv_at hl 0 rfl) ?_
  refine lv_ldc hx hb hown (hts (.constant RX4 204 (-1000000)) (List.mem_of_getElem? (i := 1) rfl)) dX4_isNumber_1 ?_
  refine lv_icmp_lt (tgt := 16) hx hb dX4_isNumber_3 (by decide) (fun c_1 => ?_) (fun c_1 => ?_)
  · -- yes
    have k_1 : (xa.toInt : Int) < (-1000000 : Int) := by first | exact lt_i c_1 | simpa using lt_i c_1
    refine lv_iconst (v := 0) hx hb dX4_isNumber_16 (by decide) ?_
    exact W.zret (v := 0) (ty := .boolean) hx hb hr rfl (fun t ht hW => ⟨0, rfl, (by refine Or.inr ⟨rfl, ?_⟩; first | assumption | omega), ht⟩) (by intro q hq; cases hq) dX4_isNumber_17
  · -- no
    have k_1 : (-1000000 : Int) ≤ (xa.toInt : Int) := by first | exact nlt_i c_1 | simpa using nlt_i c_1
    refine lv_iload_n hx hb dX4_isNumber_6 rfl (lv_at hl 0 rfl) ?_
    refine lv_ldc hx hb hown (hts (.constant RX4 205 (1000000)) (List.mem_of_getElem? (i := 2) rfl)) dX4_isNumber_7 ?_
    refine lv_icmp_gt (tgt := 16) hx hb dX4_isNumber_9 (by decide) (fun c_2 => ?_) (fun c_2 => ?_)
    · -- yes
      have k_2 : (1000000 : Int) < (xa.toInt : Int) := by first | exact lt_i c_2 | simpa using lt_i c_2
      refine lv_iconst (v := 0) hx hb dX4_isNumber_16 (by decide) ?_
      exact W.zret (v := 0) (ty := .boolean) hx hb hr rfl (fun t ht hW => ⟨0, rfl, (by refine Or.inr ⟨rfl, ?_⟩; first | assumption | omega), ht⟩) (by intro q hq; cases hq) dX4_isNumber_17
    · -- no
      have k_2 : (xa.toInt : Int) ≤ (1000000 : Int) := by first | exact nlt_i c_2 | simpa using nlt_i c_2
      refine lv_iconst (v := 1) hx hb dX4_isNumber_12 (by decide) ?_
      refine lv_goto (tgt := 17) hx hb dX4_isNumber_13 (by decide) ?_
      exact W.zret (v := 1) (ty := .boolean) hx hb hr rfl (fun t ht hW => ⟨1, rfl, (by refine Or.inl ⟨rfl, ?_⟩; first | assumption | omega), ht⟩) (by intro q hq; cases hq) dX4_isNumber_17

def w_X5_isNumber : List Cond := .code yX5_isNumber cX5_isNumber 1 (some .boolean) :: ([.constant RX5 113 (-1000000), .constant RX5 114 (1000000)])
set_option maxHeartbeats 4000000 in
set_option maxRecDepth 100000 in
theorem c_X5_isNumber (l : Launch) (xa : Int32) : Met l yX5_isNumber w_X5_isNumber ({ frames := 0, cells := 0, slots := 0, locals := 0 }) (va_Pc [.int xa] (fun _ => True)) (vp_Si (fun (r : Int32) => two r (VN xa) 1 0)) 0 0 (fun _ => False) := by
  refine Met.ofW (cc := cX5_isNumber) (maxL := 1) (ret := (some .boolean)) (by decide) rfl ?_
  intro p e s m args below meth c s₁ B hml hv
  obtain ⟨rfl, -⟩ := hv
  have hx := B.exec
  have hb := B.bytes
  have hr := B.returns
  have hts := atoms_spec (ws := w_X5_isNumber) B.pre
  have hown : s.vm.findClass RX5 = some m.cls := findClass_of_methodNamed B.named
  have hlocks := B.notSynchronized
  have hl := lv_entry ([.int xa]) (n := 1) (Nat.le_of_ble_eq_true rfl)
  rw [lg_entry_eq]
  generalize (lg_sl ([.int xa]) ++ List.replicate (1 - (lg_sl ([.int xa])).length) Slot.unset).toArray = ls at hl ⊢
  replace hl : lv_has ls 1 [(0, .int xa)] := hl
  refine lv_iload_n hx hb dX5_isNumber_0 rfl (lv_at hl 0 rfl) ?_
  refine lv_ldc hx hb hown (hts (.constant RX5 113 (-1000000)) (List.mem_of_getElem? (i := 1) rfl)) dX5_isNumber_1 ?_
  refine lv_icmp_lt (tgt := 16) hx hb dX5_isNumber_3 (by decide) (fun c_1 => ?_) (fun c_1 => ?_)
  · -- yes
    have k_1 : (xa.toInt : Int) < (-1000000 : Int) := by first | exact lt_i c_1 | simpa using lt_i c_1
    refine lv_iconst (v := 0) hx hb dX5_isNumber_16 (by decide) ?_
    exact W.zret (v := 0) (ty := .boolean) hx hb hr rfl (fun t ht hW => ⟨0, rfl, (by refine Or.inr ⟨rfl, ?_⟩; first | assumption | omega), ht⟩) (by intro q hq; cases hq) dX5_isNumber_17
  · -- no
    have k_1 : (-1000000 : Int) ≤ (xa.toInt : Int) := by first | exact nlt_i c_1 | simpa using nlt_i c_1
    refine lv_iload_n hx hb dX5_isNumber_6 rfl (lv_at hl 0 rfl) ?_
    refine lv_ldc hx hb hown (hts (.constant RX5 114 (1000000)) (List.mem_of_getElem? (i := 2) rfl)) dX5_isNumber_7 ?_
    refine lv_icmp_gt (tgt := 16) hx hb dX5_isNumber_9 (by decide) (fun c_2 => ?_) (fun c_2 => ?_)
    · -- yes
      have k_2 : (1000000 : Int) < (xa.toInt : Int) := by first | exact lt_i c_2 | simpa using lt_i c_2
      refine lv_iconst (v := 0) hx hb dX5_isNumber_16 (by decide) ?_
      exact W.zret (v := 0) (ty := .boolean) hx hb hr rfl (fun t ht hW => ⟨0, rfl, (by refine Or.inr ⟨rfl, ?_⟩; first | assumption | omega), ht⟩) (by intro q hq; cases hq) dX5_isNumber_17
    · -- no
      have k_2 : (xa.toInt : Int) ≤ (1000000 : Int) := by first | exact nlt_i c_2 | simpa using nlt_i c_2
      refine lv_iconst (v := 1) hx hb dX5_isNumber_12 (by decide) ?_
      refine lv_goto (tgt := 17) hx hb dX5_isNumber_13 (by decide) ?_
      exact W.zret (v := 1) (ty := .boolean) hx hb hr rfl (fun t ht hW => ⟨1, rfl, (by refine Or.inl ⟨rfl, ?_⟩; first | assumption | omega), ht⟩) (by intro q hq; cases hq) dX5_isNumber_17
