def w_X5_status : List Cond := .code yX5_status cX5_status 1 (some .int) :: ([.fieldLink RX5 256 "ArraySegmentsModel" "status" "I"] ++ wsX50)
theorem inc_X5_status_X5 : ∀ w ∈ wsX50, w ∈ w_X5_status := fun _ h => List.mem_cons_of_mem _ (List.mem_append_right _ h)
abbrev pw_X5_status (cI cJ cZ : ClassId) (gh : Nat) (gv_acts : Value) (gv_kind : Value) (gv_na : Value) (gv_nb : Value) (gv_nc : Value) (gv_nd : Value) (gv_ne : Value) (gv_dropped : Value) (gv_live : Value) (gv_low : Value) (gv_high : Value) (gv_sites : Value) (gv_nulls : Value) (gv_there : Value) (gv_lanes : Value) (gv_least : Value) (gv_most : Value) (gv_placeLow : Value) (gv_placeHigh : Value) (gv_reached : Value) (gv_mayThrow : Value) (gv_hasRun : Value) (gv_threw : Value) (gv_whereThrown : Value) (gv_value : Value) (gv_means : Value) (gv_laneOf : Value) (gv_sizeOf : Value) (gv_cells : Value) (gv_copied : Value) (gv_state : Value) (gv_joinedLow : Value) (gv_joinedHigh : Value) (gv_keptLow : Value) (gv_keptHigh : Value) (sta : Int32) : va_W := [(gh, .inr (5, [gv_acts, gv_kind, gv_na, gv_nb, gv_nc, gv_nd, gv_ne, gv_dropped, gv_live, gv_low, gv_high, gv_sites, gv_nulls, gv_there, gv_lanes, gv_least, gv_most, gv_placeLow, gv_placeHigh, gv_reached, gv_mayThrow, .int sta, gv_hasRun, gv_threw, gv_whereThrown, gv_value, gv_means, gv_laneOf, gv_sizeOf, gv_cells, gv_copied, gv_state, gv_joinedLow, gv_joinedHigh, gv_keptLow, gv_keptHigh]))]
set_option maxHeartbeats 4000000 in
set_option maxRecDepth 100000 in
theorem c_X5_status (l : Launch) (dC : Nat → ClassId) (dI : Nat → Nat → Nat) (cI cJ cZ : ClassId) (gh : Nat) (gv_acts : Value) (gv_kind : Value) (gv_na : Value) (gv_nb : Value) (gv_nc : Value) (gv_nd : Value) (gv_ne : Value) (gv_dropped : Value) (gv_live : Value) (gv_low : Value) (gv_high : Value) (gv_sites : Value) (gv_nulls : Value) (gv_there : Value) (gv_lanes : Value) (gv_least : Value) (gv_most : Value) (gv_placeLow : Value) (gv_placeHigh : Value) (gv_reached : Value) (gv_mayThrow : Value) (gv_hasRun : Value) (gv_threw : Value) (gv_whereThrown : Value) (gv_value : Value) (gv_means : Value) (gv_laneOf : Value) (gv_sizeOf : Value) (gv_cells : Value) (gv_copied : Value) (gv_state : Value) (gv_joinedLow : Value) (gv_joinedHigh : Value) (gv_keptLow : Value) (gv_keptHigh : Value) (sta : Int32) (sz : Nat) : Met l yX5_status w_X5_status ({ frames := 0, cells := 0, slots := 0, locals := 0 }) (va_Pc [.ref gh] (cPre dC dI cI cJ cZ sz (pw_X5_status cI cJ cZ gh gv_acts gv_kind gv_na gv_nb gv_nc gv_nd gv_ne gv_dropped gv_live gv_low gv_high gv_sites gv_nulls gv_there gv_lanes gv_least gv_most gv_placeLow gv_placeHigh gv_reached gv_mayThrow gv_hasRun gv_threw gv_whereThrown gv_value gv_means gv_laneOf gv_sizeOf gv_cells gv_copied gv_state gv_joinedLow gv_joinedHigh gv_keptLow gv_keptHigh sta))) (va_Qi (fun (r : Int32) (u : Nat → Nat) => r = sta) (fun (u : Nat → Nat) => cPost dC dI cI cJ cZ (va_A (pw_X5_status cI cJ cZ gh gv_acts gv_kind gv_na gv_nb gv_nc gv_nd gv_ne gv_dropped gv_live gv_low gv_high gv_sites gv_nulls gv_there gv_lanes gv_least gv_most gv_placeLow gv_placeHigh gv_reached gv_mayThrow gv_hasRun gv_threw gv_whereThrown gv_value gv_means gv_laneOf gv_sizeOf gv_cells gv_copied gv_state gv_joinedLow gv_joinedHigh gv_keptLow gv_keptHigh sta) sz) []) (va_A (pw_X5_status cI cJ cZ gh gv_acts gv_kind gv_na gv_nb gv_nc gv_nd gv_ne gv_dropped gv_live gv_low gv_high gv_sites gv_nulls gv_there gv_lanes gv_least gv_most gv_placeLow gv_placeHigh gv_reached gv_mayThrow gv_hasRun gv_threw gv_whereThrown gv_value gv_means gv_laneOf gv_sizeOf gv_cells gv_copied gv_state gv_joinedLow gv_joinedHigh gv_keptLow gv_keptHigh sta) sz)) 0 0 (va_A (pw_X5_status cI cJ cZ gh gv_acts gv_kind gv_na gv_nb gv_nc gv_nd gv_ne gv_dropped gv_live gv_low gv_high gv_sites gv_nulls gv_there gv_lanes gv_least gv_most gv_placeLow gv_placeHigh gv_reached gv_mayThrow gv_hasRun gv_threw gv_whereThrown gv_value gv_means gv_laneOf gv_sizeOf gv_cells gv_copied gv_state gv_joinedLow gv_joinedHigh gv_keptLow gv_keptHigh sta) sz) := by
  refine Met.ofW (cc := cX5_status) (maxL := 1) (ret := (some .int)) (by decide) rfl ?_
  intro p e s m args below meth c s₁ B hml hv
  obtain ⟨rfl, hsz, hP, hK, hD0, hN⟩ := hv
  have hx := B.exec
  have hb := B.bytes
  have hr := B.returns
  have hts := atoms_spec (ws := w_X5_status) B.pre
  have hown : s.vm.findClass RX5 = some m.cls := findClass_of_methodNamed B.named
  have hlocks := B.notSynchronized
  subst hsz
  have hD := hD0.self (sz := s.heap.size)
  generalize hAe : va_A (pw_X5_status cI cJ cZ gh gv_acts gv_kind gv_na gv_nb gv_nc gv_nd gv_ne gv_dropped gv_live gv_low gv_high gv_sites gv_nulls gv_there gv_lanes gv_least gv_most gv_placeLow gv_placeHigh gv_reached gv_mayThrow gv_hasRun gv_threw gv_whereThrown gv_value gv_means gv_laneOf gv_sizeOf gv_cells gv_copied gv_state gv_joinedLow gv_joinedHigh gv_keptLow gv_keptHigh sta) s.heap.size = A at hD ⊢
  have hA : ∀ q : Nat, s.heap.size ≤ q → A q := fun q h => by rw [← hAe]; exact Or.inr h
  clear hAe hD0
  have hS : va_S A s.heap s.heap [] := va_S.rf
  replace hP : va_P (dC, dI) vwCl [(gh, .inr (5, [gv_acts, gv_kind, gv_na, gv_nb, gv_nc, gv_nd, gv_ne, gv_dropped, gv_live, gv_low, gv_high, gv_sites, gv_nulls, gv_there, gv_lanes, gv_least, gv_most, gv_placeLow, gv_placeHigh, gv_reached, gv_mayThrow, .int sta, gv_hasRun, gv_threw, gv_whereThrown, gv_value, gv_means, gv_laneOf, gv_sizeOf, gv_cells, gv_copied, gv_state, gv_joinedLow, gv_joinedHigh, gv_keptLow, gv_keptHigh]))] s.heap := hP
  replace hD : va_D A [(gh, .inr (5, [gv_acts, gv_kind, gv_na, gv_nb, gv_nc, gv_nd, gv_ne, gv_dropped, gv_live, gv_low, gv_high, gv_sites, gv_nulls, gv_there, gv_lanes, gv_least, gv_most, gv_placeLow, gv_placeHigh, gv_reached, gv_mayThrow, .int sta, gv_hasRun, gv_threw, gv_whereThrown, gv_value, gv_means, gv_laneOf, gv_sizeOf, gv_cells, gv_copied, gv_state, gv_joinedLow, gv_joinedHigh, gv_keptLow, gv_keptHigh]))] := hD
  have hl := lv_entry ([.ref gh]) (n := 1) (Nat.le_of_ble_eq_true rfl)
  rw [lg_entry_eq]
  generalize (lg_sl ([.ref gh]) ++ List.replicate (1 - (lg_sl ([.ref gh])).length) Slot.unset).toArray = ls at hl ⊢
  replace hl : lv_has ls 1 [(0, .ref gh)] := hl
  refine lv_aload_n hx hb dX5_status_0 rfl (lv_at hl 0 rfl) ?_
  refine va_get (D := (dC, dI)) (ci := 5) (v := .int sta) (C := RX5) (T := TX5) (N := 36) hx hb hts inc_X5_status_X5 hown hK hP 0 rfl rfl 21 (by decide) (hts (.fieldLink RX5 256 "ArraySegmentsModel" "status" "I") (List.mem_of_getElem? (i := 1) rfl)) (fun _ h9 => h9) rfl dX5_status_1 ?_
  have hP9 := hP.sub (ws' := []) [] rfl
  have hD9 := hD.sub (ws' := []) [] (by decide) rfl
  exact W.iret (v := sta) hx hb hr (fun t ht hW => ⟨⟨sta, (fun _ => 0), rfl, rfl, by rw [ht]; exact hP9, va_K.moved hW.alike hK, hD9⟩, hS.F ht⟩) hS.2.2 dX5_status_4

def w_X5_run : List Cond := .code yX5_run cX5_run 5 (some .int) :: ([.methodLink RX5 96 yX5_forget, .instanceMethod yX5_forget, .selects RX5 yX5_forget yX5_forget, .initialized RX5, .code yX5_forget cX5_forget 2 none, .fieldLink RX5 99 "ArraySegmentsModel" "hasRun" "Z", .fieldLink RX5 103 "ArraySegmentsModel" "threw" "I", .fieldLink RX5 107 "ArraySegmentsModel" "whereThrown" "I", .fieldLink RX5 72 "ArraySegmentsModel" "value" "[I", .fieldLink RX5 75 "ArraySegmentsModel" "means" "[I", .fieldLink RX5 278 "ArraySegmentsModel" "state" "J", .fieldLink RX5 110 "ArraySegmentsModel" "acts" "I"] ++ wsX50)
theorem inc_X5_run_X5 : ∀ w ∈ wsX50, w ∈ w_X5_run := fun _ h => List.mem_cons_of_mem _ (List.mem_append_right _ h)
set_option maxRecDepth 20000 in
theorem g_X5_run_X5_forget_96 : GoodIn w_X5_run (wsV RX5 96 RX5 yX5_forget w_X5_forget) := goodIn_r _ [1, 2, 3, 4, 5, 6, 7, 8, 9, 10, 13, 14, 15, 16, 17, 18, 19, 20, 21, 22, 23, 24, 25, 26, 27, 28, 29, 30, 31, 32, 33, 34, 35, 36, 37, 38, 39, 40, 41, 42, 43, 44, 45, 46, 47, 48] (by decide +kernel) (by decide +kernel)
abbrev pw_X5_run (cI cJ cZ : ClassId) (gh : Nat) (g1 : Nat) (g2 : Nat) (h1 : Nat → Int32) (h2 : Nat → Int32) (gv_kind : Value) (gv_na : Value) (gv_nb : Value) (gv_nc : Value) (gv_nd : Value) (gv_ne : Value) (gv_dropped : Value) (gv_live : Value) (gv_low : Value) (gv_high : Value) (gv_sites : Value) (gv_nulls : Value) (gv_there : Value) (gv_lanes : Value) (gv_least : Value) (gv_most : Value) (gv_placeLow : Value) (gv_placeHigh : Value) (gv_reached : Value) (gv_mayThrow : Value) (gv_status : Value) (gv_hasRun : Value) (gv_threw : Value) (gv_whereThrown : Value) (gv_laneOf : Value) (gv_sizeOf : Value) (gv_cells : Value) (gv_copied : Value) (gv_state : Value) (gv_joinedLow : Value) (gv_joinedHigh : Value) (gv_keptLow : Value) (gv_keptHigh : Value) (seed : Int64) : va_W := [(gh, .inr (5, [.int 0, gv_kind, gv_na, gv_nb, gv_nc, gv_nd, gv_ne, gv_dropped, gv_live, gv_low, gv_high, gv_sites, gv_nulls, gv_there, gv_lanes, gv_least, gv_most, gv_placeLow, gv_placeHigh, gv_reached, gv_mayThrow, gv_status, gv_hasRun, gv_threw, gv_whereThrown, .ref g1, .ref g2, gv_laneOf, gv_sizeOf, gv_cells, gv_copied, gv_state, gv_joinedLow, gv_joinedHigh, gv_keptLow, gv_keptHigh])), (g1, .inl (cI, 6, .inl h1)), (g2, .inl (cI, 6, .inl h2))]
set_option maxHeartbeats 4000000 in
set_option maxRecDepth 100000 in
theorem c_X5_run (l : Launch) (dC : Nat → ClassId) (dI : Nat → Nat → Nat) (cI cJ cZ : ClassId) (gh : Nat) (g1 : Nat) (g2 : Nat) (h1 : Nat → Int32) (h2 : Nat → Int32) (gv_kind : Value) (gv_na : Value) (gv_nb : Value) (gv_nc : Value) (gv_nd : Value) (gv_ne : Value) (gv_dropped : Value) (gv_live : Value) (gv_low : Value) (gv_high : Value) (gv_sites : Value) (gv_nulls : Value) (gv_there : Value) (gv_lanes : Value) (gv_least : Value) (gv_most : Value) (gv_placeLow : Value) (gv_placeHigh : Value) (gv_reached : Value) (gv_mayThrow : Value) (gv_status : Value) (gv_hasRun : Value) (gv_threw : Value) (gv_whereThrown : Value) (gv_laneOf : Value) (gv_sizeOf : Value) (gv_cells : Value) (gv_copied : Value) (gv_state : Value) (gv_joinedLow : Value) (gv_joinedHigh : Value) (gv_keptLow : Value) (gv_keptHigh : Value) (seed : Int64) (sz : Nat) : Met l yX5_run w_X5_run ({ frames := 1, cells := 0, slots := 0, locals := 21 }) (va_Pc [.ref gh, .long seed] (cPre dC dI cI cJ cZ sz (pw_X5_run cI cJ cZ gh g1 g2 h1 h2 gv_kind gv_na gv_nb gv_nc gv_nd gv_ne gv_dropped gv_live gv_low gv_high gv_sites gv_nulls gv_there gv_lanes gv_least gv_most gv_placeLow gv_placeHigh gv_reached gv_mayThrow gv_status gv_hasRun gv_threw gv_whereThrown gv_laneOf gv_sizeOf gv_cells gv_copied gv_state gv_joinedLow gv_joinedHigh gv_keptLow gv_keptHigh seed))) (va_Qi (fun (r : Int32) (u : Nat → Nat) => r = 0) (fun (u : Nat → Nat) => cPost dC dI cI cJ cZ (va_A (pw_X5_run cI cJ cZ gh g1 g2 h1 h2 gv_kind gv_na gv_nb gv_nc gv_nd gv_ne gv_dropped gv_live gv_low gv_high gv_sites gv_nulls gv_there gv_lanes gv_least gv_most gv_placeLow gv_placeHigh gv_reached gv_mayThrow gv_status gv_hasRun gv_threw gv_whereThrown gv_laneOf gv_sizeOf gv_cells gv_copied gv_state gv_joinedLow gv_joinedHigh gv_keptLow gv_keptHigh seed) sz) [(gh, .inr (5, [.int 0, gv_kind, gv_na, gv_nb, gv_nc, gv_nd, gv_ne, gv_dropped, gv_live, gv_low, gv_high, gv_sites, gv_nulls, gv_there, gv_lanes, gv_least, gv_most, gv_placeLow, gv_placeHigh, gv_reached, gv_mayThrow, gv_status, .int 1, .int 0, .int (-1), .ref g1, .ref g2, gv_laneOf, gv_sizeOf, gv_cells, gv_copied, .long seed, gv_joinedLow, gv_joinedHigh, gv_keptLow, gv_keptHigh])), (g1, .inl (cI, 6, .inl (ov h1 6 0))), (g2, .inl (cI, 6, .inl (ov h2 6 (-1))))]) (va_A (pw_X5_run cI cJ cZ gh g1 g2 h1 h2 gv_kind gv_na gv_nb gv_nc gv_nd gv_ne gv_dropped gv_live gv_low gv_high gv_sites gv_nulls gv_there gv_lanes gv_least gv_most gv_placeLow gv_placeHigh gv_reached gv_mayThrow gv_status gv_hasRun gv_threw gv_whereThrown gv_laneOf gv_sizeOf gv_cells gv_copied gv_state gv_joinedLow gv_joinedHigh gv_keptLow gv_keptHigh seed) sz)) 0 0 (va_A (pw_X5_run cI cJ cZ gh g1 g2 h1 h2 gv_kind gv_na gv_nb gv_nc gv_nd gv_ne gv_dropped gv_live gv_low gv_high gv_sites gv_nulls gv_there gv_lanes gv_least gv_most gv_placeLow gv_placeHigh gv_reached gv_mayThrow gv_status gv_hasRun gv_threw gv_whereThrown gv_laneOf gv_sizeOf gv_cells gv_copied gv_state gv_joinedLow gv_joinedHigh gv_keptLow gv_keptHigh seed) sz) := by
  refine Met.ofW (cc := cX5_run) (maxL := 5) (ret := (some .int)) (by decide) rfl ?_
  intro p e s m args below meth c s₁ B hml hv
  obtain ⟨rfl, hsz, hP, hK, hD0, hN⟩ := hv
  have hx := B.exec
  have hb := B.bytes
  have hr := B.returns
  have hts := atoms_spec (ws := w_X5_run) B.pre
  have hown : s.vm.findClass RX5 = some m.cls := findClass_of_methodNamed B.named
  have hlocks := B.notSynchronized
  subst hsz
  have hD := hD0.self (sz := s.heap.size)
  generalize hAe : va_A (pw_X5_run cI cJ cZ gh g1 g2 h1 h2 gv_kind gv_na gv_nb gv_nc gv_nd gv_ne gv_dropped gv_live gv_low gv_high gv_sites gv_nulls gv_there gv_lanes gv_least gv_most gv_placeLow gv_placeHigh gv_reached gv_mayThrow gv_status gv_hasRun gv_threw gv_whereThrown gv_laneOf gv_sizeOf gv_cells gv_copied gv_state gv_joinedLow gv_joinedHigh gv_keptLow gv_keptHigh seed) s.heap.size = A at hD ⊢
  have hA : ∀ q : Nat, s.heap.size ≤ q → A q := fun q h => by rw [← hAe]; exact Or.inr h
  clear hAe hD0
  have hS : va_S A s.heap s.heap [] := va_S.rf
  replace hP : va_P (dC, dI) vwCl [(gh, .inr (5, [.int 0, gv_kind, gv_na, gv_nb, gv_nc, gv_nd, gv_ne, gv_dropped, gv_live, gv_low, gv_high, gv_sites, gv_nulls, gv_there, gv_lanes, gv_least, gv_most, gv_placeLow, gv_placeHigh, gv_reached, gv_mayThrow, gv_status, gv_hasRun, gv_threw, gv_whereThrown, .ref g1, .ref g2, gv_laneOf, gv_sizeOf, gv_cells, gv_copied, gv_state, gv_joinedLow, gv_joinedHigh, gv_keptLow, gv_keptHigh])), (g1, .inl (cI, 6, .inl h1)), (g2, .inl (cI, 6, .inl h2))] s.heap := hP
  replace hD : va_D A [(gh, .inr (5, [.int 0, gv_kind, gv_na, gv_nb, gv_nc, gv_nd, gv_ne, gv_dropped, gv_live, gv_low, gv_high, gv_sites, gv_nulls, gv_there, gv_lanes, gv_least, gv_most, gv_placeLow, gv_placeHigh, gv_reached, gv_mayThrow, gv_status, gv_hasRun, gv_threw, gv_whereThrown, .ref g1, .ref g2, gv_laneOf, gv_sizeOf, gv_cells, gv_copied, gv_state, gv_joinedLow, gv_joinedHigh, gv_keptLow, gv_keptHigh])), (g1, .inl (cI, 6, .inl h1)), (g2, .inl (cI, 6, .inl h2))] := hD
  have hl := lv_entry ([.ref gh, .long seed]) (n := 5) (Nat.le_of_ble_eq_true rfl)
  rw [lg_entry_eq]
  generalize (lg_sl ([.ref gh, .long seed]) ++ List.replicate (5 - (lg_sl ([.ref gh, .long seed])).length) Slot.unset).toArray = ls at hl ⊢
  replace hl : lv_has ls 5 [(0, .ref gh), (1, .long seed)] := hl
  refine lv_aload_n hx hb dX5_run_0 rfl (lv_at hl 0 rfl) ?_
  have hPc := hP.sub (ws' := [(gh, .inr (5, [.int 0, gv_kind, gv_na, gv_nb, gv_nc, gv_nd, gv_ne, gv_dropped, gv_live, gv_low, gv_high, gv_sites, gv_nulls, gv_there, gv_lanes, gv_least, gv_most, gv_placeLow, gv_placeHigh, gv_reached, gv_mayThrow, gv_status, gv_hasRun, gv_threw, gv_whereThrown, .ref g1, .ref g2, gv_laneOf, gv_sizeOf, gv_cells, gv_copied, gv_state, gv_joinedLow, gv_joinedHigh, gv_keptLow, gv_keptHigh])), (g1, .inl (cI, 6, .inl h1)), (g2, .inl (cI, 6, .inl h2))]) [0, 1, 2] rfl
  have hDc := hD.sub (ws' := [(gh, .inr (5, [.int 0, gv_kind, gv_na, gv_nb, gv_nc, gv_nd, gv_ne, gv_dropped, gv_live, gv_low, gv_high, gv_sites, gv_nulls, gv_there, gv_lanes, gv_least, gv_most, gv_placeLow, gv_placeHigh, gv_reached, gv_mayThrow, gv_status, gv_hasRun, gv_threw, gv_whereThrown, .ref g1, .ref g2, gv_laneOf, gv_sizeOf, gv_cells, gv_copied, gv_state, gv_joinedLow, gv_joinedHigh, gv_keptLow, gv_keptHigh])), (g1, .inl (cI, 6, .inl h1)), (g2, .inl (cI, 6, .inl h2))]) [0, 1, 2] (by decide) rfl
  have hFc := va_free (wc := [(gh, .inr (5, [.int 0, gv_kind, gv_na, gv_nb, gv_nc, gv_nd, gv_ne, gv_dropped, gv_live, gv_low, gv_high, gv_sites, gv_nulls, gv_there, gv_lanes, gv_least, gv_most, gv_placeLow, gv_placeHigh, gv_reached, gv_mayThrow, gv_status, gv_hasRun, gv_threw, gv_whereThrown, .ref g1, .ref g2, gv_laneOf, gv_sizeOf, gv_cells, gv_copied, gv_state, gv_joinedLow, gv_joinedHigh, gv_keptLow, gv_keptHigh])), (g1, .inl (cI, 6, .inl h1)), (g2, .inl (cI, 6, .inl h2))]) hD hS hA [0, 1, 2] rfl
  refine va_callv (va_runV (As := []) (rest := []) ⟨hx, hb, hml, hown, hts⟩ (c_X5_forget l dC dI cI cJ cZ gh g1 g2 h1 h2 (.int 0) gv_kind gv_na gv_nb gv_nc gv_nd gv_ne gv_dropped gv_live gv_low gv_high gv_sites gv_nulls gv_there gv_lanes gv_least gv_most gv_placeLow gv_placeHigh gv_reached gv_mayThrow gv_status gv_hasRun gv_threw gv_whereThrown gv_laneOf gv_sizeOf gv_cells gv_copied gv_state gv_joinedLow gv_joinedHigh gv_keptLow gv_keptHigh s.heap.size) (cwV 0 hts g_X5_run_X5_forget_96 rfl rfl rfl (by decide +kernel) ⟨Nat.le_of_ble_eq_true rfl, Nat.le_of_ble_eq_true rfl⟩) ⟨cPre_blind, va_recv hK hPc (ci := 5) (q0 := 0) rfl rfl, cPre_of hK hN hPc hDc⟩ rfl rfl hl.1 rfl (lv_room (Nat.le_of_ble_eq_true rfl)) dX5_run_1 ⟨Nat.le_of_ble_eq_true rfl, Nat.le_of_ble_eq_true rfl⟩) hS (fun q _ h => hFc q h) hFc (fun u_1 t_1 H_1 locs_1 ht hvm hw_1 hB hz1 hk1 hS1 => ?_)
  obtain ⟨hP1, hK1, hD1⟩ := hB
  rw [ht] at hP1
  obtain ⟨hP2, hD2⟩ := va_join (wr := []) (w1 := [(gh, .inr (5, [.int 0, gv_kind, gv_na, gv_nb, gv_nc, gv_nd, gv_ne, gv_dropped, gv_live, gv_low, gv_high, gv_sites, gv_nulls, gv_there, gv_lanes, gv_least, gv_most, gv_placeLow, gv_placeHigh, gv_reached, gv_mayThrow, gv_status, .int 0, .int 0, .int (-1), .ref g1, .ref g2, gv_laneOf, gv_sizeOf, gv_cells, gv_copied, gv_state, gv_joinedLow, gv_joinedHigh, gv_keptLow, gv_keptHigh])), (g1, .inl (cI, 6, .inl (ov h1 6 0))), (g2, .inl (cI, 6, .inl (ov h2 6 (-1))))]) hP hD [0, 1, 2] [] rfl rfl (by decide) (by decide) hk1 hFc hP1 hD1
  clear hPc hDc hFc hP1 hD1 hK1 hk1 hz1 hvm ht
  replace hP : va_P (dC, dI) vwCl [(gh, .inr (5, [.int 0, gv_kind, gv_na, gv_nb, gv_nc, gv_nd, gv_ne, gv_dropped, gv_live, gv_low, gv_high, gv_sites, gv_nulls, gv_there, gv_lanes, gv_least, gv_most, gv_placeLow, gv_placeHigh, gv_reached, gv_mayThrow, gv_status, .int 0, .int 0, .int (-1), .ref g1, .ref g2, gv_laneOf, gv_sizeOf, gv_cells, gv_copied, gv_state, gv_joinedLow, gv_joinedHigh, gv_keptLow, gv_keptHigh])), (g1, .inl (cI, 6, .inl (ov h1 6 0))), (g2, .inl (cI, 6, .inl (ov h2 6 (-1))))] H_1 := hP2
  replace hD : va_D A [(gh, .inr (5, [.int 0, gv_kind, gv_na, gv_nb, gv_nc, gv_nd, gv_ne, gv_dropped, gv_live, gv_low, gv_high, gv_sites, gv_nulls, gv_there, gv_lanes, gv_least, gv_most, gv_placeLow, gv_placeHigh, gv_reached, gv_mayThrow, gv_status, .int 0, .int 0, .int (-1), .ref g1, .ref g2, gv_laneOf, gv_sizeOf, gv_cells, gv_copied, gv_state, gv_joinedLow, gv_joinedHigh, gv_keptLow, gv_keptHigh])), (g1, .inl (cI, 6, .inl (ov h1 6 0))), (g2, .inl (cI, 6, .inl (ov h2 6 (-1))))] := hD2
  replace hS := hS1
  clear hP2 hD2 hS1
  refine lv_aload_n hx hb dX5_run_4 rfl (lv_at hl 0 rfl) ?_
  refine lv_iconst (v := 1) hx hb dX5_run_5 (by decide) ?_
  refine va_put (D := (dC, dI)) (ci := 5) (v := .int 1) (ty := .boolean) (C := RX5) (T := TX5) (N := 36) hx hb hts inc_X5_run_X5 tyX5 tyX5_ok nmX5 hown hK hP hD hS 0 rfl rfl 22 (by decide) (hts (.fieldLink RX5 99 "ArraySegmentsModel" "hasRun" "Z") (List.mem_of_getElem? (i := 6) rfl)) (fun _ h9 => h9) rfl (by decide +kernel) rfl rfl (Nat.le_of_ble_eq_true rfl) dX5_run_6 (fun H_2 locs_2 hP1 hD1 hS1 => ?_)
  replace hP : va_P (dC, dI) vwCl [(gh, .inr (5, [.int 0, gv_kind, gv_na, gv_nb, gv_nc, gv_nd, gv_ne, gv_dropped, gv_live, gv_low, gv_high, gv_sites, gv_nulls, gv_there, gv_lanes, gv_least, gv_most, gv_placeLow, gv_placeHigh, gv_reached, gv_mayThrow, gv_status, .int 1, .int 0, .int (-1), .ref g1, .ref g2, gv_laneOf, gv_sizeOf, gv_cells, gv_copied, gv_state, gv_joinedLow, gv_joinedHigh, gv_keptLow, gv_keptHigh])), (g1, .inl (cI, 6, .inl (ov h1 6 0))), (g2, .inl (cI, 6, .inl (ov h2 6 (-1))))] H_2 := hP1
  replace hD : va_D A [(gh, .inr (5, [.int 0, gv_kind, gv_na, gv_nb, gv_nc, gv_nd, gv_ne, gv_dropped, gv_live, gv_low, gv_high, gv_sites, gv_nulls, gv_there, gv_lanes, gv_least, gv_most, gv_placeLow, gv_placeHigh, gv_reached, gv_mayThrow, gv_status, .int 1, .int 0, .int (-1), .ref g1, .ref g2, gv_laneOf, gv_sizeOf, gv_cells, gv_copied, gv_state, gv_joinedLow, gv_joinedHigh, gv_keptLow, gv_keptHigh])), (g1, .inl (cI, 6, .inl (ov h1 6 0))), (g2, .inl (cI, 6, .inl (ov h2 6 (-1))))] := hD1
  replace hS := hS1
  clear hP1 hD1 hS1
  refine lv_aload_n hx hb dX5_run_9 rfl (lv_at hl 0 rfl) ?_
  refine lv_lload_n hx hb dX5_run_10 rfl (lv_at hl 1 rfl) ?_
  refine va_put (D := (dC, dI)) (ci := 5) (v := .long seed) (ty := .long) (C := RX5) (T := TX5) (N := 36) hx hb hts inc_X5_run_X5 tyX5 tyX5_ok nmX5 hown hK hP hD hS 0 rfl rfl 31 (by decide) (hts (.fieldLink RX5 278 "ArraySegmentsModel" "state" "J") (List.mem_of_getElem? (i := 11) rfl)) (fun _ h9 => h9) rfl (by decide +kernel) rfl rfl (Nat.le_of_ble_eq_true rfl) dX5_run_11 (fun H_3 locs_3 hP1 hD1 hS1 => ?_)
  replace hP : va_P (dC, dI) vwCl [(gh, .inr (5, [.int 0, gv_kind, gv_na, gv_nb, gv_nc, gv_nd, gv_ne, gv_dropped, gv_live, gv_low, gv_high, gv_sites, gv_nulls, gv_there, gv_lanes, gv_least, gv_most, gv_placeLow, gv_placeHigh, gv_reached, gv_mayThrow, gv_status, .int 1, .int 0, .int (-1), .ref g1, .ref g2, gv_laneOf, gv_sizeOf, gv_cells, gv_copied, .long seed, gv_joinedLow, gv_joinedHigh, gv_keptLow, gv_keptHigh])), (g1, .inl (cI, 6, .inl (ov h1 6 0))), (g2, .inl (cI, 6, .inl (ov h2 6 (-1))))] H_3 := hP1
  replace hD : va_D A [(gh, .inr (5, [.int 0, gv_kind, gv_na, gv_nb, gv_nc, gv_nd, gv_ne, gv_dropped, gv_live, gv_low, gv_high, gv_sites, gv_nulls, gv_there, gv_lanes, gv_least, gv_most, gv_placeLow, gv_placeHigh, gv_reached, gv_mayThrow, gv_status, .int 1, .int 0, .int (-1), .ref g1, .ref g2, gv_laneOf, gv_sizeOf, gv_cells, gv_copied, .long seed, gv_joinedLow, gv_joinedHigh, gv_keptLow, gv_keptHigh])), (g1, .inl (cI, 6, .inl (ov h1 6 0))), (g2, .inl (cI, 6, .inl (ov h2 6 (-1))))] := hD1
  replace hS := hS1
  clear hP1 hD1 hS1
  refine lv_iconst (v := 0) hx hb dX5_run_14 (by decide) ?_
  refine lv_istore_n (lv' := [(3, .int 0), (0, .ref gh), (1, .long seed)]) hx hb dX5_run_15 rfl hl (by decide) rfl (fun ls1 hl1 => ?_)
  replace hl := hl1; clear hl1
  refine lv_iconst (v := 0) hx hb dX5_run_16 (by decide) ?_
  refine lv_istore (lv' := [(4, .int 0), (3, .int 0), (0, .ref gh), (1, .long seed)]) hx hb dX5_run_17 hl (by decide) rfl (fun ls1 hl1 => ?_)
  replace hl := hl1; clear hl1
  refine lv_iload hx hb dX5_run_19 (lv_at hl 0 rfl) ?_
  refine lv_aload_n hx hb dX5_run_21 rfl (lv_at hl 2 rfl) ?_
  refine va_get (D := (dC, dI)) (ci := 5) (v := .int 0) (C := RX5) (T := TX5) (N := 36) hx hb hts inc_X5_run_X5 hown hK hP 0 rfl rfl 0 (by decide) (hts (.fieldLink RX5 110 "ArraySegmentsModel" "acts" "I") (List.mem_of_getElem? (i := 12) rfl)) (fun _ h9 => h9) rfl dX5_run_22 ?_
  refine lv_icmp_ge (tgt := 112) hx hb dX5_run_25 (by decide) (fun c_4 => ?_) (fun c_4 => ?_)
  · -- on
    refine lv_aload_n hx hb dX5_run_112 rfl (lv_at hl 2 rfl) ?_
    refine va_get (D := (dC, dI)) (ci := 5) (v := .int 0) (C := RX5) (T := TX5) (N := 36) hx hb hts inc_X5_run_X5 hown hK hP 0 rfl rfl 23 (by decide) (hts (.fieldLink RX5 103 "ArraySegmentsModel" "threw" "I") (List.mem_of_getElem? (i := 7) rfl)) (fun _ h9 => h9) rfl dX5_run_113 ?_
    have hP9 := hP.sub (ws' := [(gh, .inr (5, [.int 0, gv_kind, gv_na, gv_nb, gv_nc, gv_nd, gv_ne, gv_dropped, gv_live, gv_low, gv_high, gv_sites, gv_nulls, gv_there, gv_lanes, gv_least, gv_most, gv_placeLow, gv_placeHigh, gv_reached, gv_mayThrow, gv_status, .int 1, .int 0, .int (-1), .ref g1, .ref g2, gv_laneOf, gv_sizeOf, gv_cells, gv_copied, .long seed, gv_joinedLow, gv_joinedHigh, gv_keptLow, gv_keptHigh])), (g1, .inl (cI, 6, .inl (ov h1 6 0))), (g2, .inl (cI, 6, .inl (ov h2 6 (-1))))]) [0, 1, 2] rfl
    have hD9 := hD.sub (ws' := [(gh, .inr (5, [.int 0, gv_kind, gv_na, gv_nb, gv_nc, gv_nd, gv_ne, gv_dropped, gv_live, gv_low, gv_high, gv_sites, gv_nulls, gv_there, gv_lanes, gv_least, gv_most, gv_placeLow, gv_placeHigh, gv_reached, gv_mayThrow, gv_status, .int 1, .int 0, .int (-1), .ref g1, .ref g2, gv_laneOf, gv_sizeOf, gv_cells, gv_copied, .long seed, gv_joinedLow, gv_joinedHigh, gv_keptLow, gv_keptHigh])), (g1, .inl (cI, 6, .inl (ov h1 6 0))), (g2, .inl (cI, 6, .inl (ov h2 6 (-1))))]) [0, 1, 2] (by decide) rfl
    exact W.iret (v := 0) hx hb hr (fun t ht hW => ⟨⟨0, (fun _ => 0), rfl, rfl, by rw [ht]; exact hP9, va_K.moved hW.alike hK, hD9⟩, hS.F ht⟩) hS.2.2 dX5_run_116
  · exact absurd (by decide) c_4

def w_X5_where : List Cond := .code yX5_where cX5_where 1 (some .int) :: ([.fieldLink RX5 107 "ArraySegmentsModel" "whereThrown" "I"] ++ wsX50)
theorem inc_X5_where_X5 : ∀ w ∈ wsX50, w ∈ w_X5_where := fun _ h => List.mem_cons_of_mem _ (List.mem_append_right _ h)
abbrev pw_X5_where (cI cJ cZ : ClassId) (gh : Nat) (gv_acts : Value) (gv_kind : Value) (gv_na : Value) (gv_nb : Value) (gv_nc : Value) (gv_nd : Value) (gv_ne : Value) (gv_dropped : Value) (gv_live : Value) (gv_low : Value) (gv_high : Value) (gv_sites : Value) (gv_nulls : Value) (gv_there : Value) (gv_lanes : Value) (gv_least : Value) (gv_most : Value) (gv_placeLow : Value) (gv_placeHigh : Value) (gv_reached : Value) (gv_mayThrow : Value) (gv_status : Value) (gv_hasRun : Value) (gv_threw : Value) (gv_value : Value) (gv_means : Value) (gv_laneOf : Value) (gv_sizeOf : Value) (gv_cells : Value) (gv_copied : Value) (gv_state : Value) (gv_joinedLow : Value) (gv_joinedHigh : Value) (gv_keptLow : Value) (gv_keptHigh : Value) (gta : Int32) : va_W := [(gh, .inr (5, [gv_acts, gv_kind, gv_na, gv_nb, gv_nc, gv_nd, gv_ne, gv_dropped, gv_live, gv_low, gv_high, gv_sites, gv_nulls, gv_there, gv_lanes, gv_least, gv_most, gv_placeLow, gv_placeHigh, gv_reached, gv_mayThrow, gv_status, gv_hasRun, gv_threw, .int gta, gv_value, gv_means, gv_laneOf, gv_sizeOf, gv_cells, gv_copied, gv_state, gv_joinedLow, gv_joinedHigh, gv_keptLow, gv_keptHigh]))]
set_option maxHeartbeats 4000000 in
set_option maxRecDepth 100000 in
theorem c_X5_where (l : Launch) (dC : Nat → ClassId) (dI : Nat → Nat → Nat) (cI cJ cZ : ClassId) (gh : Nat) (gv_acts : Value) (gv_kind : Value) (gv_na : Value) (gv_nb : Value) (gv_nc : Value) (gv_nd : Value) (gv_ne : Value) (gv_dropped : Value) (gv_live : Value) (gv_low : Value) (gv_high : Value) (gv_sites : Value) (gv_nulls : Value) (gv_there : Value) (gv_lanes : Value) (gv_least : Value) (gv_most : Value) (gv_placeLow : Value) (gv_placeHigh : Value) (gv_reached : Value) (gv_mayThrow : Value) (gv_status : Value) (gv_hasRun : Value) (gv_threw : Value) (gv_value : Value) (gv_means : Value) (gv_laneOf : Value) (gv_sizeOf : Value) (gv_cells : Value) (gv_copied : Value) (gv_state : Value) (gv_joinedLow : Value) (gv_joinedHigh : Value) (gv_keptLow : Value) (gv_keptHigh : Value) (gta : Int32) (sz : Nat) : Met l yX5_where w_X5_where ({ frames := 0, cells := 0, slots := 0, locals := 0 }) (va_Pc [.ref gh] (cPre dC dI cI cJ cZ sz (pw_X5_where cI cJ cZ gh gv_acts gv_kind gv_na gv_nb gv_nc gv_nd gv_ne gv_dropped gv_live gv_low gv_high gv_sites gv_nulls gv_there gv_lanes gv_least gv_most gv_placeLow gv_placeHigh gv_reached gv_mayThrow gv_status gv_hasRun gv_threw gv_value gv_means gv_laneOf gv_sizeOf gv_cells gv_copied gv_state gv_joinedLow gv_joinedHigh gv_keptLow gv_keptHigh gta))) (va_Qi (fun (r : Int32) (u : Nat → Nat) => r = gta) (fun (u : Nat → Nat) => cPost dC dI cI cJ cZ (va_A (pw_X5_where cI cJ cZ gh gv_acts gv_kind gv_na gv_nb gv_nc gv_nd gv_ne gv_dropped gv_live gv_low gv_high gv_sites gv_nulls gv_there gv_lanes gv_least gv_most gv_placeLow gv_placeHigh gv_reached gv_mayThrow gv_status gv_hasRun gv_threw gv_value gv_means gv_laneOf gv_sizeOf gv_cells gv_copied gv_state gv_joinedLow gv_joinedHigh gv_keptLow gv_keptHigh gta) sz) []) (va_A (pw_X5_where cI cJ cZ gh gv_acts gv_kind gv_na gv_nb gv_nc gv_nd gv_ne gv_dropped gv_live gv_low gv_high gv_sites gv_nulls gv_there gv_lanes gv_least gv_most gv_placeLow gv_placeHigh gv_reached gv_mayThrow gv_status gv_hasRun gv_threw gv_value gv_means gv_laneOf gv_sizeOf gv_cells gv_copied gv_state gv_joinedLow gv_joinedHigh gv_keptLow gv_keptHigh gta) sz)) 0 0 (va_A (pw_X5_where cI cJ cZ gh gv_acts gv_kind gv_na gv_nb gv_nc gv_nd gv_ne gv_dropped gv_live gv_low gv_high gv_sites gv_nulls gv_there gv_lanes gv_least gv_most gv_placeLow gv_placeHigh gv_reached gv_mayThrow gv_status gv_hasRun gv_threw gv_value gv_means gv_laneOf gv_sizeOf gv_cells gv_copied gv_state gv_joinedLow gv_joinedHigh gv_keptLow gv_keptHigh gta) sz) := by
  refine Met.ofW (cc := cX5_where) (maxL := 1) (ret := (some .int)) (by decide) rfl ?_
  intro p e s m args below meth c s₁ B hml hv
  obtain ⟨rfl, hsz, hP, hK, hD0, hN⟩ := hv
  have hx := B.exec
  have hb := B.bytes
  have hr := B.returns
  have hts := atoms_spec (ws := w_X5_where) B.pre
  have hown : s.vm.findClass RX5 = some m.cls := findClass_of_methodNamed B.named
  have hlocks := B.notSynchronized
  subst hsz
  have hD := hD0.self (sz := s.heap.size)
  generalize hAe : va_A (pw_X5_where cI cJ cZ gh gv_acts gv_kind gv_na gv_nb gv_nc gv_nd gv_ne gv_dropped gv_live gv_low gv_high gv_sites gv_nulls gv_there gv_lanes gv_least gv_most gv_placeLow gv_placeHigh gv_reached gv_mayThrow gv_status gv_hasRun gv_threw gv_value gv_means gv_laneOf gv_sizeOf gv_cells gv_copied gv_state gv_joinedLow gv_joinedHigh gv_keptLow gv_keptHigh gta) s.heap.size = A at hD ⊢
  have hA : ∀ q : Nat, s.heap.size ≤ q → A q := fun q h => by rw [← hAe]; exact Or.inr h
  clear hAe hD0
  have hS : va_S A s.heap s.heap [] := va_S.rf
  replace hP : va_P (dC, dI) vwCl [(gh, .inr (5, [gv_acts, gv_kind, gv_na, gv_nb, gv_nc, gv_nd, gv_ne, gv_dropped, gv_live, gv_low, gv_high, gv_sites, gv_nulls, gv_there, gv_lanes, gv_least, gv_most, gv_placeLow, gv_placeHigh, gv_reached, gv_mayThrow, gv_status, gv_hasRun, gv_threw, .int gta, gv_value, gv_means, gv_laneOf, gv_sizeOf, gv_cells, gv_copied, gv_state, gv_joinedLow, gv_joinedHigh, gv_keptLow, gv_keptHigh]))] s.heap := hP
  replace hD : va_D A [(gh, .inr (5, [gv_acts, gv_kind, gv_na, gv_nb, gv_nc, gv_nd, gv_ne, gv_dropped, gv_live, gv_low, gv_high, gv_sites, gv_nulls, gv_there, gv_lanes, gv_least, gv_most, gv_placeLow, gv_placeHigh, gv_reached, gv_mayThrow, gv_status, gv_hasRun, gv_threw, .int gta, gv_value, gv_means, gv_laneOf, gv_sizeOf, gv_cells, gv_copied, gv_state, gv_joinedLow, gv_joinedHigh, gv_keptLow, gv_keptHigh]))] := hD
  have hl := lv_entry ([.ref gh]) (n := 1) (Nat.le_of_ble_eq_true rfl)
  rw [lg_entry_eq]
  generalize (lg_sl ([.ref gh]) ++ List.replicate (1 - (lg_sl ([.ref gh])).length) Slot.unset).toArray = ls at hl ⊢
  replace hl : lv_has ls 1 [(0, .ref gh)] := hl
  refine lv_aload_n hx hb dX5_where_0 rfl (lv_at hl 0 rfl) ?_
  refine va_get (D := (dC, dI)) (ci := 5) (v := .int gta) (C := RX5) (T := TX5) (N := 36) hx hb hts inc_X5_where_X5 hown hK hP 0 rfl rfl 24 (by decide) (hts (.fieldLink RX5 107 "ArraySegmentsModel" "whereThrown" "I") (List.mem_of_getElem? (i := 1) rfl)) (fun _ h9 => h9) rfl dX5_where_1 ?_
  have hP9 := hP.sub (ws' := []) [] rfl
  have hD9 := hD.sub (ws' := []) [] (by decide) rfl
  exact W.iret (v := gta) hx hb hr (fun t ht hW => ⟨⟨gta, (fun _ => 0), rfl, rfl, by rw [ht]; exact hP9, va_K.moved hW.alike hK, hD9⟩, hS.F ht⟩) hS.2.2 dX5_where_4

def w_X5_value : List Cond := .code yX5_value cX5_value 2 (some .int) :: ([.methodLink RX5 115 yX5_isName, .static yX5_isName, .initialized RX5, .code yX5_isName cX5_isName 1 (some .boolean), .fieldLink RX5 72 "ArraySegmentsModel" "value" "[I"] ++ wsX50)
theorem inc_X5_value_X5 : ∀ w ∈ wsX50, w ∈ w_X5_value := fun _ h => List.mem_cons_of_mem _ (List.mem_append_right _ h)
set_option maxRecDepth 20000 in
theorem g_X5_value_X5_isName_115 : GoodIn w_X5_value (va_wsS RX5 115 yX5_isName w_X5_isName) := goodIn_r _ [1, 2, 3, 4] (by decide +kernel) (by decide +kernel)
abbrev pw_X5_value (cI cJ cZ : ClassId) (gh : Nat) (g1 : Nat) (g2 : Nat) (h1 : Nat → Int32) (h2 : Nat → Int32) (gv_acts : Value) (gv_kind : Value) (gv_na : Value) (gv_nb : Value) (gv_nc : Value) (gv_nd : Value) (gv_ne : Value) (gv_dropped : Value) (gv_live : Value) (gv_low : Value) (gv_high : Value) (gv_sites : Value) (gv_nulls : Value) (gv_there : Value) (gv_lanes : Value) (gv_least : Value) (gv_most : Value) (gv_placeLow : Value) (gv_placeHigh : Value) (gv_reached : Value) (gv_mayThrow : Value) (gv_status : Value) (gv_hasRun : Value) (gv_threw : Value) (gv_whereThrown : Value) (gv_laneOf : Value) (gv_sizeOf : Value) (gv_cells : Value) (gv_copied : Value) (gv_state : Value) (gv_joinedLow : Value) (gv_joinedHigh : Value) (gv_keptLow : Value) (gv_keptHigh : Value) (xa : Int32) : va_W := [(gh, .inr (5, [gv_acts, gv_kind, gv_na, gv_nb, gv_nc, gv_nd, gv_ne, gv_dropped, gv_live, gv_low, gv_high, gv_sites, gv_nulls, gv_there, gv_lanes, gv_least, gv_most, gv_placeLow, gv_placeHigh, gv_reached, gv_mayThrow, gv_status, gv_hasRun, gv_threw, gv_whereThrown, .ref g1, .ref g2, gv_laneOf, gv_sizeOf, gv_cells, gv_copied, gv_state, gv_joinedLow, gv_joinedHigh, gv_keptLow, gv_keptHigh])), (g1, .inl (cI, 6, .inl (ov h1 6 0))), (g2, .inl (cI, 6, .inl (ov h2 6 (-1))))]
set_option maxHeartbeats 4000000 in
set_option maxRecDepth 100000 in
theorem c_X5_value (l : Launch) (dC : Nat → ClassId) (dI : Nat → Nat → Nat) (cI cJ cZ : ClassId) (gh : Nat) (g1 : Nat) (g2 : Nat) (h1 : Nat → Int32) (h2 : Nat → Int32) (gv_acts : Value) (gv_kind : Value) (gv_na : Value) (gv_nb : Value) (gv_nc : Value) (gv_nd : Value) (gv_ne : Value) (gv_dropped : Value) (gv_live : Value) (gv_low : Value) (gv_high : Value) (gv_sites : Value) (gv_nulls : Value) (gv_there : Value) (gv_lanes : Value) (gv_least : Value) (gv_most : Value) (gv_placeLow : Value) (gv_placeHigh : Value) (gv_reached : Value) (gv_mayThrow : Value) (gv_status : Value) (gv_hasRun : Value) (gv_threw : Value) (gv_whereThrown : Value) (gv_laneOf : Value) (gv_sizeOf : Value) (gv_cells : Value) (gv_copied : Value) (gv_state : Value) (gv_joinedLow : Value) (gv_joinedHigh : Value) (gv_keptLow : Value) (gv_keptHigh : Value) (xa : Int32) (sz : Nat) : Met l yX5_value w_X5_value ({ frames := 1, cells := 0, slots := 0, locals := 20 }) (va_Pc [.ref gh, .int xa] (cPre dC dI cI cJ cZ sz (pw_X5_value cI cJ cZ gh g1 g2 h1 h2 gv_acts gv_kind gv_na gv_nb gv_nc gv_nd gv_ne gv_dropped gv_live gv_low gv_high gv_sites gv_nulls gv_there gv_lanes gv_least gv_most gv_placeLow gv_placeHigh gv_reached gv_mayThrow gv_status gv_hasRun gv_threw gv_whereThrown gv_laneOf gv_sizeOf gv_cells gv_copied gv_state gv_joinedLow gv_joinedHigh gv_keptLow gv_keptHigh xa))) (va_Qi (fun (r : Int32) (u : Nat → Nat) => r = 0) (fun (u : Nat → Nat) => cPost dC dI cI cJ cZ (va_A (pw_X5_value cI cJ cZ gh g1 g2 h1 h2 gv_acts gv_kind gv_na gv_nb gv_nc gv_nd gv_ne gv_dropped gv_live gv_low gv_high gv_sites gv_nulls gv_there gv_lanes gv_least gv_most gv_placeLow gv_placeHigh gv_reached gv_mayThrow gv_status gv_hasRun gv_threw gv_whereThrown gv_laneOf gv_sizeOf gv_cells gv_copied gv_state gv_joinedLow gv_joinedHigh gv_keptLow gv_keptHigh xa) sz) []) (va_A (pw_X5_value cI cJ cZ gh g1 g2 h1 h2 gv_acts gv_kind gv_na gv_nb gv_nc gv_nd gv_ne gv_dropped gv_live gv_low gv_high gv_sites gv_nulls gv_there gv_lanes gv_least gv_most gv_placeLow gv_placeHigh gv_reached gv_mayThrow gv_status gv_hasRun gv_threw gv_whereThrown gv_laneOf gv_sizeOf gv_cells gv_copied gv_state gv_joinedLow gv_joinedHigh gv_keptLow gv_keptHigh xa) sz)) 0 0 (va_A (pw_X5_value cI cJ cZ gh g1 g2 h1 h2 gv_acts gv_kind gv_na gv_nb gv_nc gv_nd gv_ne gv_dropped gv_live gv_low gv_high gv_sites gv_nulls gv_there gv_lanes gv_least gv_most gv_placeLow gv_placeHigh gv_reached gv_mayThrow gv_status gv_hasRun gv_threw gv_whereThrown gv_laneOf gv_sizeOf gv_cells gv_copied gv_state gv_joinedLow gv_joinedHigh gv_keptLow gv_keptHigh xa) sz) := by
  refine Met.ofW (cc := cX5_value) (maxL := 2) (ret := (some .int)) (by decide) rfl ?_
  intro p e s m args below meth c s₁ B hml hv
  obtain ⟨rfl, hsz, hP, hK, hD0, hN⟩ := hv
  have hx := B.exec
  have hb := B.bytes
  have hr := B.returns
  have hts := atoms_spec (ws := w_X5_value) B.pre
  have hown : s.vm.findClass RX5 = some m.cls := findClass_of_methodNamed B.named
  have hlocks := B.notSynchronized
  subst hsz
  have hD := hD0.self (sz := s.heap.size)
  generalize hAe : va_A (pw_X5_value cI cJ cZ gh g1 g2 h1 h2 gv_acts gv_kind gv_na gv_nb gv_nc gv_nd gv_ne gv_dropped gv_live gv_low gv_high gv_sites gv_nulls gv_there gv_lanes gv_least gv_most gv_placeLow gv_placeHigh gv_reached gv_mayThrow gv_status gv_hasRun gv_threw gv_whereThrown gv_laneOf gv_sizeOf gv_cells gv_copied gv_state gv_joinedLow gv_joinedHigh gv_keptLow gv_keptHigh xa) s.heap.size = A at hD ⊢
  have hA : ∀ q : Nat, s.heap.size ≤ q → A q := fun q h => by rw [← hAe]; exact Or.inr h
  clear hAe hD0
  have hS : va_S A s.heap s.heap [] := va_S.rf
  replace hP : va_P (dC, dI) vwCl [(gh, .inr (5, [gv_acts, gv_kind, gv_na, gv_nb, gv_nc, gv_nd, gv_ne, gv_dropped, gv_live, gv_low, gv_high, gv_sites, gv_nulls, gv_there, gv_lanes, gv_least, gv_most, gv_placeLow, gv_placeHigh, gv_reached, gv_mayThrow, gv_status, gv_hasRun, gv_threw, gv_whereThrown, .ref g1, .ref g2, gv_laneOf, gv_sizeOf, gv_cells, gv_copied, gv_state, gv_joinedLow, gv_joinedHigh, gv_keptLow, gv_keptHigh])), (g1, .inl (cI, 6, .inl (ov h1 6 0))), (g2, .inl (cI, 6, .inl (ov h2 6 (-1))))] s.heap := hP
  replace hD : va_D A [(gh, .inr (5, [gv_acts, gv_kind, gv_na, gv_nb, gv_nc, gv_nd, gv_ne, gv_dropped, gv_live, gv_low, gv_high, gv_sites, gv_nulls, gv_there, gv_lanes, gv_least, gv_most, gv_placeLow, gv_placeHigh, gv_reached, gv_mayThrow, gv_status, gv_hasRun, gv_threw, gv_whereThrown, .ref g1, .ref g2, gv_laneOf, gv_sizeOf, gv_cells, gv_copied, gv_state, gv_joinedLow, gv_joinedHigh, gv_keptLow, gv_keptHigh])), (g1, .inl (cI, 6, .inl (ov h1 6 0))), (g2, .inl (cI, 6, .inl (ov h2 6 (-1))))] := hD
  have hl := lv_entry ([.ref gh, .int xa]) (n := 2) (Nat.le_of_ble_eq_true rfl)
  rw [lg_entry_eq]
  generalize (lg_sl ([.ref gh, .int xa]) ++ List.replicate (2 - (lg_sl ([.ref gh, .int xa])).length) Slot.unset).toArray = ls at hl ⊢
  replace hl : lv_has ls 2 [(0, .ref gh), (1, .int xa)] := hl
  refine lv_iload_n hx hb dX5_value_0 rfl (lv_at hl 1 rfl) ?_
  refine vp_callSi (va_runS (As := [.int xa]) (rest := []) ⟨hx, hb, hml, hown, hts⟩ (c_X5_isName l xa) (va_cwS 1 hts g_X5_value_X5_isName_115 rfl rfl rfl (by decide +kernel) ⟨Nat.le_of_ble_eq_true rfl, Nat.le_of_ble_eq_true rfl⟩) ⟨fun _ _ _ _ q => q, fun _ _ _ => ⟨rfl, trivial⟩⟩ rfl rfl hl.1 rfl (lv_room (Nat.le_of_ble_eq_true rfl)) dX5_value_1 ⟨Nat.le_of_ble_eq_true rfl, Nat.le_of_ble_eq_true rfl⟩).run (fun r_1 hw_1 => ?_)
  refine lv_if_eq (tgt := 16) hx hb dX5_value_4 (by decide) (fun c_2 => ?_) (fun c_2 => ?_)
  · -- yes
    have k_2 : ¬ (V6 xa) := two_z hw_1 c_2
    refine lv_iconst (v := 0) hx hb dX5_value_16 (by decide) ?_
    have hP9 := hP.sub (ws' := []) [] rfl
    have hD9 := hD.sub (ws' := []) [] (by decide) rfl
    exact W.iret (v := 0) hx hb hr (fun t ht hW => ⟨⟨0, (fun _ => 0), rfl, rfl, by rw [ht]; exact hP9, va_K.moved hW.alike hK, hD9⟩, hS.F ht⟩) hS.2.2 dX5_value_17
  · -- no
    have k_2 : V6 xa := two_nz hw_1 c_2
    refine lv_aload_n hx hb dX5_value_7 rfl (lv_at hl 0 rfl) ?_
    refine va_get (D := (dC, dI)) (ci := 5) (v := .ref g1) (C := RX5) (T := TX5) (N := 36) hx hb hts inc_X5_value_X5 hown hK hP 0 rfl rfl 25 (by decide) (hts (.fieldLink RX5 72 "ArraySegmentsModel" "value" "[I") (List.mem_of_getElem? (i := 5) rfl)) (fun _ h9 => h9) rfl dX5_value_8 ?_
    refine lv_iload_n hx hb dX5_value_11 rfl (lv_at hl 1 rfl) ?_
    refine va_iald hx hb hK hP 1 0 rfl rfl (v6_in k_2) dX5_value_12 ?_
    refine my_topi (y := 0) (ov_v6 h1 0 k_2) ?_
    refine lv_goto (tgt := 17) hx hb dX5_value_13 (by decide) ?_
    have hP9 := hP.sub (ws' := []) [] rfl
    have hD9 := hD.sub (ws' := []) [] (by decide) rfl
    exact W.iret (v := 0) hx hb hr (fun t ht hW => ⟨⟨0, (fun _ => 0), rfl, rfl, by rw [ht]; exact hP9, va_K.moved hW.alike hK, hD9⟩, hS.F ht⟩) hS.2.2 dX5_value_17

def w_X5_place : List Cond := .code yX5_place cX5_place 4 (some .int) :: ([.methodLink RX5 115 yX5_isName, .static yX5_isName, .initialized RX5, .code yX5_isName cX5_isName 1 (some .boolean), .fieldLink RX5 75 "ArraySegmentsModel" "means" "[I"] ++ wsX50)
theorem inc_X5_place_X5 : ∀ w ∈ wsX50, w ∈ w_X5_place := fun _ h => List.mem_cons_of_mem _ (List.mem_append_right _ h)
set_option maxRecDepth 20000 in
theorem g_X5_place_X5_isName_115 : GoodIn w_X5_place (va_wsS RX5 115 yX5_isName w_X5_isName) := goodIn_r _ [1, 2, 3, 4] (by decide +kernel) (by decide +kernel)
abbrev pw_X5_place (cI cJ cZ : ClassId) (gh : Nat) (g1 : Nat) (g2 : Nat) (h1 : Nat → Int32) (h2 : Nat → Int32) (gv_acts : Value) (gv_kind : Value) (gv_na : Value) (gv_nb : Value) (gv_nc : Value) (gv_nd : Value) (gv_ne : Value) (gv_dropped : Value) (gv_live : Value) (gv_low : Value) (gv_high : Value) (gv_sites : Value) (gv_nulls : Value) (gv_there : Value) (gv_lanes : Value) (gv_least : Value) (gv_most : Value) (gv_placeLow : Value) (gv_placeHigh : Value) (gv_reached : Value) (gv_mayThrow : Value) (gv_status : Value) (gv_hasRun : Value) (gv_threw : Value) (gv_whereThrown : Value) (gv_laneOf : Value) (gv_sizeOf : Value) (gv_cells : Value) (gv_copied : Value) (gv_state : Value) (gv_joinedLow : Value) (gv_joinedHigh : Value) (gv_keptLow : Value) (gv_keptHigh : Value) (ra : Int32) (ia : Int32) : va_W := [(gh, .inr (5, [gv_acts, gv_kind, gv_na, gv_nb, gv_nc, gv_nd, gv_ne, gv_dropped, gv_live, gv_low, gv_high, gv_sites, gv_nulls, gv_there, gv_lanes, gv_least, gv_most, gv_placeLow, gv_placeHigh, gv_reached, gv_mayThrow, gv_status, gv_hasRun, gv_threw, gv_whereThrown, .ref g1, .ref g2, gv_laneOf, gv_sizeOf, gv_cells, gv_copied, gv_state, gv_joinedLow, gv_joinedHigh, gv_keptLow, gv_keptHigh])), (g1, .inl (cI, 6, .inl (ov h1 6 0))), (g2, .inl (cI, 6, .inl (ov h2 6 (-1))))]
set_option maxHeartbeats 4000000 in
set_option maxRecDepth 100000 in
theorem c_X5_place (l : Launch) (dC : Nat → ClassId) (dI : Nat → Nat → Nat) (cI cJ cZ : ClassId) (gh : Nat) (g1 : Nat) (g2 : Nat) (h1 : Nat → Int32) (h2 : Nat → Int32) (gv_acts : Value) (gv_kind : Value) (gv_na : Value) (gv_nb : Value) (gv_nc : Value) (gv_nd : Value) (gv_ne : Value) (gv_dropped : Value) (gv_live : Value) (gv_low : Value) (gv_high : Value) (gv_sites : Value) (gv_nulls : Value) (gv_there : Value) (gv_lanes : Value) (gv_least : Value) (gv_most : Value) (gv_placeLow : Value) (gv_placeHigh : Value) (gv_reached : Value) (gv_mayThrow : Value) (gv_status : Value) (gv_hasRun : Value) (gv_threw : Value) (gv_whereThrown : Value) (gv_laneOf : Value) (gv_sizeOf : Value) (gv_cells : Value) (gv_copied : Value) (gv_state : Value) (gv_joinedLow : Value) (gv_joinedHigh : Value) (gv_keptLow : Value) (gv_keptHigh : Value) (ra : Int32) (ia : Int32) (sz : Nat) : Met l yX5_place w_X5_place ({ frames := 1, cells := 0, slots := 0, locals := 20 }) (va_Pc [.ref gh, .int ra, .int ia] (cPre dC dI cI cJ cZ sz (pw_X5_place cI cJ cZ gh g1 g2 h1 h2 gv_acts gv_kind gv_na gv_nb gv_nc gv_nd gv_ne gv_dropped gv_live gv_low gv_high gv_sites gv_nulls gv_there gv_lanes gv_least gv_most gv_placeLow gv_placeHigh gv_reached gv_mayThrow gv_status gv_hasRun gv_threw gv_whereThrown gv_laneOf gv_sizeOf gv_cells gv_copied gv_state gv_joinedLow gv_joinedHigh gv_keptLow gv_keptHigh ra ia))) (va_Qi (fun (r : Int32) (u : Nat → Nat) => r = 0) (fun (u : Nat → Nat) => cPost dC dI cI cJ cZ (va_A (pw_X5_place cI cJ cZ gh g1 g2 h1 h2 gv_acts gv_kind gv_na gv_nb gv_nc gv_nd gv_ne gv_dropped gv_live gv_low gv_high gv_sites gv_nulls gv_there gv_lanes gv_least gv_most gv_placeLow gv_placeHigh gv_reached gv_mayThrow gv_status gv_hasRun gv_threw gv_whereThrown gv_laneOf gv_sizeOf gv_cells gv_copied gv_state gv_joinedLow gv_joinedHigh gv_keptLow gv_keptHigh ra ia) sz) []) (va_A (pw_X5_place cI cJ cZ gh g1 g2 h1 h2 gv_acts gv_kind gv_na gv_nb gv_nc gv_nd gv_ne gv_dropped gv_live gv_low gv_high gv_sites gv_nulls gv_there gv_lanes gv_least gv_most gv_placeLow gv_placeHigh gv_reached gv_mayThrow gv_status gv_hasRun gv_threw gv_whereThrown gv_laneOf gv_sizeOf gv_cells gv_copied gv_state gv_joinedLow gv_joinedHigh gv_keptLow gv_keptHigh ra ia) sz)) 0 0 (va_A (pw_X5_place cI cJ cZ gh g1 g2 h1 h2 gv_acts gv_kind gv_na gv_nb gv_nc gv_nd gv_ne gv_dropped gv_live gv_low gv_high gv_sites gv_nulls gv_there gv_lanes gv_least gv_most gv_placeLow gv_placeHigh gv_reached gv_mayThrow gv_status gv_hasRun gv_threw gv_whereThrown gv_laneOf gv_sizeOf gv_cells gv_copied gv_state gv_joinedLow gv_joinedHigh gv_keptLow gv_keptHigh ra ia) sz) := by
  refine Met.ofW (cc := cX5_place) (maxL := 4) (ret := (some .int)) (by decide) rfl ?_
  intro p e s m args below meth c s₁ B hml hv
  obtain ⟨rfl, hsz, hP, hK, hD0, hN⟩ := hv
  have hx := B.exec
  have hb := B.bytes
  have hr := B.returns
  have hts := atoms_spec (ws := w_X5_place) B.pre
  have hown : s.vm.findClass RX5 = some m.cls := findClass_of_methodNamed B.named
  have hlocks := B.notSynchronized
  subst hsz
  have hD := hD0.self (sz := s.heap.size)
  generalize hAe : va_A (pw_X5_place cI cJ cZ gh g1 g2 h1 h2 gv_acts gv_kind gv_na gv_nb gv_nc gv_nd gv_ne gv_dropped gv_live gv_low gv_high gv_sites gv_nulls gv_there gv_lanes gv_least gv_most gv_placeLow gv_placeHigh gv_reached gv_mayThrow gv_status gv_hasRun gv_threw gv_whereThrown gv_laneOf gv_sizeOf gv_cells gv_copied gv_state gv_joinedLow gv_joinedHigh gv_keptLow gv_keptHigh ra ia) s.heap.size = A at hD ⊢
  have hA : ∀ q : Nat, s.heap.size ≤ q → A q := fun q h => by rw [← hAe]; exact Or.inr h
  clear hAe hD0
  have hS : va_S A s.heap s.heap [] := va_S.rf
  replace hP : va_P (dC, dI) vwCl [(gh, .inr (5, [gv_acts, gv_kind, gv_na, gv_nb, gv_nc, gv_nd, gv_ne, gv_dropped, gv_live, gv_low, gv_high, gv_sites, gv_nulls, gv_there, gv_lanes, gv_least, gv_most, gv_placeLow, gv_placeHigh, gv_reached, gv_mayThrow, gv_status, gv_hasRun, gv_threw, gv_whereThrown, .ref g1, .ref g2, gv_laneOf, gv_sizeOf, gv_cells, gv_copied, gv_state, gv_joinedLow, gv_joinedHigh, gv_keptLow, gv_keptHigh])), (g1, .inl (cI, 6, .inl (ov h1 6 0))), (g2, .inl (cI, 6, .inl (ov h2 6 (-1))))] s.heap := hP
  replace hD : va_D A [(gh, .inr (5, [gv_acts, gv_kind, gv_na, gv_nb, gv_nc, gv_nd, gv_ne, gv_dropped, gv_live, gv_low, gv_high, gv_sites, gv_nulls, gv_there, gv_lanes, gv_least, gv_most, gv_placeLow, gv_placeHigh, gv_reached, gv_mayThrow, gv_status, gv_hasRun, gv_threw, gv_whereThrown, .ref g1, .ref g2, gv_laneOf, gv_sizeOf, gv_cells, gv_copied, gv_state, gv_joinedLow, gv_joinedHigh, gv_keptLow, gv_keptHigh])), (g1, .inl (cI, 6, .inl (ov h1 6 0))), (g2, .inl (cI, 6, .inl (ov h2 6 (-1))))] := hD
  have hl := lv_entry ([.ref gh, .int ra, .int ia]) (n := 4) (Nat.le_of_ble_eq_true rfl)
  rw [lg_entry_eq]
  generalize (lg_sl ([.ref gh, .int ra, .int ia]) ++ List.replicate (4 - (lg_sl ([.ref gh, .int ra, .int ia])).length) Slot.unset).toArray = ls at hl ⊢
  replace hl : lv_has ls 4 [(0, .ref gh), (1, .int ra), (2, .int ia)] := hl
  refine lv_iload_n hx hb dX5_place_0 rfl (lv_at hl 1 rfl) ?_
  refine vp_callSi (va_runS (As := [.int ra]) (rest := []) ⟨hx, hb, hml, hown, hts⟩ (c_X5_isName l ra) (va_cwS 1 hts g_X5_place_X5_isName_115 rfl rfl rfl (by decide +kernel) ⟨Nat.le_of_ble_eq_true rfl, Nat.le_of_ble_eq_true rfl⟩) ⟨fun _ _ _ _ q => q, fun _ _ _ => ⟨rfl, trivial⟩⟩ rfl rfl hl.1 rfl (lv_room (Nat.le_of_ble_eq_true rfl)) dX5_place_1 ⟨Nat.le_of_ble_eq_true rfl, Nat.le_of_ble_eq_true rfl⟩).run (fun r_1 hw_1 => ?_)
  refine lv_if_eq (tgt := 16) hx hb dX5_place_4 (by decide) (fun c_2 => ?_) (fun c_2 => ?_)
  · -- yes
    have k_2 : ¬ (V6 ra) := two_z hw_1 c_2
    refine lv_iconst (v := (-1)) hx hb dX5_place_16 (by decide) ?_
    refine lv_istore_n (lv' := [(3, .int (-1)), (0, .ref gh), (1, .int ra), (2, .int ia)]) hx hb dX5_place_17 rfl hl (by decide) rfl (fun ls1 hl1 => ?_)
    replace hl := hl1; clear hl1
    refine lv_iload_n hx hb dX5_place_18 rfl (lv_at hl 0 rfl) ?_
    refine lv_if_lt (tgt := 50) hx hb dX5_place_19 (by decide) (fun c_3 => ?_) (fun c_3 => ?_)
    · -- on
      refine lv_iconst (v := 0) hx hb dX5_place_50 (by decide) ?_
      have hP9 := hP.sub (ws' := []) [] rfl
      have hD9 := hD.sub (ws' := []) [] (by decide) rfl
      exact W.iret (v := 0) hx hb hr (fun t ht hW => ⟨⟨0, (fun _ => 0), rfl, rfl, by rw [ht]; exact hP9, va_K.moved hW.alike hK, hD9⟩, hS.F ht⟩) hS.2.2 dX5_place_51
    · exact absurd (by decide) c_3
  · -- no
    have k_2 : V6 ra := two_nz hw_1 c_2
    refine lv_aload_n hx hb dX5_place_7 rfl (lv_at hl 0 rfl) ?_
    refine va_get (D := (dC, dI)) (ci := 5) (v := .ref g2) (C := RX5) (T := TX5) (N := 36) hx hb hts inc_X5_place_X5 hown hK hP 0 rfl rfl 26 (by decide) (hts (.fieldLink RX5 75 "ArraySegmentsModel" "means" "[I") (List.mem_of_getElem? (i := 5) rfl)) (fun _ h9 => h9) rfl dX5_place_8 ?_
    refine lv_iload_n hx hb dX5_place_11 rfl (lv_at hl 1 rfl) ?_
    refine va_iald hx hb hK hP 2 0 rfl rfl (v6_in k_2) dX5_place_12 ?_
    refine my_topi (y := (-1)) (ov_v6 h2 (-1) k_2) ?_
    refine lv_goto (tgt := 17) hx hb dX5_place_13 (by decide) ?_
    refine lv_istore_n (lv' := [(3, .int (-1)), (0, .ref gh), (1, .int ra), (2, .int ia)]) hx hb dX5_place_17 rfl hl (by decide) rfl (fun ls1 hl1 => ?_)
    replace hl := hl1; clear hl1
    refine lv_iload_n hx hb dX5_place_18 rfl (lv_at hl 0 rfl) ?_
    refine lv_if_lt (tgt := 50) hx hb dX5_place_19 (by decide) (fun c_4 => ?_) (fun c_4 => ?_)
    · -- on
      refine lv_iconst (v := 0) hx hb dX5_place_50 (by decide) ?_
      have hP9 := hP.sub (ws' := []) [] rfl
      have hD9 := hD.sub (ws' := []) [] (by decide) rfl
      exact W.iret (v := 0) hx hb hr (fun t ht hW => ⟨⟨0, (fun _ => 0), rfl, rfl, by rw [ht]; exact hP9, va_K.moved hW.alike hK, hD9⟩, hS.F ht⟩) hS.2.2 dX5_place_51
    · exact absurd (by decide) c_4

def w_X5_length : List Cond := .code yX5_length cX5_length 2 (some .int) :: ([.methodLink RX5 115 yX5_isName, .static yX5_isName, .initialized RX5, .code yX5_isName cX5_isName 1 (some .boolean), .fieldLink RX5 75 "ArraySegmentsModel" "means" "[I"] ++ wsX50)
theorem inc_X5_length_X5 : ∀ w ∈ wsX50, w ∈ w_X5_length := fun _ h => List.mem_cons_of_mem _ (List.mem_append_right _ h)
set_option maxRecDepth 20000 in
theorem g_X5_length_X5_isName_115 : GoodIn w_X5_length (va_wsS RX5 115 yX5_isName w_X5_isName) := goodIn_r _ [1, 2, 3, 4] (by decide +kernel) (by decide +kernel)
abbrev pw_X5_length (cI cJ cZ : ClassId) (gh : Nat) (g1 : Nat) (g2 : Nat) (h1 : Nat → Int32) (h2 : Nat → Int32) (gv_acts : Value) (gv_kind : Value) (gv_na : Value) (gv_nb : Value) (gv_nc : Value) (gv_nd : Value) (gv_ne : Value) (gv_dropped : Value) (gv_live : Value) (gv_low : Value) (gv_high : Value) (gv_sites : Value) (gv_nulls : Value) (gv_there : Value) (gv_lanes : Value) (gv_least : Value) (gv_most : Value) (gv_placeLow : Value) (gv_placeHigh : Value) (gv_reached : Value) (gv_mayThrow : Value) (gv_status : Value) (gv_hasRun : Value) (gv_threw : Value) (gv_whereThrown : Value) (gv_laneOf : Value) (gv_sizeOf : Value) (gv_cells : Value) (gv_copied : Value) (gv_state : Value) (gv_joinedLow : Value) (gv_joinedHigh : Value) (gv_keptLow : Value) (gv_keptHigh : Value) (ra : Int32) : va_W := [(gh, .inr (5, [gv_acts, gv_kind, gv_na, gv_nb, gv_nc, gv_nd, gv_ne, gv_dropped, gv_live, gv_low, gv_high, gv_sites, gv_nulls, gv_there, gv_lanes, gv_least, gv_most, gv_placeLow, gv_placeHigh, gv_reached, gv_mayThrow, gv_status, gv_hasRun, gv_threw, gv_whereThrown, .ref g1, .ref g2, gv_laneOf, gv_sizeOf, gv_cells, gv_copied, gv_state, gv_joinedLow, gv_joinedHigh, gv_keptLow, gv_keptHigh])), (g1, .inl (cI, 6, .inl (ov h1 6 0))), (g2, .inl (cI, 6, .inl (ov h2 6 (-1))))]
set_option maxHeartbeats 4000000 in
set_option maxRecDepth 100000 in
theorem c_X5_length (l : Launch) (dC : Nat → ClassId) (dI : Nat → Nat → Nat) (cI cJ cZ : ClassId) (gh : Nat) (g1 : Nat) (g2 : Nat) (h1 : Nat → Int32) (h2 : Nat → Int32) (gv_acts : Value) (gv_kind : Value) (gv_na : Value) (gv_nb : Value) (gv_nc : Value) (gv_nd : Value) (gv_ne : Value) (gv_dropped : Value) (gv_live : Value) (gv_low : Value) (gv_high : Value) (gv_sites : Value) (gv_nulls : Value) (gv_there : Value) (gv_lanes : Value) (gv_least : Value) (gv_most : Value) (gv_placeLow : Value) (gv_placeHigh : Value) (gv_reached : Value) (gv_mayThrow : Value) (gv_status : Value) (gv_hasRun : Value) (gv_threw : Value) (gv_whereThrown : Value) (gv_laneOf : Value) (gv_sizeOf : Value) (gv_cells : Value) (gv_copied : Value) (gv_state : Value) (gv_joinedLow : Value) (gv_joinedHigh : Value) (gv_keptLow : Value) (gv_keptHigh : Value) (ra : Int32) (sz : Nat) : Met l yX5_length w_X5_length ({ frames := 1, cells := 0, slots := 0, locals := 20 }) (va_Pc [.ref gh, .int ra] (cPre dC dI cI cJ cZ sz (pw_X5_length cI cJ cZ gh g1 g2 h1 h2 gv_acts gv_kind gv_na gv_nb gv_nc gv_nd gv_ne gv_dropped gv_live gv_low gv_high gv_sites gv_nulls gv_there gv_lanes gv_least gv_most gv_placeLow gv_placeHigh gv_reached gv_mayThrow gv_status gv_hasRun gv_threw gv_whereThrown gv_laneOf gv_sizeOf gv_cells gv_copied gv_state gv_joinedLow gv_joinedHigh gv_keptLow gv_keptHigh ra))) (va_Qi (fun (r : Int32) (u : Nat → Nat) => two r (V6 ra) (-1) (-2)) (fun (u : Nat → Nat) => cPost dC dI cI cJ cZ (va_A (pw_X5_length cI cJ cZ gh g1 g2 h1 h2 gv_acts gv_kind gv_na gv_nb gv_nc gv_nd gv_ne gv_dropped gv_live gv_low gv_high gv_sites gv_nulls gv_there gv_lanes gv_least gv_most gv_placeLow gv_placeHigh gv_reached gv_mayThrow gv_status gv_hasRun gv_threw gv_whereThrown gv_laneOf gv_sizeOf gv_cells gv_copied gv_state gv_joinedLow gv_joinedHigh gv_keptLow gv_keptHigh ra) sz) []) (va_A (pw_X5_length cI cJ cZ gh g1 g2 h1 h2 gv_acts gv_kind gv_na gv_nb gv_nc gv_nd gv_ne gv_dropped gv_live gv_low gv_high gv_sites gv_nulls gv_there gv_lanes gv_least gv_most gv_placeLow gv_placeHigh gv_reached gv_mayThrow gv_status gv_hasRun gv_threw gv_whereThrown gv_laneOf gv_sizeOf gv_cells gv_copied gv_state gv_joinedLow gv_joinedHigh gv_keptLow gv_keptHigh ra) sz)) 0 0 (va_A (pw_X5_length cI cJ cZ gh g1 g2 h1 h2 gv_acts gv_kind gv_na gv_nb gv_nc gv_nd gv_ne gv_dropped gv_live gv_low gv_high gv_sites gv_nulls gv_there gv_lanes gv_least gv_most gv_placeLow gv_placeHigh gv_reached gv_mayThrow gv_status gv_hasRun gv_threw gv_whereThrown gv_laneOf gv_sizeOf gv_cells gv_copied gv_state gv_joinedLow gv_joinedHigh gv_keptLow gv_keptHigh ra) sz) := by
  refine Met.ofW (cc := cX5_length) (maxL := 2) (ret := (some .int)) (by decide) rfl ?_
  intro p e s m args below meth c s₁ B hml hv
  obtain ⟨rfl, hsz, hP, hK, hD0, hN⟩ := hv
  have hx := B.exec
  have hb := B.bytes
  have hr := B.returns
  have hts := atoms_spec (ws := w_X5_length) B.pre
  have hown : s.vm.findClass RX5 = some m.cls := findClass_of_methodNamed B.named
  have hlocks := B.notSynchronized
  subst hsz
  have hD := hD0.self (sz := s.heap.size)
  generalize hAe : va_A (pw_X5_length cI cJ cZ gh g1 g2 h1 h2 gv_acts gv_kind gv_na gv_nb gv_nc gv_nd gv_ne gv_dropped gv_live gv_low gv_high gv_sites gv_nulls gv_there gv_lanes gv_least gv_most gv_placeLow gv_placeHigh gv_reached gv_mayThrow gv_status gv_hasRun gv_threw gv_whereThrown gv_laneOf gv_sizeOf gv_cells gv_copied gv_state gv_joinedLow gv_joinedHigh gv_keptLow gv_keptHigh ra) s.heap.size = A at hD ⊢
  have hA : ∀ q : Nat, s.heap.size ≤ q → A q := fun q h => by rw [← hAe]; exact Or.inr h
  clear hAe hD0
  have hS : va_S A s.heap s.heap [] := va_S.rf
  replace hP : va_P (dC, dI) vwCl [(gh, .inr (5, [gv_acts, gv_kind, gv_na, gv_nb, gv_nc, gv_nd, gv_ne, gv_dropped, gv_live, gv_low, gv_high, gv_sites, gv_nulls, gv_there, gv_lanes, gv_least, gv_most, gv_placeLow, gv_placeHigh, gv_reached, gv_mayThrow, gv_status, gv_hasRun, gv_threw, gv_whereThrown, .ref g1, .ref g2, gv_laneOf, gv_sizeOf, gv_cells, gv_copied, gv_state, gv_joinedLow, gv_joinedHigh, gv_keptLow, gv_keptHigh])), (g1, .inl (cI, 6, .inl (ov h1 6 0))), (g2, .inl (cI, 6, .inl (ov h2 6 (-1))))] s.heap := hP
  replace hD : va_D A [(gh, .inr (5, [gv_acts, gv_kind, gv_na, gv_nb, gv_nc, gv_nd, gv_ne, gv_dropped, gv_live, gv_low, gv_high, gv_sites, gv_nulls, gv_there, gv_lanes, gv_least, gv_most, gv_placeLow, gv_placeHigh, gv_reached, gv_mayThrow, gv_status, gv_hasRun, gv_threw, gv_whereThrown, .ref g1, .ref g2, gv_laneOf, gv_sizeOf, gv_cells, gv_copied, gv_state, gv_joinedLow, gv_joinedHigh, gv_keptLow, gv_keptHigh])), (g1, .inl (cI, 6, .inl (ov h1 6 0))), (g2, .inl (cI, 6, .inl (ov h2 6 (-1))))] := hD
  have hl := lv_entry ([.ref gh, .int ra]) (n := 2) (Nat.le_of_ble_eq_true rfl)
  rw [lg_entry_eq]
  generalize (lg_sl ([.ref gh, .int ra]) ++ List.replicate (2 - (lg_sl ([.ref gh, .int ra])).length) Slot.unset).toArray = ls at hl ⊢
  replace hl : lv_has ls 2 [(0, .ref gh), (1, .int ra)] := hl
  refine lv_iload_n hx hb dX5_length_0 rfl (lv_at hl 1 rfl) ?_
  refine vp_callSi (va_runS (As := [.int ra]) (rest := []) ⟨hx, hb, hml, hown, hts⟩ (c_X5_isName l ra) (va_cwS 1 hts g_X5_length_X5_isName_115 rfl rfl rfl (by decide +kernel) ⟨Nat.le_of_ble_eq_true rfl, Nat.le_of_ble_eq_true rfl⟩) ⟨fun _ _ _ _ q => q, fun _ _ _ => ⟨rfl, trivial⟩⟩ rfl rfl hl.1 rfl (lv_room (Nat.le_of_ble_eq_true rfl)) dX5_length_1 ⟨Nat.le_of_ble_eq_true rfl, Nat.le_of_ble_eq_true rfl⟩).run (fun r_1 hw_1 => ?_)
  refine lv_if_ne (tgt := 12) hx hb dX5_length_4 (by decide) (fun c_2 => ?_) (fun c_2 => ?_)
  · -- yes
    have k_2 : V6 ra := two_nz hw_1 c_2
    refine lv_aload_n hx hb dX5_length_12 rfl (lv_at hl 0 rfl) ?_
    refine va_get (D := (dC, dI)) (ci := 5) (v := .ref g2) (C := RX5) (T := TX5) (N := 36) hx hb hts inc_X5_length_X5 hown hK hP 0 rfl rfl 26 (by decide) (hts (.fieldLink RX5 75 "ArraySegmentsModel" "means" "[I") (List.mem_of_getElem? (i := 5) rfl)) (fun _ h9 => h9) rfl dX5_length_13 ?_
    refine lv_iload_n hx hb dX5_length_16 rfl (lv_at hl 1 rfl) ?_
    refine va_iald hx hb hK hP 2 0 rfl rfl (v6_in k_2) dX5_length_17 ?_
    refine my_topi (y := (-1)) (ov_v6 h2 (-1) k_2) ?_
    refine lv_if_ge (tgt := 25) hx hb dX5_length_18 (by decide) (fun c_3 => ?_) (fun c_3 => ?_)
    · exact absurd c_3 (by decide)
    · -- on
      refine lv_iconst (v := (-1)) hx hb dX5_length_21 (by decide) ?_
      refine lv_goto (tgt := 36) hx hb dX5_length_22 (by decide) ?_
      have hP9 := hP.sub (ws' := []) [] rfl
      have hD9 := hD.sub (ws' := []) [] (by decide) rfl
      exact W.iret (v := (-1)) hx hb hr (fun t ht hW => ⟨⟨(-1), (fun _ => 0), rfl, (by refine Or.inl ⟨rfl, ?_⟩; first | assumption | omega), by rw [ht]; exact hP9, va_K.moved hW.alike hK, hD9⟩, hS.F ht⟩) hS.2.2 dX5_length_36
  · -- no
    have k_2 : ¬ (V6 ra) := two_z hw_1 c_2
    refine lv_bipush (v := (-2)) hx hb dX5_length_7 (by decide) ?_
    refine lv_goto (tgt := 36) hx hb dX5_length_9 (by decide) ?_
    have hP9 := hP.sub (ws' := []) [] rfl
    have hD9 := hD.sub (ws' := []) [] (by decide) rfl
    exact W.iret (v := (-2)) hx hb hr (fun t ht hW => ⟨⟨(-2), (fun _ => 0), rfl, (by refine Or.inr ⟨rfl, ?_⟩; first | assumption | omega), by rw [ht]; exact hP9, va_K.moved hW.alike hK, hD9⟩, hS.F ht⟩) hS.2.2 dX5_length_36

def w_X5_same : List Cond := .code yX5_same cX5_same 3 (some .int) :: ([.methodLink RX5 115 yX5_isName, .static yX5_isName, .initialized RX5, .code yX5_isName cX5_isName 1 (some .boolean), .fieldLink RX5 99 "ArraySegmentsModel" "hasRun" "Z"] ++ wsX50)
theorem inc_X5_same_X5 : ∀ w ∈ wsX50, w ∈ w_X5_same := fun _ h => List.mem_cons_of_mem _ (List.mem_append_right _ h)
set_option maxRecDepth 20000 in
theorem g_X5_same_X5_isName_115 : GoodIn w_X5_same (va_wsS RX5 115 yX5_isName w_X5_isName) := goodIn_r _ [1, 2, 3, 4] (by decide +kernel) (by decide +kernel)
abbrev pw_X5_same (cI cJ cZ : ClassId) (gh : Nat) (gv_acts : Value) (gv_kind : Value) (gv_na : Value) (gv_nb : Value) (gv_nc : Value) (gv_nd : Value) (gv_ne : Value) (gv_dropped : Value) (gv_live : Value) (gv_low : Value) (gv_high : Value) (gv_sites : Value) (gv_nulls : Value) (gv_there : Value) (gv_lanes : Value) (gv_least : Value) (gv_most : Value) (gv_placeLow : Value) (gv_placeHigh : Value) (gv_reached : Value) (gv_mayThrow : Value) (gv_status : Value) (gv_threw : Value) (gv_whereThrown : Value) (gv_value : Value) (gv_means : Value) (gv_laneOf : Value) (gv_sizeOf : Value) (gv_cells : Value) (gv_copied : Value) (gv_state : Value) (gv_joinedLow : Value) (gv_joinedHigh : Value) (gv_keptLow : Value) (gv_keptHigh : Value) (ra : Int32) (sa : Int32) : va_W := [(gh, .inr (5, [gv_acts, gv_kind, gv_na, gv_nb, gv_nc, gv_nd, gv_ne, gv_dropped, gv_live, gv_low, gv_high, gv_sites, gv_nulls, gv_there, gv_lanes, gv_least, gv_most, gv_placeLow, gv_placeHigh, gv_reached, gv_mayThrow, gv_status, .int 0, gv_threw, gv_whereThrown, gv_value, gv_means, gv_laneOf, gv_sizeOf, gv_cells, gv_copied, gv_state, gv_joinedLow, gv_joinedHigh, gv_keptLow, gv_keptHigh]))]
set_option maxHeartbeats 4000000 in
set_option maxRecDepth 100000 in
theorem c_X5_same (l : Launch) (dC : Nat → ClassId) (dI : Nat → Nat → Nat) (cI cJ cZ : ClassId) (gh : Nat) (gv_acts : Value) (gv_kind : Value) (gv_na : Value) (gv_nb : Value) (gv_nc : Value) (gv_nd : Value) (gv_ne : Value) (gv_dropped : Value) (gv_live : Value) (gv_low : Value) (gv_high : Value) (gv_sites : Value) (gv_nulls : Value) (gv_there : Value) (gv_lanes : Value) (gv_least : Value) (gv_most : Value) (gv_placeLow : Value) (gv_placeHigh : Value) (gv_reached : Value) (gv_mayThrow : Value) (gv_status : Value) (gv_threw : Value) (gv_whereThrown : Value) (gv_value : Value) (gv_means : Value) (gv_laneOf : Value) (gv_sizeOf : Value) (gv_cells : Value) (gv_copied : Value) (gv_state : Value) (gv_joinedLow : Value) (gv_joinedHigh : Value) (gv_keptLow : Value) (gv_keptHigh : Value) (ra : Int32) (sa : Int32) (sz : Nat) : Met l yX5_same w_X5_same ({ frames := 1, cells := 0, slots := 0, locals := 20 }) (va_Pc [.ref gh, .int ra, .int sa] (cPre dC dI cI cJ cZ sz (pw_X5_same cI cJ cZ gh gv_acts gv_kind gv_na gv_nb gv_nc gv_nd gv_ne gv_dropped gv_live gv_low gv_high gv_sites gv_nulls gv_there gv_lanes gv_least gv_most gv_placeLow gv_placeHigh gv_reached gv_mayThrow gv_status gv_threw gv_whereThrown gv_value gv_means gv_laneOf gv_sizeOf gv_cells gv_copied gv_state gv_joinedLow gv_joinedHigh gv_keptLow gv_keptHigh ra sa))) (va_Qi (fun (r : Int32) (u : Nat → Nat) => two r (V6 ra ∧ V6 sa) (-3) (-2)) (fun (u : Nat → Nat) => cPost dC dI cI cJ cZ (va_A (pw_X5_same cI cJ cZ gh gv_acts gv_kind gv_na gv_nb gv_nc gv_nd gv_ne gv_dropped gv_live gv_low gv_high gv_sites gv_nulls gv_there gv_lanes gv_least gv_most gv_placeLow gv_placeHigh gv_reached gv_mayThrow gv_status gv_threw gv_whereThrown gv_value gv_means gv_laneOf gv_sizeOf gv_cells gv_copied gv_state gv_joinedLow gv_joinedHigh gv_keptLow gv_keptHigh ra sa) sz) []) (va_A (pw_X5_same cI cJ cZ gh gv_acts gv_kind gv_na gv_nb gv_nc gv_nd gv_ne gv_dropped gv_live gv_low gv_high gv_sites gv_nulls gv_there gv_lanes gv_least gv_most gv_placeLow gv_placeHigh gv_reached gv_mayThrow gv_status gv_threw gv_whereThrown gv_value gv_means gv_laneOf gv_sizeOf gv_cells gv_copied gv_state gv_joinedLow gv_joinedHigh gv_keptLow gv_keptHigh ra sa) sz)) 0 0 (va_A (pw_X5_same cI cJ cZ gh gv_acts gv_kind gv_na gv_nb gv_nc gv_nd gv_ne gv_dropped gv_live gv_low gv_high gv_sites gv_nulls gv_there gv_lanes gv_least gv_most gv_placeLow gv_placeHigh gv_reached gv_mayThrow gv_status gv_threw gv_whereThrown gv_value gv_means gv_laneOf gv_sizeOf gv_cells gv_copied gv_state gv_joinedLow gv_joinedHigh gv_keptLow gv_keptHigh ra sa) sz) := by
  refine Met.ofW (cc := cX5_same) (maxL := 3) (ret := (some .int)) (by decide) rfl ?_
  intro p e s m args below meth c s₁ B hml hv
  obtain ⟨rfl, hsz, hP, hK, hD0, hN⟩ := hv
  have hx := B.exec
  have hb := B.bytes
  have hr := B.returns
  have hts := atoms_spec (ws := w_X5_same) B.pre
  have hown : s.vm.findClass RX5 = some m.cls := findClass_of_methodNamed B.named
  have hlocks := B.notSynchronized
  subst hsz
  have hD := hD0.self (sz := s.heap.size)
  generalize hAe : va_A (pw_X5_same cI cJ cZ gh gv_acts gv_kind gv_na gv_nb gv_nc gv_nd gv_ne gv_dropped gv_live gv_low gv_high gv_sites gv_nulls gv_there gv_lanes gv_least gv_most gv_placeLow gv_placeHigh gv_reached gv_mayThrow gv_status gv_threw gv_whereThrown gv_value gv_means gv_laneOf gv_sizeOf gv_cells gv_copied gv_state gv_joinedLow gv_joinedHigh gv_keptLow gv_keptHigh ra sa) s.heap.size = A at hD ⊢
  have hA : ∀ q : Nat, s.heap.size ≤ q → A q := fun q h => by rw [← hAe]; exact Or.inr h
  clear hAe hD0
  have hS : va_S A s.heap s.heap [] := va_S.rf
  replace hP : va_P (dC, dI) vwCl [(gh, .inr (5, [gv_acts, gv_kind, gv_na, gv_nb, gv_nc, gv_nd, gv_ne, gv_dropped, gv_live, gv_low, gv_high, gv_sites, gv_nulls, gv_there, gv_lanes, gv_least, gv_most, gv_placeLow, gv_placeHigh, gv_reached, gv_mayThrow, gv_status, .int 0, gv_threw, gv_whereThrown, gv_value, gv_means, gv_laneOf, gv_sizeOf, gv_cells, gv_copied, gv_state, gv_joinedLow, gv_joinedHigh, gv_keptLow, gv_keptHigh]))] s.heap := hP
  replace hD : va_D A [(gh, .inr (5, [gv_acts, gv_kind, gv_na, gv_nb, gv_nc, gv_nd, gv_ne, gv_dropped, gv_live, gv_low, gv_high, gv_sites, gv_nulls, gv_there, gv_lanes, gv_least, gv_most, gv_placeLow, gv_placeHigh, gv_reached, gv_mayThrow, gv_status, .int 0, gv_threw, gv_whereThrown, gv_value, gv_means, gv_laneOf, gv_sizeOf, gv_cells, gv_copied, gv_state, gv_joinedLow, gv_joinedHigh, gv_keptLow, gv_keptHigh]))] := hD
  have hl := lv_entry ([.ref gh, .int ra, .int sa]) (n := 3) (Nat.le_of_ble_eq_true rfl)
  rw [lg_entry_eq]
  generalize (lg_sl ([.ref gh, .int ra, .int sa]) ++ List.replicate (3 - (lg_sl ([.ref gh, .int ra, .int sa])).length) Slot.unset).toArray = ls at hl ⊢
  replace hl : lv_has ls 3 [(0, .ref gh), (1, .int ra), (2, .int sa)] := hl
  refine lv_iload_n hx hb dX5_same_0 rfl (lv_at hl 1 rfl) ?_
  refine vp_callSi (va_runS (As := [.int ra]) (rest := []) ⟨hx, hb, hml, hown, hts⟩ (c_X5_isName l ra) (va_cwS 1 hts g_X5_same_X5_isName_115 rfl rfl rfl (by decide +kernel) ⟨Nat.le_of_ble_eq_true rfl, Nat.le_of_ble_eq_true rfl⟩) ⟨fun _ _ _ _ q => q, fun _ _ _ => ⟨rfl, trivial⟩⟩ rfl rfl hl.1 rfl (lv_room (Nat.le_of_ble_eq_true rfl)) dX5_same_1 ⟨Nat.le_of_ble_eq_true rfl, Nat.le_of_ble_eq_true rfl⟩).run (fun r_1 hw_1 => ?_)
  refine lv_if_eq (tgt := 14) hx hb dX5_same_4 (by decide) (fun c_2 => ?_) (fun c_2 => ?_)
  · -- yes
    have k_2 : ¬ (V6 ra) := two_z hw_1 c_2
    refine lv_bipush (v := (-2)) hx hb dX5_same_14 (by decide) ?_
    have hP9 := hP.sub (ws' := []) [] rfl
    have hD9 := hD.sub (ws' := []) [] (by decide) rfl
    exact W.iret (v := (-2)) hx hb hr (fun t ht hW => ⟨⟨(-2), (fun _ => 0), rfl, (by refine Or.inr ⟨rfl, ?_⟩; first | assumption | omega), by rw [ht]; exact hP9, va_K.moved hW.alike hK, hD9⟩, hS.F ht⟩) hS.2.2 dX5_same_16
  · -- no
    have k_2 : V6 ra := two_nz hw_1 c_2
    refine lv_iload_n hx hb dX5_same_7 rfl (lv_at hl 2 rfl) ?_
    refine vp_callSi (va_runS (As := [.int sa]) (rest := []) ⟨hx, hb, hml, hown, hts⟩ (c_X5_isName l sa) (va_cwS 1 hts g_X5_same_X5_isName_115 rfl rfl rfl (by decide +kernel) ⟨Nat.le_of_ble_eq_true rfl, Nat.le_of_ble_eq_true rfl⟩) ⟨fun _ _ _ _ q => q, fun _ _ _ => ⟨rfl, trivial⟩⟩ rfl rfl hl.1 rfl (lv_room (Nat.le_of_ble_eq_true rfl)) dX5_same_8 ⟨Nat.le_of_ble_eq_true rfl, Nat.le_of_ble_eq_true rfl⟩).run (fun r_3 hw_3 => ?_)
    refine lv_if_ne (tgt := 17) hx hb dX5_same_11 (by decide) (fun c_4 => ?_) (fun c_4 => ?_)
    · -- yes
      have k_4 : V6 sa := two_nz hw_3 c_4
      refine lv_aload_n hx hb dX5_same_17 rfl (lv_at hl 0 rfl) ?_
      refine va_get (D := (dC, dI)) (ci := 5) (v := .int 0) (C := RX5) (T := TX5) (N := 36) hx hb hts inc_X5_same_X5 hown hK hP 0 rfl rfl 22 (by decide) (hts (.fieldLink RX5 99 "ArraySegmentsModel" "hasRun" "Z") (List.mem_of_getElem? (i := 5) rfl)) (fun _ h9 => h9) rfl dX5_same_18 ?_
      refine lv_if_ne (tgt := 29) hx hb dX5_same_21 (by decide) (fun c_5 => ?_) (fun c_5 => ?_)
      · exact absurd (by decide) c_5
      · -- on
        refine lv_bipush (v := (-3)) hx hb dX5_same_24 (by decide) ?_
        refine lv_goto (tgt := 49) hx hb dX5_same_26 (by decide) ?_
        have hP9 := hP.sub (ws' := []) [] rfl
        have hD9 := hD.sub (ws' := []) [] (by decide) rfl
        exact W.iret (v := (-3)) hx hb hr (fun t ht hW => ⟨⟨(-3), (fun _ => 0), rfl, (by refine Or.inl ⟨rfl, ?_⟩; first | assumption | omega), by rw [ht]; exact hP9, va_K.moved hW.alike hK, hD9⟩, hS.F ht⟩) hS.2.2 dX5_same_49
    · -- no
      have k_4 : ¬ (V6 sa) := two_z hw_3 c_4
      refine lv_bipush (v := (-2)) hx hb dX5_same_14 (by decide) ?_
      have hP9 := hP.sub (ws' := []) [] rfl
      have hD9 := hD.sub (ws' := []) [] (by decide) rfl
      exact W.iret (v := (-2)) hx hb hr (fun t ht hW => ⟨⟨(-2), (fun _ => 0), rfl, (by refine Or.inr ⟨rfl, ?_⟩; first | assumption | omega), by rw [ht]; exact hP9, va_K.moved hW.alike hK, hD9⟩, hS.F ht⟩) hS.2.2 dX5_same_16

def w_X5_isSo : List Cond := .code yX5_isSo cX5_isSo 6 (some .boolean) :: ([.fieldLink RX5 75 "ArraySegmentsModel" "means" "[I", .fieldLink RX5 45 "ArraySegmentsModel" "nulls" "[Z"] ++ wsX50)
theorem inc_X5_isSo_X5 : ∀ w ∈ wsX50, w ∈ w_X5_isSo := fun _ h => List.mem_cons_of_mem _ (List.mem_append_right _ h)
abbrev pw_X5_isSo (cI cJ cZ : ClassId) (gh : Nat) (gv_acts : Value) (gv_kind : Value) (gv_na : Value) (gv_nb : Value) (gv_nc : Value) (gv_nd : Value) (gv_ne : Value) (gv_dropped : Value) (gv_live : Value) (gv_low : Value) (gv_high : Value) (gv_sites : Value) (gv_there : Value) (gv_lanes : Value) (gv_least : Value) (gv_most : Value) (gv_placeLow : Value) (gv_placeHigh : Value) (gv_reached : Value) (gv_mayThrow : Value) (gv_status : Value) (gv_hasRun : Value) (gv_threw : Value) (gv_whereThrown : Value) (gv_value : Value) (gv_laneOf : Value) (gv_sizeOf : Value) (gv_cells : Value) (gv_copied : Value) (gv_state : Value) (gv_joinedLow : Value) (gv_joinedHigh : Value) (gv_keptLow : Value) (gv_keptHigh : Value) (g2 : Nat) (e4 : Nat) (h2 : Nat → Int32) (t4 : Nat → Int32) (ra : Int32) : va_W := [(gh, .inr (5, [gv_acts, gv_kind, gv_na, gv_nb, gv_nc, gv_nd, gv_ne, gv_dropped, gv_live, gv_low, gv_high, gv_sites, .ref e4, gv_there, gv_lanes, gv_least, gv_most, gv_placeLow, gv_placeHigh, gv_reached, gv_mayThrow, gv_status, gv_hasRun, gv_threw, gv_whereThrown, gv_value, .ref g2, gv_laneOf, gv_sizeOf, gv_cells, gv_copied, gv_state, gv_joinedLow, gv_joinedHigh, gv_keptLow, gv_keptHigh])), (g2, .inl (cI, 6, .inl (ov h2 6 (-1)))), (e4, .inl (cZ, 12, .inl (ov t4 6 1)))]
set_option maxHeartbeats 4000000 in
set_option maxRecDepth 100000 in
theorem c_X5_isSo (l : Launch) (dC : Nat → ClassId) (dI : Nat → Nat → Nat) (cI cJ cZ : ClassId) (gh : Nat) (gv_acts : Value) (gv_kind : Value) (gv_na : Value) (gv_nb : Value) (gv_nc : Value) (gv_nd : Value) (gv_ne : Value) (gv_dropped : Value) (gv_live : Value) (gv_low : Value) (gv_high : Value) (gv_sites : Value) (gv_there : Value) (gv_lanes : Value) (gv_least : Value) (gv_most : Value) (gv_placeLow : Value) (gv_placeHigh : Value) (gv_reached : Value) (gv_mayThrow : Value) (gv_status : Value) (gv_hasRun : Value) (gv_threw : Value) (gv_whereThrown : Value) (gv_value : Value) (gv_laneOf : Value) (gv_sizeOf : Value) (gv_cells : Value) (gv_copied : Value) (gv_state : Value) (gv_joinedLow : Value) (gv_joinedHigh : Value) (gv_keptLow : Value) (gv_keptHigh : Value) (g2 : Nat) (e4 : Nat) (h2 : Nat → Int32) (t4 : Nat → Int32) (ra : Int32) (sz : Nat) (hra : V6 ra) : Met l yX5_isSo w_X5_isSo ({ frames := 0, cells := 0, slots := 0, locals := 0 }) (va_Pc [.ref gh, .int ra] (cPre dC dI cI cJ cZ sz (pw_X5_isSo cI cJ cZ gh gv_acts gv_kind gv_na gv_nb gv_nc gv_nd gv_ne gv_dropped gv_live gv_low gv_high gv_sites gv_there gv_lanes gv_least gv_most gv_placeLow gv_placeHigh gv_reached gv_mayThrow gv_status gv_hasRun gv_threw gv_whereThrown gv_value gv_laneOf gv_sizeOf gv_cells gv_copied gv_state gv_joinedLow gv_joinedHigh gv_keptLow gv_keptHigh g2 e4 h2 t4 ra))) (va_Qi (fun (r : Int32) (u : Nat → Nat) => r = 1) (fun (u : Nat → Nat) => cPost dC dI cI cJ cZ (va_A (pw_X5_isSo cI cJ cZ gh gv_acts gv_kind gv_na gv_nb gv_nc gv_nd gv_ne gv_dropped gv_live gv_low gv_high gv_sites gv_there gv_lanes gv_least gv_most gv_placeLow gv_placeHigh gv_reached gv_mayThrow gv_status gv_hasRun gv_threw gv_whereThrown gv_value gv_laneOf gv_sizeOf gv_cells gv_copied gv_state gv_joinedLow gv_joinedHigh gv_keptLow gv_keptHigh g2 e4 h2 t4 ra) sz) [(gh, .inr (5, [gv_acts, gv_kind, gv_na, gv_nb, gv_nc, gv_nd, gv_ne, gv_dropped, gv_live, gv_low, gv_high, gv_sites, .ref e4, gv_there, gv_lanes, gv_least, gv_most, gv_placeLow, gv_placeHigh, gv_reached, gv_mayThrow, gv_status, gv_hasRun, gv_threw, gv_whereThrown, gv_value, .ref g2, gv_laneOf, gv_sizeOf, gv_cells, gv_copied, gv_state, gv_joinedLow, gv_joinedHigh, gv_keptLow, gv_keptHigh])), (g2, .inl (cI, 6, .inl (ov h2 6 (-1)))), (e4, .inl (cZ, 12, .inl (ov t4 6 1)))]) (va_A (pw_X5_isSo cI cJ cZ gh gv_acts gv_kind gv_na gv_nb gv_nc gv_nd gv_ne gv_dropped gv_live gv_low gv_high gv_sites gv_there gv_lanes gv_least gv_most gv_placeLow gv_placeHigh gv_reached gv_mayThrow gv_status gv_hasRun gv_threw gv_whereThrown gv_value gv_laneOf gv_sizeOf gv_cells gv_copied gv_state gv_joinedLow gv_joinedHigh gv_keptLow gv_keptHigh g2 e4 h2 t4 ra) sz)) 0 0 (va_A (pw_X5_isSo cI cJ cZ gh gv_acts gv_kind gv_na gv_nb gv_nc gv_nd gv_ne gv_dropped gv_live gv_low gv_high gv_sites gv_there gv_lanes gv_least gv_most gv_placeLow gv_placeHigh gv_reached gv_mayThrow gv_status gv_hasRun gv_threw gv_whereThrown gv_value gv_laneOf gv_sizeOf gv_cells gv_copied gv_state gv_joinedLow gv_joinedHigh gv_keptLow gv_keptHigh g2 e4 h2 t4 ra) sz) := by
  refine Met.ofW (cc := cX5_isSo) (maxL := 6) (ret := (some .boolean)) (by decide) rfl ?_
  intro p e s m args below meth c s₁ B hml hv
  obtain ⟨rfl, hsz, hP, hK, hD0, hN⟩ := hv
  have hx := B.exec
  have hb := B.bytes
  have hr := B.returns
  have hts := atoms_spec (ws := w_X5_isSo) B.pre
  have hown : s.vm.findClass RX5 = some m.cls := findClass_of_methodNamed B.named
  have hlocks := B.notSynchronized
  subst hsz
  have hD := hD0.self (sz := s.heap.size)
  generalize hAe : va_A (pw_X5_isSo cI cJ cZ gh gv_acts gv_kind gv_na gv_nb gv_nc gv_nd gv_ne gv_dropped gv_live gv_low gv_high gv_sites gv_there gv_lanes gv_least gv_most gv_placeLow gv_placeHigh gv_reached gv_mayThrow gv_status gv_hasRun gv_threw gv_whereThrown gv_value gv_laneOf gv_sizeOf gv_cells gv_copied gv_state gv_joinedLow gv_joinedHigh gv_keptLow gv_keptHigh g2 e4 h2 t4 ra) s.heap.size = A at hD ⊢
  have hA : ∀ q : Nat, s.heap.size ≤ q → A q := fun q h => by rw [← hAe]; exact Or.inr h
  clear hAe hD0
  have hS : va_S A s.heap s.heap [] := va_S.rf
  replace hP : va_P (dC, dI) vwCl [(gh, .inr (5, [gv_acts, gv_kind, gv_na, gv_nb, gv_nc, gv_nd, gv_ne, gv_dropped, gv_live, gv_low, gv_high, gv_sites, .ref e4, gv_there, gv_lanes, gv_least, gv_most, gv_placeLow, gv_placeHigh, gv_reached, gv_mayThrow, gv_status, gv_hasRun, gv_threw, gv_whereThrown, gv_value, .ref g2, gv_laneOf, gv_sizeOf, gv_cells, gv_copied, gv_state, gv_joinedLow, gv_joinedHigh, gv_keptLow, gv_keptHigh])), (g2, .inl (cI, 6, .inl (ov h2 6 (-1)))), (e4, .inl (cZ, 12, .inl (ov t4 6 1)))] s.heap := hP
  replace hD : va_D A [(gh, .inr (5, [gv_acts, gv_kind, gv_na, gv_nb, gv_nc, gv_nd, gv_ne, gv_dropped, gv_live, gv_low, gv_high, gv_sites, .ref e4, gv_there, gv_lanes, gv_least, gv_most, gv_placeLow, gv_placeHigh, gv_reached, gv_mayThrow, gv_status, gv_hasRun, gv_threw, gv_whereThrown, gv_value, .ref g2, gv_laneOf, gv_sizeOf, gv_cells, gv_copied, gv_state, gv_joinedLow, gv_joinedHigh, gv_keptLow, gv_keptHigh])), (g2, .inl (cI, 6, .inl (ov h2 6 (-1)))), (e4, .inl (cZ, 12, .inl (ov t4 6 1)))] := hD
  have hl := lv_entry ([.ref gh, .int ra]) (n := 6) (Nat.le_of_ble_eq_true rfl)
  rw [lg_entry_eq]
  generalize (lg_sl ([.ref gh, .int ra]) ++ List.replicate (6 - (lg_sl ([.ref gh, .int ra])).length) Slot.unset).toArray = ls at hl ⊢
  replace hl : lv_has ls 6 [(0, .ref gh), (1, .int ra)] := hl
  refine lv_aload_n hx hb dX5_isSo_0 rfl (lv_at hl 0 rfl) ?_
  refine va_get (D := (dC, dI)) (ci := 5) (v := .ref g2) (C := RX5) (T := TX5) (N := 36) hx hb hts inc_X5_isSo_X5 hown hK hP 0 rfl rfl 26 (by decide) (hts (.fieldLink RX5 75 "ArraySegmentsModel" "means" "[I") (List.mem_of_getElem? (i := 1) rfl)) (fun _ h9 => h9) rfl dX5_isSo_1 ?_
  refine lv_iload_n hx hb dX5_isSo_4 rfl (lv_at hl 1 rfl) ?_
  refine va_iald hx hb hK hP 1 0 rfl rfl (v6_in hra) dX5_isSo_5 ?_
  refine my_topi (y := (-1)) (ov_v6 h2 (-1) hra) ?_
  refine lv_istore_n (lv' := [(2, .int (-1)), (0, .ref gh), (1, .int ra)]) hx hb dX5_isSo_6 rfl hl (by decide) rfl (fun ls1 hl1 => ?_)
  replace hl := hl1; clear hl1
  refine lv_iload_n hx hb dX5_isSo_7 rfl (lv_at hl 0 rfl) ?_
  refine lv_if_ge (tgt := 18) hx hb dX5_isSo_8 (by decide) (fun c_1 => ?_) (fun c_1 => ?_)
  · exact absurd c_1 (by decide)
  · -- on
    refine lv_aload_n hx hb dX5_isSo_11 rfl (lv_at hl 1 rfl) ?_
    refine va_get (D := (dC, dI)) (ci := 5) (v := .ref e4) (C := RX5) (T := TX5) (N := 36) hx hb hts inc_X5_isSo_X5 hown hK hP 0 rfl rfl 12 (by decide) (hts (.fieldLink RX5 45 "ArraySegmentsModel" "nulls" "[Z") (List.mem_of_getElem? (i := 2) rfl)) (fun _ h9 => h9) rfl dX5_isSo_12 ?_
    refine lv_iload_n hx hb dX5_isSo_15 rfl (lv_at hl 2 rfl) ?_
    refine va_zald hx hb hK hP 2 2 rfl rfl (v6_in12 hra) dX5_isSo_16 ?_
    refine my_topi (y := 1) (ov_v6 t4 1 hra) ?_
    have hP9 := hP.sub (ws' := [(gh, .inr (5, [gv_acts, gv_kind, gv_na, gv_nb, gv_nc, gv_nd, gv_ne, gv_dropped, gv_live, gv_low, gv_high, gv_sites, .ref e4, gv_there, gv_lanes, gv_least, gv_most, gv_placeLow, gv_placeHigh, gv_reached, gv_mayThrow, gv_status, gv_hasRun, gv_threw, gv_whereThrown, gv_value, .ref g2, gv_laneOf, gv_sizeOf, gv_cells, gv_copied, gv_state, gv_joinedLow, gv_joinedHigh, gv_keptLow, gv_keptHigh])), (g2, .inl (cI, 6, .inl (ov h2 6 (-1)))), (e4, .inl (cZ, 12, .inl (ov t4 6 1)))]) [0, 1, 2] rfl
    have hD9 := hD.sub (ws' := [(gh, .inr (5, [gv_acts, gv_kind, gv_na, gv_nb, gv_nc, gv_nd, gv_ne, gv_dropped, gv_live, gv_low, gv_high, gv_sites, .ref e4, gv_there, gv_lanes, gv_least, gv_most, gv_placeLow, gv_placeHigh, gv_reached, gv_mayThrow, gv_status, gv_hasRun, gv_threw, gv_whereThrown, gv_value, .ref g2, gv_laneOf, gv_sizeOf, gv_cells, gv_copied, gv_state, gv_joinedLow, gv_joinedHigh, gv_keptLow, gv_keptHigh])), (g2, .inl (cI, 6, .inl (ov h2 6 (-1)))), (e4, .inl (cZ, 12, .inl (ov t4 6 1)))]) [0, 1, 2] (by decide) rfl
    exact W.zret (v := 1) (ty := .boolean) hx hb hr rfl (fun t ht hW => ⟨⟨1, (fun _ => 0), rfl, rfl, by rw [ht]; exact hP9, va_K.moved hW.alike hK, hD9⟩, hS.F ht⟩) hS.2.2 dX5_isSo_17

def w_X5_holds : List Cond := .code yX5_holds cX5_holds 6 (some .int) :: ([.methodLink RX5 318 yX5_run, .instanceMethod yX5_run, .selects RX5 yX5_run yX5_run, .initialized RX5, .code yX5_run cX5_run 5 (some .int), .methodLink RX5 96 yX5_forget, .instanceMethod yX5_forget, .selects RX5 yX5_forget yX5_forget, .code yX5_forget cX5_forget 2 none, .fieldLink RX5 99 "ArraySegmentsModel" "hasRun" "Z", .fieldLink RX5 103 "ArraySegmentsModel" "threw" "I", .fieldLink RX5 107 "ArraySegmentsModel" "whereThrown" "I", .fieldLink RX5 72 "ArraySegmentsModel" "value" "[I", .fieldLink RX5 75 "ArraySegmentsModel" "means" "[I", .fieldLink RX5 278 "ArraySegmentsModel" "state" "J", .fieldLink RX5 110 "ArraySegmentsModel" "acts" "I", .methodLink RX5 253 yX5_flow, .instanceMethod yX5_flow, .selects RX5 yX5_flow yX5_flow, .code yX5_flow cX5_flow 3 none, .fieldLink RX5 32 "ArraySegmentsModel" "live" "[Z", .fieldLink RX5 48 "ArraySegmentsModel" "there" "[Z", .fieldLink RX5 66 "ArraySegmentsModel" "reached" "[Z", .fieldLink RX5 69 "ArraySegmentsModel" "mayThrow" "[I", .fieldLink RX5 35 "ArraySegmentsModel" "low" "[J", .fieldLink RX5 39 "ArraySegmentsModel" "high" "[J", .fieldLink RX5 42 "ArraySegmentsModel" "sites" "[J", .fieldLink RX5 45 "ArraySegmentsModel" "nulls" "[Z", .methodLink RX5 321 yX5_isSo, .instanceMethod yX5_isSo, .selects RX5 yX5_isSo yX5_isSo, .code yX5_isSo cX5_isSo 6 (some .boolean)] ++ wsX50)
theorem inc_X5_holds_X5 : ∀ w ∈ wsX50, w ∈ w_X5_holds := fun _ h => List.mem_cons_of_mem _ (List.mem_append_right _ h)
set_option maxRecDepth 20000 in
theorem g_X5_holds_X5_run_318 : GoodIn w_X5_holds (wsV RX5 318 RX5 yX5_run w_X5_run) := goodIn_r _ [1, 2, 3, 4, 5, 6, 7, 8, 4, 9, 10, 11, 12, 13, 14, 15, 16, 33, 34, 35, 36, 37, 38, 39, 40, 41, 42, 43, 44, 45, 46, 47, 48, 49, 50, 51, 52, 53, 54, 55, 56, 57, 58, 59, 60, 61, 62, 63, 64, 65, 66, 67, 68] (by decide +kernel) (by decide +kernel)
set_option maxRecDepth 20000 in
theorem g_X5_holds_X5_flow_253 : GoodIn w_X5_holds (wsV RX5 253 RX5 yX5_flow w_X5_flow) := goodIn_r _ [17, 18, 19, 4, 20, 21, 16, 22, 23, 24, 25, 26, 27, 28, 33, 34, 35, 36, 37, 38, 39, 40, 41, 42, 43, 44, 45, 46, 47, 48, 49, 50, 51, 52, 53, 54, 55, 56, 57, 58, 59, 60, 61, 62, 63, 64, 65, 66, 67, 68] (by decide +kernel) (by decide +kernel)
set_option maxRecDepth 20000 in
theorem g_X5_holds_X5_isSo_321 : GoodIn w_X5_holds (wsV RX5 321 RX5 yX5_isSo w_X5_isSo) := goodIn_r _ [29, 30, 31, 4, 32, 14, 28, 33, 34, 35, 36, 37, 38, 39, 40, 41, 42, 43, 44, 45, 46, 47, 48, 49, 50, 51, 52, 53, 54, 55, 56, 57, 58, 59, 60, 61, 62, 63, 64, 65, 66, 67, 68] (by decide +kernel) (by decide +kernel)
abbrev pw_X5_holds (cI cJ cZ : ClassId) (gh : Nat) (gv_kind : Value) (gv_na : Value) (gv_nb : Value) (gv_nc : Value) (gv_nd : Value) (gv_ne : Value) (gv_dropped : Value) (gv_lanes : Value) (gv_least : Value) (gv_most : Value) (gv_placeLow : Value) (gv_placeHigh : Value) (gv_status : Value) (gv_hasRun : Value) (gv_threw : Value) (gv_whereThrown : Value) (gv_laneOf : Value) (gv_sizeOf : Value) (gv_cells : Value) (gv_copied : Value) (gv_state : Value) (gv_joinedLow : Value) (gv_joinedHigh : Value) (gv_keptLow : Value) (gv_keptHigh : Value) (e0 : Nat) (e1 : Nat) (e2 : Nat) (e3 : Nat) (e4 : Nat) (e5 : Nat) (e6 : Nat) (e7 : Nat) (t0 : Nat → Int32) (t1 : Nat → Int64) (t2 : Nat → Int64) (t3 : Nat → Int64) (t4 : Nat → Int32) (t5 : Nat → Int32) (t6 : Nat → Int32) (t7 : Nat → Int32) (g1 : Nat) (g2 : Nat) (h1 : Nat → Int32) (h2 : Nat → Int32) (seed : Int64) : va_W := [(gh, .inr (5, [.int 0, gv_kind, gv_na, gv_nb, gv_nc, gv_nd, gv_ne, gv_dropped, .ref e0, .ref e1, .ref e2, .ref e3, .ref e4, .ref e5, gv_lanes, gv_least, gv_most, gv_placeLow, gv_placeHigh, .ref e6, .ref e7, gv_status, gv_hasRun, gv_threw, gv_whereThrown, .ref g1, .ref g2, gv_laneOf, gv_sizeOf, gv_cells, gv_copied, gv_state, gv_joinedLow, gv_joinedHigh, gv_keptLow, gv_keptHigh])), (g1, .inl (cI, 6, .inl h1)), (g2, .inl (cI, 6, .inl h2)), (e0, .inl (cZ, 2, .inl t0)), (e1, .inl (cJ, 12, .inr (.inl t1))), (e2, .inl (cJ, 12, .inr (.inl t2))), (e3, .inl (cJ, 12, .inr (.inl t3))), (e4, .inl (cZ, 12, .inl t4)), (e5, .inl (cZ, 80, .inl t5)), (e6, .inl (cZ, 40, .inl t6)), (e7, .inl (cI, 40, .inl t7))]
set_option maxHeartbeats 4000000 in
set_option maxRecDepth 100000 in
theorem c_X5_holds (l : Launch) (dC : Nat → ClassId) (dI : Nat → Nat → Nat) (cI cJ cZ : ClassId) (gh : Nat) (gv_kind : Value) (gv_na : Value) (gv_nb : Value) (gv_nc : Value) (gv_nd : Value) (gv_ne : Value) (gv_dropped : Value) (gv_lanes : Value) (gv_least : Value) (gv_most : Value) (gv_placeLow : Value) (gv_placeHigh : Value) (gv_status : Value) (gv_hasRun : Value) (gv_threw : Value) (gv_whereThrown : Value) (gv_laneOf : Value) (gv_sizeOf : Value) (gv_cells : Value) (gv_copied : Value) (gv_state : Value) (gv_joinedLow : Value) (gv_joinedHigh : Value) (gv_keptLow : Value) (gv_keptHigh : Value) (e0 : Nat) (e1 : Nat) (e2 : Nat) (e3 : Nat) (e4 : Nat) (e5 : Nat) (e6 : Nat) (e7 : Nat) (t0 : Nat → Int32) (t1 : Nat → Int64) (t2 : Nat → Int64) (t3 : Nat → Int64) (t4 : Nat → Int32) (t5 : Nat → Int32) (t6 : Nat → Int32) (t7 : Nat → Int32) (g1 : Nat) (g2 : Nat) (h1 : Nat → Int32) (h2 : Nat → Int32) (seed : Int64) (sz : Nat) : Met l yX5_holds w_X5_holds ({ frames := 2, cells := 0, slots := 0, locals := 45 }) (va_Pc [.ref gh, .long seed] (cPre dC dI cI cJ cZ sz (pw_X5_holds cI cJ cZ gh gv_kind gv_na gv_nb gv_nc gv_nd gv_ne gv_dropped gv_lanes gv_least gv_most gv_placeLow gv_placeHigh gv_status gv_hasRun gv_threw gv_whereThrown gv_laneOf gv_sizeOf gv_cells gv_copied gv_state gv_joinedLow gv_joinedHigh gv_keptLow gv_keptHigh e0 e1 e2 e3 e4 e5 e6 e7 t0 t1 t2 t3 t4 t5 t6 t7 g1 g2 h1 h2 seed))) (va_Qi (fun (r : Int32) (u : Nat → Nat) => r = 1) (fun (u : Nat → Nat) => cPost dC dI cI cJ cZ (va_A (pw_X5_holds cI cJ cZ gh gv_kind gv_na gv_nb gv_nc gv_nd gv_ne gv_dropped gv_lanes gv_least gv_most gv_placeLow gv_placeHigh gv_status gv_hasRun gv_threw gv_whereThrown gv_laneOf gv_sizeOf gv_cells gv_copied gv_state gv_joinedLow gv_joinedHigh gv_keptLow gv_keptHigh e0 e1 e2 e3 e4 e5 e6 e7 t0 t1 t2 t3 t4 t5 t6 t7 g1 g2 h1 h2 seed) sz) []) (va_A (pw_X5_holds cI cJ cZ gh gv_kind gv_na gv_nb gv_nc gv_nd gv_ne gv_dropped gv_lanes gv_least gv_most gv_placeLow gv_placeHigh gv_status gv_hasRun gv_threw gv_whereThrown gv_laneOf gv_sizeOf gv_cells gv_copied gv_state gv_joinedLow gv_joinedHigh gv_keptLow gv_keptHigh e0 e1 e2 e3 e4 e5 e6 e7 t0 t1 t2 t3 t4 t5 t6 t7 g1 g2 h1 h2 seed) sz)) 0 0 (va_A (pw_X5_holds cI cJ cZ gh gv_kind gv_na gv_nb gv_nc gv_nd gv_ne gv_dropped gv_lanes gv_least gv_most gv_placeLow gv_placeHigh gv_status gv_hasRun gv_threw gv_whereThrown gv_laneOf gv_sizeOf gv_cells gv_copied gv_state gv_joinedLow gv_joinedHigh gv_keptLow gv_keptHigh e0 e1 e2 e3 e4 e5 e6 e7 t0 t1 t2 t3 t4 t5 t6 t7 g1 g2 h1 h2 seed) sz) := by
  refine Met.ofW (cc := cX5_holds) (maxL := 6) (ret := (some .int)) (by decide) rfl ?_
  intro p e s m args below meth c s₁ B hml hv
  obtain ⟨rfl, hsz, hP, hK, hD0, hN⟩ := hv
  have hx := B.exec
  have hb := B.bytes
  have hr := B.returns
  have hts := atoms_spec (ws := w_X5_holds) B.pre
  have hown : s.vm.findClass RX5 = some m.cls := findClass_of_methodNamed B.named
  have hlocks := B.notSynchronized
  subst hsz
  have hD := hD0.self (sz := s.heap.size)
  generalize hAe : va_A (pw_X5_holds cI cJ cZ gh gv_kind gv_na gv_nb gv_nc gv_nd gv_ne gv_dropped gv_lanes gv_least gv_most gv_placeLow gv_placeHigh gv_status gv_hasRun gv_threw gv_whereThrown gv_laneOf gv_sizeOf gv_cells gv_copied gv_state gv_joinedLow gv_joinedHigh gv_keptLow gv_keptHigh e0 e1 e2 e3 e4 e5 e6 e7 t0 t1 t2 t3 t4 t5 t6 t7 g1 g2 h1 h2 seed) s.heap.size = A at hD ⊢
  have hA : ∀ q : Nat, s.heap.size ≤ q → A q := fun q h => by rw [← hAe]; exact Or.inr h
  clear hAe hD0
  have hS : va_S A s.heap s.heap [] := va_S.rf
  replace hP : va_P (dC, dI) vwCl [(gh, .inr (5, [.int 0, gv_kind, gv_na, gv_nb, gv_nc, gv_nd, gv_ne, gv_dropped, .ref e0, .ref e1, .ref e2, .ref e3, .ref e4, .ref e5, gv_lanes, gv_least, gv_most, gv_placeLow, gv_placeHigh, .ref e6, .ref e7, gv_status, gv_hasRun, gv_threw, gv_whereThrown, .ref g1, .ref g2, gv_laneOf, gv_sizeOf, gv_cells, gv_copied, gv_state, gv_joinedLow, gv_joinedHigh, gv_keptLow, gv_keptHigh])), (g1, .inl (cI, 6, .inl h1)), (g2, .inl (cI, 6, .inl h2)), (e0, .inl (cZ, 2, .inl t0)), (e1, .inl (cJ, 12, .inr (.inl t1))), (e2, .inl (cJ, 12, .inr (.inl t2))), (e3, .inl (cJ, 12, .inr (.inl t3))), (e4, .inl (cZ, 12, .inl t4)), (e5, .inl (cZ, 80, .inl t5)), (e6, .inl (cZ, 40, .inl t6)), (e7, .inl (cI, 40, .inl t7))] s.heap := hP
  replace hD : va_D A [(gh, .inr (5, [.int 0, gv_kind, gv_na, gv_nb, gv_nc, gv_nd, gv_ne, gv_dropped, .ref e0, .ref e1, .ref e2, .ref e3, .ref e4, .ref e5, gv_lanes, gv_least, gv_most, gv_placeLow, gv_placeHigh, .ref e6, .ref e7, gv_status, gv_hasRun, gv_threw, gv_whereThrown, .ref g1, .ref g2, gv_laneOf, gv_sizeOf, gv_cells, gv_copied, gv_state, gv_joinedLow, gv_joinedHigh, gv_keptLow, gv_keptHigh])), (g1, .inl (cI, 6, .inl h1)), (g2, .inl (cI, 6, .inl h2)), (e0, .inl (cZ, 2, .inl t0)), (e1, .inl (cJ, 12, .inr (.inl t1))), (e2, .inl (cJ, 12, .inr (.inl t2))), (e3, .inl (cJ, 12, .inr (.inl t3))), (e4, .inl (cZ, 12, .inl t4)), (e5, .inl (cZ, 80, .inl t5)), (e6, .inl (cZ, 40, .inl t6)), (e7, .inl (cI, 40, .inl t7))] := hD
  have hl := lv_entry ([.ref gh, .long seed]) (n := 6) (Nat.le_of_ble_eq_true rfl)
  rw [lg_entry_eq]
  generalize (lg_sl ([.ref gh, .long seed]) ++ List.replicate (6 - (lg_sl ([.ref gh, .long seed])).length) Slot.unset).toArray = ls at hl ⊢
  replace hl : lv_has ls 6 [(0, .ref gh), (1, .long seed)] := hl
  refine lv_aload_n hx hb dX5_holds_0 rfl (lv_at hl 0 rfl) ?_
  refine lv_lload_n hx hb dX5_holds_1 rfl (lv_at hl 1 rfl) ?_
  have hPc := hP.sub (ws' := [(gh, .inr (5, [.int 0, gv_kind, gv_na, gv_nb, gv_nc, gv_nd, gv_ne, gv_dropped, .ref e0, .ref e1, .ref e2, .ref e3, .ref e4, .ref e5, gv_lanes, gv_least, gv_most, gv_placeLow, gv_placeHigh, .ref e6, .ref e7, gv_status, gv_hasRun, gv_threw, gv_whereThrown, .ref g1, .ref g2, gv_laneOf, gv_sizeOf, gv_cells, gv_copied, gv_state, gv_joinedLow, gv_joinedHigh, gv_keptLow, gv_keptHigh])), (g1, .inl (cI, 6, .inl h1)), (g2, .inl (cI, 6, .inl h2))]) [0, 1, 2] rfl
  have hDc := hD.sub (ws' := [(gh, .inr (5, [.int 0, gv_kind, gv_na, gv_nb, gv_nc, gv_nd, gv_ne, gv_dropped, .ref e0, .ref e1, .ref e2, .ref e3, .ref e4, .ref e5, gv_lanes, gv_least, gv_most, gv_placeLow, gv_placeHigh, .ref e6, .ref e7, gv_status, gv_hasRun, gv_threw, gv_whereThrown, .ref g1, .ref g2, gv_laneOf, gv_sizeOf, gv_cells, gv_copied, gv_state, gv_joinedLow, gv_joinedHigh, gv_keptLow, gv_keptHigh])), (g1, .inl (cI, 6, .inl h1)), (g2, .inl (cI, 6, .inl h2))]) [0, 1, 2] (by decide) rfl
  have hFc := va_free (wc := [(gh, .inr (5, [.int 0, gv_kind, gv_na, gv_nb, gv_nc, gv_nd, gv_ne, gv_dropped, .ref e0, .ref e1, .ref e2, .ref e3, .ref e4, .ref e5, gv_lanes, gv_least, gv_most, gv_placeLow, gv_placeHigh, .ref e6, .ref e7, gv_status, gv_hasRun, gv_threw, gv_whereThrown, .ref g1, .ref g2, gv_laneOf, gv_sizeOf, gv_cells, gv_copied, gv_state, gv_joinedLow, gv_joinedHigh, gv_keptLow, gv_keptHigh])), (g1, .inl (cI, 6, .inl h1)), (g2, .inl (cI, 6, .inl h2))]) hD hS hA [0, 1, 2] rfl
  refine va_calli (va_runV (As := [.long seed]) (rest := []) ⟨hx, hb, hml, hown, hts⟩ (c_X5_run l dC dI cI cJ cZ gh g1 g2 h1 h2 gv_kind gv_na gv_nb gv_nc gv_nd gv_ne gv_dropped (.ref e0) (.ref e1) (.ref e2) (.ref e3) (.ref e4) (.ref e5) gv_lanes gv_least gv_most gv_placeLow gv_placeHigh (.ref e6) (.ref e7) gv_status gv_hasRun gv_threw gv_whereThrown gv_laneOf gv_sizeOf gv_cells gv_copied gv_state gv_joinedLow gv_joinedHigh gv_keptLow gv_keptHigh seed s.heap.size) (cwV 1 hts g_X5_holds_X5_run_318 rfl rfl rfl (by decide +kernel) ⟨Nat.le_of_ble_eq_true rfl, Nat.le_of_ble_eq_true rfl⟩) ⟨cPre_blind, va_recv hK hPc (ci := 5) (q0 := 0) rfl rfl, cPre_of hK hN hPc hDc⟩ rfl rfl hl.1 rfl (lv_room (Nat.le_of_ble_eq_true rfl)) dX5_holds_2 ⟨Nat.le_of_ble_eq_true rfl, Nat.le_of_ble_eq_true rfl⟩) hS (fun q _ h => hFc q h) hFc (fun r_1 u_1 t_1 H_1 locs_1 ht hvm hw_1 hB hz1 hk1 hS1 => ?_)
  obtain ⟨hP1, hK1, hD1⟩ := hB
  rw [ht] at hP1
  obtain ⟨hP2, hD2⟩ := va_join (wr := [(e0, .inl (cZ, 2, .inl t0)), (e1, .inl (cJ, 12, .inr (.inl t1))), (e2, .inl (cJ, 12, .inr (.inl t2))), (e3, .inl (cJ, 12, .inr (.inl t3))), (e4, .inl (cZ, 12, .inl t4)), (e5, .inl (cZ, 80, .inl t5)), (e6, .inl (cZ, 40, .inl t6)), (e7, .inl (cI, 40, .inl t7))]) (w1 := [(gh, .inr (5, [.int 0, gv_kind, gv_na, gv_nb, gv_nc, gv_nd, gv_ne, gv_dropped, .ref e0, .ref e1, .ref e2, .ref e3, .ref e4, .ref e5, gv_lanes, gv_least, gv_most, gv_placeLow, gv_placeHigh, .ref e6, .ref e7, gv_status, .int 1, .int 0, .int (-1), .ref g1, .ref g2, gv_laneOf, gv_sizeOf, gv_cells, gv_copied, .long seed, gv_joinedLow, gv_joinedHigh, gv_keptLow, gv_keptHigh])), (g1, .inl (cI, 6, .inl (ov h1 6 0))), (g2, .inl (cI, 6, .inl (ov h2 6 (-1))))]) hP hD [0, 1, 2] [3, 4, 5, 6, 7, 8, 9, 10] rfl rfl (by decide) (by decide) hk1 hFc hP1 hD1
  clear hPc hDc hFc hP1 hD1 hK1 hk1 hz1 hvm ht
  replace hP : va_P (dC, dI) vwCl [(e0, .inl (cZ, 2, .inl t0)), (e1, .inl (cJ, 12, .inr (.inl t1))), (e2, .inl (cJ, 12, .inr (.inl t2))), (e3, .inl (cJ, 12, .inr (.inl t3))), (e4, .inl (cZ, 12, .inl t4)), (e5, .inl (cZ, 80, .inl t5)), (e6, .inl (cZ, 40, .inl t6)), (e7, .inl (cI, 40, .inl t7)), (gh, .inr (5, [.int 0, gv_kind, gv_na, gv_nb, gv_nc, gv_nd, gv_ne, gv_dropped, .ref e0, .ref e1, .ref e2, .ref e3, .ref e4, .ref e5, gv_lanes, gv_least, gv_most, gv_placeLow, gv_placeHigh, .ref e6, .ref e7, gv_status, .int 1, .int 0, .int (-1), .ref g1, .ref g2, gv_laneOf, gv_sizeOf, gv_cells, gv_copied, .long seed, gv_joinedLow, gv_joinedHigh, gv_keptLow, gv_keptHigh])), (g1, .inl (cI, 6, .inl (ov h1 6 0))), (g2, .inl (cI, 6, .inl (ov h2 6 (-1))))] H_1 := hP2
  replace hD : va_D A [(e0, .inl (cZ, 2, .inl t0)), (e1, .inl (cJ, 12, .inr (.inl t1))), (e2, .inl (cJ, 12, .inr (.inl t2))), (e3, .inl (cJ, 12, .inr (.inl t3))), (e4, .inl (cZ, 12, .inl t4)), (e5, .inl (cZ, 80, .inl t5)), (e6, .inl (cZ, 40, .inl t6)), (e7, .inl (cI, 40, .inl t7)), (gh, .inr (5, [.int 0, gv_kind, gv_na, gv_nb, gv_nc, gv_nd, gv_ne, gv_dropped, .ref e0, .ref e1, .ref e2, .ref e3, .ref e4, .ref e5, gv_lanes, gv_least, gv_most, gv_placeLow, gv_placeHigh, .ref e6, .ref e7, gv_status, .int 1, .int 0, .int (-1), .ref g1, .ref g2, gv_laneOf, gv_sizeOf, gv_cells, gv_copied, .long seed, gv_joinedLow, gv_joinedHigh, gv_keptLow, gv_keptHigh])), (g1, .inl (cI, 6, .inl (ov h1 6 0))), (g2, .inl (cI, 6, .inl (ov h2 6 (-1))))] := hD2
  replace hS := hS1
  clear hP2 hD2 hS1
  refine my_topi (y := 0) hw_1 ?_
  refine lv_istore_n (lv' := [(3, .int 0), (0, .ref gh), (1, .long seed)]) hx hb dX5_holds_5 rfl hl (by decide) rfl (fun ls1 hl1 => ?_)
  replace hl := hl1; clear hl1
  refine lv_aload_n hx hb dX5_holds_6 rfl (lv_at hl 1 rfl) ?_
  have hPc := hP.sub (ws' := [(gh, .inr (5, [.int 0, gv_kind, gv_na, gv_nb, gv_nc, gv_nd, gv_ne, gv_dropped, .ref e0, .ref e1, .ref e2, .ref e3, .ref e4, .ref e5, gv_lanes, gv_least, gv_most, gv_placeLow, gv_placeHigh, .ref e6, .ref e7, gv_status, .int 1, .int 0, .int (-1), .ref g1, .ref g2, gv_laneOf, gv_sizeOf, gv_cells, gv_copied, .long seed, gv_joinedLow, gv_joinedHigh, gv_keptLow, gv_keptHigh])), (e0, .inl (cZ, 2, .inl t0)), (e1, .inl (cJ, 12, .inr (.inl t1))), (e2, .inl (cJ, 12, .inr (.inl t2))), (e3, .inl (cJ, 12, .inr (.inl t3))), (e4, .inl (cZ, 12, .inl t4)), (e5, .inl (cZ, 80, .inl t5)), (e6, .inl (cZ, 40, .inl t6)), (e7, .inl (cI, 40, .inl t7))]) [8, 0, 1, 2, 3, 4, 5, 6, 7] rfl
  have hDc := hD.sub (ws' := [(gh, .inr (5, [.int 0, gv_kind, gv_na, gv_nb, gv_nc, gv_nd, gv_ne, gv_dropped, .ref e0, .ref e1, .ref e2, .ref e3, .ref e4, .ref e5, gv_lanes, gv_least, gv_most, gv_placeLow, gv_placeHigh, .ref e6, .ref e7, gv_status, .int 1, .int 0, .int (-1), .ref g1, .ref g2, gv_laneOf, gv_sizeOf, gv_cells, gv_copied, .long seed, gv_joinedLow, gv_joinedHigh, gv_keptLow, gv_keptHigh])), (e0, .inl (cZ, 2, .inl t0)), (e1, .inl (cJ, 12, .inr (.inl t1))), (e2, .inl (cJ, 12, .inr (.inl t2))), (e3, .inl (cJ, 12, .inr (.inl t3))), (e4, .inl (cZ, 12, .inl t4)), (e5, .inl (cZ, 80, .inl t5)), (e6, .inl (cZ, 40, .inl t6)), (e7, .inl (cI, 40, .inl t7))]) [8, 0, 1, 2, 3, 4, 5, 6, 7] (by decide) rfl
  have hFc := va_free (wc := [(gh, .inr (5, [.int 0, gv_kind, gv_na, gv_nb, gv_nc, gv_nd, gv_ne, gv_dropped, .ref e0, .ref e1, .ref e2, .ref e3, .ref e4, .ref e5, gv_lanes, gv_least, gv_most, gv_placeLow, gv_placeHigh, .ref e6, .ref e7, gv_status, .int 1, .int 0, .int (-1), .ref g1, .ref g2, gv_laneOf, gv_sizeOf, gv_cells, gv_copied, .long seed, gv_joinedLow, gv_joinedHigh, gv_keptLow, gv_keptHigh])), (e0, .inl (cZ, 2, .inl t0)), (e1, .inl (cJ, 12, .inr (.inl t1))), (e2, .inl (cJ, 12, .inr (.inl t2))), (e3, .inl (cJ, 12, .inr (.inl t3))), (e4, .inl (cZ, 12, .inl t4)), (e5, .inl (cZ, 80, .inl t5)), (e6, .inl (cZ, 40, .inl t6)), (e7, .inl (cI, 40, .inl t7))]) hD hS hA [8, 0, 1, 2, 3, 4, 5, 6, 7] rfl
  refine va_callv (va_runV (As := []) (rest := []) ⟨hx, hb, hml, hown, hts⟩ (c_X5_flow l dC dI cI cJ cZ gh gv_kind gv_na gv_nb gv_nc gv_nd gv_ne gv_dropped gv_lanes gv_least gv_most gv_placeLow gv_placeHigh gv_status (.int 1) (.int 0) (.int (-1)) (.ref g1) (.ref g2) gv_laneOf gv_sizeOf gv_cells gv_copied (.long seed) gv_joinedLow gv_joinedHigh gv_keptLow gv_keptHigh e0 e1 e2 e3 e4 e5 e6 e7 t0 t1 t2 t3 t4 t5 t6 t7 H_1.size) (cwV 0 hts g_X5_holds_X5_flow_253 rfl rfl rfl (by decide +kernel) ⟨Nat.le_of_ble_eq_true rfl, Nat.le_of_ble_eq_true rfl⟩) ⟨cPre_blind, va_recv hK hPc (ci := 5) (q0 := 0) rfl rfl, cPre_of hK hN hPc hDc⟩ rfl rfl hl.1 rfl (lv_room (Nat.le_of_ble_eq_true rfl)) dX5_holds_7 ⟨Nat.le_of_ble_eq_true rfl, Nat.le_of_ble_eq_true rfl⟩) hS (fun q _ h => hFc q h) hFc (fun u_2 t_2 H_2 locs_2 ht hvm hw_2 hB hz1 hk1 hS1 => ?_)
  obtain ⟨hP1, hK1, hD1⟩ := hB
  rw [ht] at hP1
  obtain ⟨hP2, hD2⟩ := va_join (wr := [(g1, .inl (cI, 6, .inl (ov h1 6 0))), (g2, .inl (cI, 6, .inl (ov h2 6 (-1))))]) (w1 := [(gh, .inr (5, [.int 0, gv_kind, gv_na, gv_nb, gv_nc, gv_nd, gv_ne, gv_dropped, .ref e0, .ref e1, .ref e2, .ref e3, .ref e4, .ref e5, gv_lanes, gv_least, gv_most, gv_placeLow, gv_placeHigh, .ref e6, .ref e7, gv_status, .int 1, .int 0, .int (-1), .ref g1, .ref g2, gv_laneOf, gv_sizeOf, gv_cells, gv_copied, .long seed, gv_joinedLow, gv_joinedHigh, gv_keptLow, gv_keptHigh])), (e0, .inl (cZ, 2, .inl (upd (upd t0 0 1) 1 0))), (e1, .inl (cJ, 12, .inr (.inl (ovL t1 6 0)))), (e2, .inl (cJ, 12, .inr (.inl (ovL t2 6 0)))), (e3, .inl (cJ, 12, .inr (.inl (ovL t3 6 0)))), (e4, .inl (cZ, 12, .inl (ov t4 6 1))), (e5, .inl (cZ, 80, .inl (ov t5 40 0))), (e6, .inl (cZ, 40, .inl (ov t6 40 0))), (e7, .inl (cI, 40, .inl (ov t7 40 0)))]) hP hD [8, 0, 1, 2, 3, 4, 5, 6, 7] [9, 10] rfl rfl (by decide) (by decide) hk1 hFc hP1 hD1
  clear hPc hDc hFc hP1 hD1 hK1 hk1 hz1 hvm ht
  replace hP : va_P (dC, dI) vwCl [(g1, .inl (cI, 6, .inl (ov h1 6 0))), (g2, .inl (cI, 6, .inl (ov h2 6 (-1)))), (gh, .inr (5, [.int 0, gv_kind, gv_na, gv_nb, gv_nc, gv_nd, gv_ne, gv_dropped, .ref e0, .ref e1, .ref e2, .ref e3, .ref e4, .ref e5, gv_lanes, gv_least, gv_most, gv_placeLow, gv_placeHigh, .ref e6, .ref e7, gv_status, .int 1, .int 0, .int (-1), .ref g1, .ref g2, gv_laneOf, gv_sizeOf, gv_cells, gv_copied, .long seed, gv_joinedLow, gv_joinedHigh, gv_keptLow, gv_keptHigh])), (e0, .inl (cZ, 2, .inl (upd (upd t0 0 1) 1 0))), (e1, .inl (cJ, 12, .inr (.inl (ovL t1 6 0)))), (e2, .inl (cJ, 12, .inr (.inl (ovL t2 6 0)))), (e3, .inl (cJ, 12, .inr (.inl (ovL t3 6 0)))), (e4, .inl (cZ, 12, .inl (ov t4 6 1))), (e5, .inl (cZ, 80, .inl (ov t5 40 0))), (e6, .inl (cZ, 40, .inl (ov t6 40 0))), (e7, .inl (cI, 40, .inl (ov t7 40 0)))] H_2 := hP2
  replace hD : va_D A [(g1, .inl (cI, 6, .inl (ov h1 6 0))), (g2, .inl (cI, 6, .inl (ov h2 6 (-1)))), (gh, .inr (5, [.int 0, gv_kind, gv_na, gv_nb, gv_nc, gv_nd, gv_ne, gv_dropped, .ref e0, .ref e1, .ref e2, .ref e3, .ref e4, .ref e5, gv_lanes, gv_least, gv_most, gv_placeLow, gv_placeHigh, .ref e6, .ref e7, gv_status, .int 1, .int 0, .int (-1), .ref g1, .ref g2, gv_laneOf, gv_sizeOf, gv_cells, gv_copied, .long seed, gv_joinedLow, gv_joinedHigh, gv_keptLow, gv_keptHigh])), (e0, .inl (cZ, 2, .inl (upd (upd t0 0 1) 1 0))), (e1, .inl (cJ, 12, .inr (.inl (ovL t1 6 0)))), (e2, .inl (cJ, 12, .inr (.inl (ovL t2 6 0)))), (e3, .inl (cJ, 12, .inr (.inl (ovL t3 6 0)))), (e4, .inl (cZ, 12, .inl (ov t4 6 1))), (e5, .inl (cZ, 80, .inl (ov t5 40 0))), (e6, .inl (cZ, 40, .inl (ov t6 40 0))), (e7, .inl (cI, 40, .inl (ov t7 40 0)))] := hD2
  replace hS := hS1
  clear hP2 hD2 hS1
  refine lv_iload_n hx hb dX5_holds_10 rfl (lv_at hl 0 rfl) ?_
  refine lv_if_le (tgt := 49) hx hb dX5_holds_11 (by decide) (fun c_3 => ?_) (fun c_3 => ?_)
  · -- on
    refine lv_aload_n hx hb dX5_holds_49 rfl (lv_at hl 1 rfl) ?_
    refine va_get (D := (dC, dI)) (ci := 5) (v := .ref e0) (C := RX5) (T := TX5) (N := 36) hx hb hts inc_X5_holds_X5 hown hK hP 2 rfl rfl 8 (by decide) (hts (.fieldLink RX5 32 "ArraySegmentsModel" "live" "[Z") (List.mem_of_getElem? (i := 21) rfl)) (fun _ h9 => h9) rfl dX5_holds_50 ?_
    refine lv_iconst (v := 0) hx hb dX5_holds_53 (by decide) ?_
    refine va_zald hx hb hK hP 3 2 rfl rfl (vp_in_iff.mpr (by decide)) dX5_holds_54 ?_
    refine my_topi (y := 1) (by rfl) ?_
    refine lv_istore (lv' := [(4, .int 1), (3, .int 0), (0, .ref gh), (1, .long seed)]) hx hb dX5_holds_55 hl (by decide) rfl (fun ls1 hl1 => ?_)
    replace hl := hl1; clear hl1
    refine lv_iconst (v := 0) hx hb dX5_holds_57 (by decide) ?_
    refine lv_istore (lv' := [(5, .int 0), (4, .int 1), (3, .int 0), (0, .ref gh), (1, .long seed)]) hx hb dX5_holds_58 hl (by decide) rfl (fun ls1 hl1 => ?_)
    replace hl := hl1; clear hl1
    refine my_loop 6 (fun i => [(g1, .inl (cI, 6, .inl (ov h1 6 0))), (g2, .inl (cI, 6, .inl (ov h2 6 (-1)))), (gh, .inr (5, [.int 0, gv_kind, gv_na, gv_nb, gv_nc, gv_nd, gv_ne, gv_dropped, .ref e0, .ref e1, .ref e2, .ref e3, .ref e4, .ref e5, gv_lanes, gv_least, gv_most, gv_placeLow, gv_placeHigh, .ref e6, .ref e7, gv_status, .int 1, .int 0, .int (-1), .ref g1, .ref g2, gv_laneOf, gv_sizeOf, gv_cells, gv_copied, .long seed, gv_joinedLow, gv_joinedHigh, gv_keptLow, gv_keptHigh])), (e0, .inl (cZ, 2, .inl (upd (upd t0 0 1) 1 0))), (e1, .inl (cJ, 12, .inr (.inl (ovL t1 6 0)))), (e2, .inl (cJ, 12, .inr (.inl (ovL t2 6 0)))), (e3, .inl (cJ, 12, .inr (.inl (ovL t3 6 0)))), (e4, .inl (cZ, 12, .inl (ov t4 6 1))), (e5, .inl (cZ, 80, .inl (ov t5 40 0))), (e6, .inl (cZ, 40, .inl (ov t6 40 0))), (e7, .inl (cI, 40, .inl (ov t7 40 0)))]) (fun i => [(5, .int (nI i)), (4, .int 1), (3, .int 0), (0, .ref gh), (1, .long seed)]) (H0 := s.heap) (A := A) (D := (dC, dI)) (cl := vwCl) (by first | (simp only [ov_0, ovL_0]; exact hP) | exact hP) (by first | (simp only [ov_0, ovL_0]; exact hD) | exact hD) hS (by exact hl) (fun H_60 locs_60 ls1 hP1 hD1 hS1 hl1 => ?_) (fun i60 hlt_i60 ih_60 H_60 locs_60 ls1 hP1 hD1 hS1 hl1 => ?_)
    · -- behind
      replace hP : va_P (dC, dI) vwCl [(g1, .inl (cI, 6, .inl (ov h1 6 0))), (g2, .inl (cI, 6, .inl (ov h2 6 (-1)))), (gh, .inr (5, [.int 0, gv_kind, gv_na, gv_nb, gv_nc, gv_nd, gv_ne, gv_dropped, .ref e0, .ref e1, .ref e2, .ref e3, .ref e4, .ref e5, gv_lanes, gv_least, gv_most, gv_placeLow, gv_placeHigh, .ref e6, .ref e7, gv_status, .int 1, .int 0, .int (-1), .ref g1, .ref g2, gv_laneOf, gv_sizeOf, gv_cells, gv_copied, .long seed, gv_joinedLow, gv_joinedHigh, gv_keptLow, gv_keptHigh])), (e0, .inl (cZ, 2, .inl (upd (upd t0 0 1) 1 0))), (e1, .inl (cJ, 12, .inr (.inl (ovL t1 6 0)))), (e2, .inl (cJ, 12, .inr (.inl (ovL t2 6 0)))), (e3, .inl (cJ, 12, .inr (.inl (ovL t3 6 0)))), (e4, .inl (cZ, 12, .inl (ov t4 6 1))), (e5, .inl (cZ, 80, .inl (ov t5 40 0))), (e6, .inl (cZ, 40, .inl (ov t6 40 0))), (e7, .inl (cI, 40, .inl (ov t7 40 0)))] H_60 := hP1
      replace hD : va_D A [(g1, .inl (cI, 6, .inl (ov h1 6 0))), (g2, .inl (cI, 6, .inl (ov h2 6 (-1)))), (gh, .inr (5, [.int 0, gv_kind, gv_na, gv_nb, gv_nc, gv_nd, gv_ne, gv_dropped, .ref e0, .ref e1, .ref e2, .ref e3, .ref e4, .ref e5, gv_lanes, gv_least, gv_most, gv_placeLow, gv_placeHigh, .ref e6, .ref e7, gv_status, .int 1, .int 0, .int (-1), .ref g1, .ref g2, gv_laneOf, gv_sizeOf, gv_cells, gv_copied, .long seed, gv_joinedLow, gv_joinedHigh, gv_keptLow, gv_keptHigh])), (e0, .inl (cZ, 2, .inl (upd (upd t0 0 1) 1 0))), (e1, .inl (cJ, 12, .inr (.inl (ovL t1 6 0)))), (e2, .inl (cJ, 12, .inr (.inl (ovL t2 6 0)))), (e3, .inl (cJ, 12, .inr (.inl (ovL t3 6 0)))), (e4, .inl (cZ, 12, .inl (ov t4 6 1))), (e5, .inl (cZ, 80, .inl (ov t5 40 0))), (e6, .inl (cZ, 40, .inl (ov t6 40 0))), (e7, .inl (cI, 40, .inl (ov t7 40 0)))] := hD1
      replace hS := hS1
      clear hP1 hD1 hS1
      replace hl : lv_has ls1 6 [(5, .int (nI 6)), (4, .int 1), (3, .int 0), (0, .ref gh), (1, .long seed)] := hl1
      clear hl1
      refine lv_iload hx hb dX5_holds_60 (lv_at hl 0 rfl) ?_
      refine lv_bipush (v := 6) hx hb dX5_holds_62 (by decide) ?_
      refine lv_icmp_ge (tgt := 132) hx hb dX5_holds_64 (by decide) (fun c_4 => ?_) (fun c_4 => ?_)
      · -- on
        refine lv_iload hx hb dX5_holds_132 (lv_at hl 1 rfl) ?_
        refine lv_if_eq (tgt := 141) hx hb dX5_holds_134 (by decide) (fun c_5 => ?_) (fun c_5 => ?_)
        · exact absurd c_5 (by decide)
        · -- on
          refine lv_iconst (v := 1) hx hb dX5_holds_137 (by decide) ?_
          refine lv_goto (tgt := 142) hx hb dX5_holds_138 (by decide) ?_
          have hP9 := hP.sub (ws' := []) [] rfl
          have hD9 := hD.sub (ws' := []) [] (by decide) rfl
          exact W.iret (v := 1) hx hb hr (fun t ht hW => ⟨⟨1, (fun _ => 0), rfl, rfl, by rw [ht]; exact hP9, va_K.moved hW.alike hK, hD9⟩, hS.F ht⟩) hS.2.2 dX5_holds_142
      · exact absurd (by decide) c_4
    · -- once
      replace hP : va_P (dC, dI) vwCl [(g1, .inl (cI, 6, .inl (ov h1 6 0))), (g2, .inl (cI, 6, .inl (ov h2 6 (-1)))), (gh, .inr (5, [.int 0, gv_kind, gv_na, gv_nb, gv_nc, gv_nd, gv_ne, gv_dropped, .ref e0, .ref e1, .ref e2, .ref e3, .ref e4, .ref e5, gv_lanes, gv_least, gv_most, gv_placeLow, gv_placeHigh, .ref e6, .ref e7, gv_status, .int 1, .int 0, .int (-1), .ref g1, .ref g2, gv_laneOf, gv_sizeOf, gv_cells, gv_copied, .long seed, gv_joinedLow, gv_joinedHigh, gv_keptLow, gv_keptHigh])), (e0, .inl (cZ, 2, .inl (upd (upd t0 0 1) 1 0))), (e1, .inl (cJ, 12, .inr (.inl (ovL t1 6 0)))), (e2, .inl (cJ, 12, .inr (.inl (ovL t2 6 0)))), (e3, .inl (cJ, 12, .inr (.inl (ovL t3 6 0)))), (e4, .inl (cZ, 12, .inl (ov t4 6 1))), (e5, .inl (cZ, 80, .inl (ov t5 40 0))), (e6, .inl (cZ, 40, .inl (ov t6 40 0))), (e7, .inl (cI, 40, .inl (ov t7 40 0)))] H_60 := hP1
      replace hD : va_D A [(g1, .inl (cI, 6, .inl (ov h1 6 0))), (g2, .inl (cI, 6, .inl (ov h2 6 (-1)))), (gh, .inr (5, [.int 0, gv_kind, gv_na, gv_nb, gv_nc, gv_nd, gv_ne, gv_dropped, .ref e0, .ref e1, .ref e2, .ref e3, .ref e4, .ref e5, gv_lanes, gv_least, gv_most, gv_placeLow, gv_placeHigh, .ref e6, .ref e7, gv_status, .int 1, .int 0, .int (-1), .ref g1, .ref g2, gv_laneOf, gv_sizeOf, gv_cells, gv_copied, .long seed, gv_joinedLow, gv_joinedHigh, gv_keptLow, gv_keptHigh])), (e0, .inl (cZ, 2, .inl (upd (upd t0 0 1) 1 0))), (e1, .inl (cJ, 12, .inr (.inl (ovL t1 6 0)))), (e2, .inl (cJ, 12, .inr (.inl (ovL t2 6 0)))), (e3, .inl (cJ, 12, .inr (.inl (ovL t3 6 0)))), (e4, .inl (cZ, 12, .inl (ov t4 6 1))), (e5, .inl (cZ, 80, .inl (ov t5 40 0))), (e6, .inl (cZ, 40, .inl (ov t6 40 0))), (e7, .inl (cI, 40, .inl (ov t7 40 0)))] := hD1
      replace hS := hS1
      clear hP1 hD1 hS1
      replace hl : lv_has ls1 6 [(5, .int (nI i60)), (4, .int 1), (3, .int 0), (0, .ref gh), (1, .long seed)] := hl1
      clear hl1
      refine lv_iload hx hb dX5_holds_60 (lv_at hl 0 rfl) ?_
      refine lv_bipush (v := 6) hx hb dX5_holds_62 (by decide) ?_
      refine lv_icmp_ge (tgt := 132) hx hb dX5_holds_64 (by decide) (fun c_6 => ?_) (fun c_6 => ?_)
      · exact absurd c_6 (nI_ge hlt_i60 (by decide))
      · -- on
        refine lv_iload hx hb dX5_holds_67 (lv_at hl 1 rfl) ?_
        refine lv_if_eq (tgt := 132) hx hb dX5_holds_69 (by decide) (fun c_7 => ?_) (fun c_7 => ?_)
        · exact absurd c_7 (by decide)
        · -- on
          refine lv_aload_n hx hb dX5_holds_72 rfl (lv_at hl 3 rfl) ?_
          refine va_get (D := (dC, dI)) (ci := 5) (v := .ref g1) (C := RX5) (T := TX5) (N := 36) hx hb hts inc_X5_holds_X5 hown hK hP 2 rfl rfl 25 (by decide) (hts (.fieldLink RX5 72 "ArraySegmentsModel" "value" "[I") (List.mem_of_getElem? (i := 13) rfl)) (fun _ h9 => h9) rfl dX5_holds_73 ?_
          refine lv_iload hx hb dX5_holds_76 (lv_at hl 0 rfl) ?_
          refine va_iald hx hb hK hP 0 0 rfl rfl (vp_in_nI (by omega) (by decide)) dX5_holds_78 ?_
          refine my_topi (y := 0) (ov_nI h1 0 (by omega) (by decide)) ?_
          refine lv_i2l (v := 0) hx hb dX5_holds_79 (by decide) ?_
          refine lv_aload_n hx hb dX5_holds_80 rfl (lv_at hl 3 rfl) ?_
          refine va_get (D := (dC, dI)) (ci := 5) (v := .ref e1) (C := RX5) (T := TX5) (N := 36) hx hb hts inc_X5_holds_X5 hown hK hP 2 rfl rfl 9 (by decide) (hts (.fieldLink RX5 35 "ArraySegmentsModel" "low" "[J") (List.mem_of_getElem? (i := 25) rfl)) (fun _ h9 => h9) rfl dX5_holds_81 ?_
          refine lv_iload hx hb dX5_holds_84 (lv_at hl 0 rfl) ?_
          refine va_lald hx hb hK hP 4 1 rfl rfl (vp_in_nI (by omega) (by decide)) dX5_holds_86 ?_
          refine my_topl (y := 0) (ovL_nI t1 0 (by omega) (by decide)) ?_
          refine W.lcmp hx hb dX5_holds_87 ?_
          refine my_topi (y := 0) (by decide) ?_
          refine lv_if_lt (tgt := 123) hx hb dX5_holds_88 (by decide) (fun c_8 => ?_) (fun c_8 => ?_)
          · exact absurd c_8 (by decide)
          · -- on
            refine lv_aload_n hx hb dX5_holds_91 rfl (lv_at hl 3 rfl) ?_
            refine va_get (D := (dC, dI)) (ci := 5) (v := .ref g1) (C := RX5) (T := TX5) (N := 36) hx hb hts inc_X5_holds_X5 hown hK hP 2 rfl rfl 25 (by decide) (hts (.fieldLink RX5 72 "ArraySegmentsModel" "value" "[I") (List.mem_of_getElem? (i := 13) rfl)) (fun _ h9 => h9) rfl dX5_holds_92 ?_
            refine lv_iload hx hb dX5_holds_95 (lv_at hl 0 rfl) ?_
            refine va_iald hx hb hK hP 0 0 rfl rfl (vp_in_nI (by omega) (by decide)) dX5_holds_97 ?_
            refine my_topi (y := 0) (ov_nI h1 0 (by omega) (by decide)) ?_
            refine lv_i2l (v := 0) hx hb dX5_holds_98 (by decide) ?_
            refine lv_aload_n hx hb dX5_holds_99 rfl (lv_at hl 3 rfl) ?_
            refine va_get (D := (dC, dI)) (ci := 5) (v := .ref e2) (C := RX5) (T := TX5) (N := 36) hx hb hts inc_X5_holds_X5 hown hK hP 2 rfl rfl 10 (by decide) (hts (.fieldLink RX5 39 "ArraySegmentsModel" "high" "[J") (List.mem_of_getElem? (i := 26) rfl)) (fun _ h9 => h9) rfl dX5_holds_100 ?_
            refine lv_iload hx hb dX5_holds_103 (lv_at hl 0 rfl) ?_
            refine va_lald hx hb hK hP 5 1 rfl rfl (vp_in_nI (by omega) (by decide)) dX5_holds_105 ?_
            refine my_topl (y := 0) (ovL_nI t2 0 (by omega) (by decide)) ?_
            refine W.lcmp hx hb dX5_holds_106 ?_
            refine my_topi (y := 0) (by decide) ?_
            refine lv_if_gt (tgt := 123) hx hb dX5_holds_107 (by decide) (fun c_9 => ?_) (fun c_9 => ?_)
            · exact absurd c_9 (by decide)
            · -- on
              refine lv_aload_n hx hb dX5_holds_110 rfl (lv_at hl 3 rfl) ?_
              refine lv_iload hx hb dX5_holds_111 (lv_at hl 0 rfl) ?_
              have hPc := hP.sub (ws' := [(gh, .inr (5, [.int 0, gv_kind, gv_na, gv_nb, gv_nc, gv_nd, gv_ne, gv_dropped, .ref e0, .ref e1, .ref e2, .ref e3, .ref e4, .ref e5, gv_lanes, gv_least, gv_most, gv_placeLow, gv_placeHigh, .ref e6, .ref e7, gv_status, .int 1, .int 0, .int (-1), .ref g1, .ref g2, gv_laneOf, gv_sizeOf, gv_cells, gv_copied, .long seed, gv_joinedLow, gv_joinedHigh, gv_keptLow, gv_keptHigh])), (g2, .inl (cI, 6, .inl (ov h2 6 (-1)))), (e4, .inl (cZ, 12, .inl (ov t4 6 1)))]) [2, 1, 7] rfl
              have hDc := hD.sub (ws' := [(gh, .inr (5, [.int 0, gv_kind, gv_na, gv_nb, gv_nc, gv_nd, gv_ne, gv_dropped, .ref e0, .ref e1, .ref e2, .ref e3, .ref e4, .ref e5, gv_lanes, gv_least, gv_most, gv_placeLow, gv_placeHigh, .ref e6, .ref e7, gv_status, .int 1, .int 0, .int (-1), .ref g1, .ref g2, gv_laneOf, gv_sizeOf, gv_cells, gv_copied, .long seed, gv_joinedLow, gv_joinedHigh, gv_keptLow, gv_keptHigh])), (g2, .inl (cI, 6, .inl (ov h2 6 (-1)))), (e4, .inl (cZ, 12, .inl (ov t4 6 1)))]) [2, 1, 7] (by decide) rfl
              have hFc := va_free (wc := [(gh, .inr (5, [.int 0, gv_kind, gv_na, gv_nb, gv_nc, gv_nd, gv_ne, gv_dropped, .ref e0, .ref e1, .ref e2, .ref e3, .ref e4, .ref e5, gv_lanes, gv_least, gv_most, gv_placeLow, gv_placeHigh, .ref e6, .ref e7, gv_status, .int 1, .int 0, .int (-1), .ref g1, .ref g2, gv_laneOf, gv_sizeOf, gv_cells, gv_copied, .long seed, gv_joinedLow, gv_joinedHigh, gv_keptLow, gv_keptHigh])), (g2, .inl (cI, 6, .inl (ov h2 6 (-1)))), (e4, .inl (cZ, 12, .inl (ov t4 6 1)))]) hD hS hA [2, 1, 7] rfl
              refine va_calli (va_runV (As := [.int (nI i60)]) (rest := []) ⟨hx, hb, hml, hown, hts⟩ (c_X5_isSo l dC dI cI cJ cZ gh (.int 0) gv_kind gv_na gv_nb gv_nc gv_nd gv_ne gv_dropped (.ref e0) (.ref e1) (.ref e2) (.ref e3) (.ref e5) gv_lanes gv_least gv_most gv_placeLow gv_placeHigh (.ref e6) (.ref e7) gv_status (.int 1) (.int 0) (.int (-1)) (.ref g1) gv_laneOf gv_sizeOf gv_cells gv_copied (.long seed) gv_joinedLow gv_joinedHigh gv_keptLow gv_keptHigh g2 e4 h2 t4 (nI i60) H_60.size (v6_nI (by omega))) (cwV 1 hts g_X5_holds_X5_isSo_321 rfl rfl rfl (by decide +kernel) ⟨Nat.le_of_ble_eq_true rfl, Nat.le_of_ble_eq_true rfl⟩) ⟨cPre_blind, va_recv hK hPc (ci := 5) (q0 := 0) rfl rfl, cPre_of hK hN hPc hDc⟩ rfl rfl hl.1 rfl (lv_room (Nat.le_of_ble_eq_true rfl)) dX5_holds_113 ⟨Nat.le_of_ble_eq_true rfl, Nat.le_of_ble_eq_true rfl⟩) hS (fun q _ h => hFc q h) hFc (fun r_10 u_10 t_10 H_10 locs_10 ht hvm hw_10 hB hz1 hk1 hS1 => ?_)
              obtain ⟨hP1, hK1, hD1⟩ := hB
              rw [ht] at hP1
              obtain ⟨hP2, hD2⟩ := va_join (wr := [(g1, .inl (cI, 6, .inl (ov h1 6 0))), (e0, .inl (cZ, 2, .inl (upd (upd t0 0 1) 1 0))), (e1, .inl (cJ, 12, .inr (.inl (ovL t1 6 0)))), (e2, .inl (cJ, 12, .inr (.inl (ovL t2 6 0)))), (e3, .inl (cJ, 12, .inr (.inl (ovL t3 6 0)))), (e5, .inl (cZ, 80, .inl (ov t5 40 0))), (e6, .inl (cZ, 40, .inl (ov t6 40 0))), (e7, .inl (cI, 40, .inl (ov t7 40 0)))]) (w1 := [(gh, .inr (5, [.int 0, gv_kind, gv_na, gv_nb, gv_nc, gv_nd, gv_ne, gv_dropped, .ref e0, .ref e1, .ref e2, .ref e3, .ref e4, .ref e5, gv_lanes, gv_least, gv_most, gv_placeLow, gv_placeHigh, .ref e6, .ref e7, gv_status, .int 1, .int 0, .int (-1), .ref g1, .ref g2, gv_laneOf, gv_sizeOf, gv_cells, gv_copied, .long seed, gv_joinedLow, gv_joinedHigh, gv_keptLow, gv_keptHigh])), (g2, .inl (cI, 6, .inl (ov h2 6 (-1)))), (e4, .inl (cZ, 12, .inl (ov t4 6 1)))]) hP hD [2, 1, 7] [0, 3, 4, 5, 6, 8, 9, 10] rfl rfl (by decide) (by decide) hk1 hFc hP1 hD1
              clear hPc hDc hFc hP1 hD1 hK1 hk1 hz1 hvm ht
              replace hP : va_P (dC, dI) vwCl [(g1, .inl (cI, 6, .inl (ov h1 6 0))), (e0, .inl (cZ, 2, .inl (upd (upd t0 0 1) 1 0))), (e1, .inl (cJ, 12, .inr (.inl (ovL t1 6 0)))), (e2, .inl (cJ, 12, .inr (.inl (ovL t2 6 0)))), (e3, .inl (cJ, 12, .inr (.inl (ovL t3 6 0)))), (e5, .inl (cZ, 80, .inl (ov t5 40 0))), (e6, .inl (cZ, 40, .inl (ov t6 40 0))), (e7, .inl (cI, 40, .inl (ov t7 40 0))), (gh, .inr (5, [.int 0, gv_kind, gv_na, gv_nb, gv_nc, gv_nd, gv_ne, gv_dropped, .ref e0, .ref e1, .ref e2, .ref e3, .ref e4, .ref e5, gv_lanes, gv_least, gv_most, gv_placeLow, gv_placeHigh, .ref e6, .ref e7, gv_status, .int 1, .int 0, .int (-1), .ref g1, .ref g2, gv_laneOf, gv_sizeOf, gv_cells, gv_copied, .long seed, gv_joinedLow, gv_joinedHigh, gv_keptLow, gv_keptHigh])), (g2, .inl (cI, 6, .inl (ov h2 6 (-1)))), (e4, .inl (cZ, 12, .inl (ov t4 6 1)))] H_10 := hP2
              replace hD : va_D A [(g1, .inl (cI, 6, .inl (ov h1 6 0))), (e0, .inl (cZ, 2, .inl (upd (upd t0 0 1) 1 0))), (e1, .inl (cJ, 12, .inr (.inl (ovL t1 6 0)))), (e2, .inl (cJ, 12, .inr (.inl (ovL t2 6 0)))), (e3, .inl (cJ, 12, .inr (.inl (ovL t3 6 0)))), (e5, .inl (cZ, 80, .inl (ov t5 40 0))), (e6, .inl (cZ, 40, .inl (ov t6 40 0))), (e7, .inl (cI, 40, .inl (ov t7 40 0))), (gh, .inr (5, [.int 0, gv_kind, gv_na, gv_nb, gv_nc, gv_nd, gv_ne, gv_dropped, .ref e0, .ref e1, .ref e2, .ref e3, .ref e4, .ref e5, gv_lanes, gv_least, gv_most, gv_placeLow, gv_placeHigh, .ref e6, .ref e7, gv_status, .int 1, .int 0, .int (-1), .ref g1, .ref g2, gv_laneOf, gv_sizeOf, gv_cells, gv_copied, .long seed, gv_joinedLow, gv_joinedHigh, gv_keptLow, gv_keptHigh])), (g2, .inl (cI, 6, .inl (ov h2 6 (-1)))), (e4, .inl (cZ, 12, .inl (ov t4 6 1)))] := hD2
              replace hS := hS1
              clear hP2 hD2 hS1
              refine my_topi (y := 1) hw_10 ?_
              refine lv_if_eq (tgt := 123) hx hb dX5_holds_116 (by decide) (fun c_11 => ?_) (fun c_11 => ?_)
              · exact absurd c_11 (by decide)
              · -- on
                refine lv_iconst (v := 1) hx hb dX5_holds_119 (by decide) ?_
                refine lv_goto (tgt := 124) hx hb dX5_holds_120 (by decide) ?_
                refine lv_istore (lv' := [(4, .int 1), (5, .int (nI i60)), (3, .int 0), (0, .ref gh), (1, .long seed)]) hx hb dX5_holds_124 hl (by decide) rfl (fun ls1 hl1 => ?_)
                replace hl := hl1; clear hl1
                refine lv_iinc (v := nI (i60 + 1)) (lv' := [(5, .int (nI (i60 + 1))), (4, .int 1), (3, .int 0), (0, .ref gh), (1, .long seed)]) hx hb dX5_holds_126 hl (k := 1) rfl (by rw [show Int32.ofInt 1 = (1 : Int32) from by decide]; exact nI_1 _) (by decide) rfl (fun ls1 hl1 => ?_)
                replace hl := hl1; clear hl1
                refine lv_goto (tgt := 60) hx hb dX5_holds_129 (by decide) ?_
                exact ih_60 _ _ _ (hP.sub [0, 9, 8, 1, 2, 3, 4, 10, 5, 6, 7] rfl) (hD.sub [0, 9, 8, 1, 2, 3, 4, 10, 5, 6, 7] (by decide) rfl) hS (lv_sub hl [0, 1, 2, 3, 4] rfl)
  · exact absurd (by decide) c_3

def w_X5_told : List Cond := .code yX5_told cX5_told 4 (some .int) :: ([.methodLink RX5 253 yX5_flow, .instanceMethod yX5_flow, .selects RX5 yX5_flow yX5_flow, .initialized RX5, .code yX5_flow cX5_flow 3 none, .fieldLink RX5 32 "ArraySegmentsModel" "live" "[Z", .fieldLink RX5 110 "ArraySegmentsModel" "acts" "I", .fieldLink RX5 48 "ArraySegmentsModel" "there" "[Z", .fieldLink RX5 66 "ArraySegmentsModel" "reached" "[Z", .fieldLink RX5 69 "ArraySegmentsModel" "mayThrow" "[I", .fieldLink RX5 35 "ArraySegmentsModel" "low" "[J", .fieldLink RX5 39 "ArraySegmentsModel" "high" "[J", .fieldLink RX5 42 "ArraySegmentsModel" "sites" "[J", .fieldLink RX5 45 "ArraySegmentsModel" "nulls" "[Z"] ++ wsX50)
theorem inc_X5_told_X5 : ∀ w ∈ wsX50, w ∈ w_X5_told := fun _ h => List.mem_cons_of_mem _ (List.mem_append_right _ h)
set_option maxRecDepth 20000 in
theorem g_X5_told_X5_flow_253 : GoodIn w_X5_told (wsV RX5 253 RX5 yX5_flow w_X5_flow) := goodIn_r _ [1, 2, 3, 4, 5, 6, 7, 8, 9, 10, 11, 12, 13, 14, 15, 16, 17, 18, 19, 20, 21, 22, 23, 24, 25, 26, 27, 28, 29, 30, 31, 32, 33, 34, 35, 36, 37, 38, 39, 40, 41, 42, 43, 44, 45, 46, 47, 48, 49, 50] (by decide +kernel) (by decide +kernel)
abbrev pw_X5_told (cI cJ cZ : ClassId) (gh : Nat) (gv_kind : Value) (gv_na : Value) (gv_nb : Value) (gv_nc : Value) (gv_nd : Value) (gv_ne : Value) (gv_dropped : Value) (gv_lanes : Value) (gv_least : Value) (gv_most : Value) (gv_placeLow : Value) (gv_placeHigh : Value) (gv_status : Value) (gv_hasRun : Value) (gv_threw : Value) (gv_whereThrown : Value) (gv_value : Value) (gv_means : Value) (gv_laneOf : Value) (gv_sizeOf : Value) (gv_cells : Value) (gv_copied : Value) (gv_state : Value) (gv_joinedLow : Value) (gv_joinedHigh : Value) (gv_keptLow : Value) (gv_keptHigh : Value) (e0 : Nat) (e1 : Nat) (e2 : Nat) (e3 : Nat) (e4 : Nat) (e5 : Nat) (e6 : Nat) (e7 : Nat) (t0 : Nat → Int32) (t1 : Nat → Int64) (t2 : Nat → Int64) (t3 : Nat → Int64) (t4 : Nat → Int32) (t5 : Nat → Int32) (t6 : Nat → Int32) (t7 : Nat → Int32) (wa : Int32) : va_W := [(gh, .inr (5, [.int 0, gv_kind, gv_na, gv_nb, gv_nc, gv_nd, gv_ne, gv_dropped, .ref e0, .ref e1, .ref e2, .ref e3, .ref e4, .ref e5, gv_lanes, gv_least, gv_most, gv_placeLow, gv_placeHigh, .ref e6, .ref e7, gv_status, gv_hasRun, gv_threw, gv_whereThrown, gv_value, gv_means, gv_laneOf, gv_sizeOf, gv_cells, gv_copied, gv_state, gv_joinedLow, gv_joinedHigh, gv_keptLow, gv_keptHigh])), (e0, .inl (cZ, 2, .inl t0)), (e1, .inl (cJ, 12, .inr (.inl t1))), (e2, .inl (cJ, 12, .inr (.inl t2))), (e3, .inl (cJ, 12, .inr (.inl t3))), (e4, .inl (cZ, 12, .inl t4)), (e5, .inl (cZ, 80, .inl t5)), (e6, .inl (cZ, 40, .inl t6)), (e7, .inl (cI, 40, .inl t7))]
set_option maxHeartbeats 4000000 in
set_option maxRecDepth 100000 in
theorem c_X5_told (l : Launch) (dC : Nat → ClassId) (dI : Nat → Nat → Nat) (cI cJ cZ : ClassId) (gh : Nat) (gv_kind : Value) (gv_na : Value) (gv_nb : Value) (gv_nc : Value) (gv_nd : Value) (gv_ne : Value) (gv_dropped : Value) (gv_lanes : Value) (gv_least : Value) (gv_most : Value) (gv_placeLow : Value) (gv_placeHigh : Value) (gv_status : Value) (gv_hasRun : Value) (gv_threw : Value) (gv_whereThrown : Value) (gv_value : Value) (gv_means : Value) (gv_laneOf : Value) (gv_sizeOf : Value) (gv_cells : Value) (gv_copied : Value) (gv_state : Value) (gv_joinedLow : Value) (gv_joinedHigh : Value) (gv_keptLow : Value) (gv_keptHigh : Value) (e0 : Nat) (e1 : Nat) (e2 : Nat) (e3 : Nat) (e4 : Nat) (e5 : Nat) (e6 : Nat) (e7 : Nat) (t0 : Nat → Int32) (t1 : Nat → Int64) (t2 : Nat → Int64) (t3 : Nat → Int64) (t4 : Nat → Int32) (t5 : Nat → Int32) (t6 : Nat → Int32) (t7 : Nat → Int32) (wa : Int32) (sz : Nat) : Met l yX5_told w_X5_told ({ frames := 1, cells := 0, slots := 0, locals := 22 }) (va_Pc [.ref gh, .int wa] (cPre dC dI cI cJ cZ sz (pw_X5_told cI cJ cZ gh gv_kind gv_na gv_nb gv_nc gv_nd gv_ne gv_dropped gv_lanes gv_least gv_most gv_placeLow gv_placeHigh gv_status gv_hasRun gv_threw gv_whereThrown gv_value gv_means gv_laneOf gv_sizeOf gv_cells gv_copied gv_state gv_joinedLow gv_joinedHigh gv_keptLow gv_keptHigh e0 e1 e2 e3 e4 e5 e6 e7 t0 t1 t2 t3 t4 t5 t6 t7 wa))) (va_Qi (fun (r : Int32) (u : Nat → Nat) => two r (0 ≤ wa.toInt ∧ wa.toInt ≤ 4) 0 (-2)) (fun (u : Nat → Nat) => cPost dC dI cI cJ cZ (va_A (pw_X5_told cI cJ cZ gh gv_kind gv_na gv_nb gv_nc gv_nd gv_ne gv_dropped gv_lanes gv_least gv_most gv_placeLow gv_placeHigh gv_status gv_hasRun gv_threw gv_whereThrown gv_value gv_means gv_laneOf gv_sizeOf gv_cells gv_copied gv_state gv_joinedLow gv_joinedHigh gv_keptLow gv_keptHigh e0 e1 e2 e3 e4 e5 e6 e7 t0 t1 t2 t3 t4 t5 t6 t7 wa) sz) []) (va_A (pw_X5_told cI cJ cZ gh gv_kind gv_na gv_nb gv_nc gv_nd gv_ne gv_dropped gv_lanes gv_least gv_most gv_placeLow gv_placeHigh gv_status gv_hasRun gv_threw gv_whereThrown gv_value gv_means gv_laneOf gv_sizeOf gv_cells gv_copied gv_state gv_joinedLow gv_joinedHigh gv_keptLow gv_keptHigh e0 e1 e2 e3 e4 e5 e6 e7 t0 t1 t2 t3 t4 t5 t6 t7 wa) sz)) 0 0 (va_A (pw_X5_told cI cJ cZ gh gv_kind gv_na gv_nb gv_nc gv_nd gv_ne gv_dropped gv_lanes gv_least gv_most gv_placeLow gv_placeHigh gv_status gv_hasRun gv_threw gv_whereThrown gv_value gv_means gv_laneOf gv_sizeOf gv_cells gv_copied gv_state gv_joinedLow gv_joinedHigh gv_keptLow gv_keptHigh e0 e1 e2 e3 e4 e5 e6 e7 t0 t1 t2 t3 t4 t5 t6 t7 wa) sz) := by
  refine Met.ofW (cc := cX5_told) (maxL := 4) (ret := (some .int)) (by decide) rfl ?_
  intro p e s m args below meth c s₁ B hml hv
  obtain ⟨rfl, hsz, hP, hK, hD0, hN⟩ := hv
  have hx := B.exec
  have hb := B.bytes
  have hr := B.returns
  have hts := atoms_spec (ws := w_X5_told) B.pre
  have hown : s.vm.findClass RX5 = some m.cls := findClass_of_methodNamed B.named
  have hlocks := B.notSynchronized
  subst hsz
  have hD := hD0.self (sz := s.heap.size)
  generalize hAe : va_A (pw_X5_told cI cJ cZ gh gv_kind gv_na gv_nb gv_nc gv_nd gv_ne gv_dropped gv_lanes gv_least gv_most gv_placeLow gv_placeHigh gv_status gv_hasRun gv_threw gv_whereThrown gv_value gv_means gv_laneOf gv_sizeOf gv_cells gv_copied gv_state gv_joinedLow gv_joinedHigh gv_keptLow gv_keptHigh e0 e1 e2 e3 e4 e5 e6 e7 t0 t1 t2 t3 t4 t5 t6 t7 wa) s.heap.size = A at hD ⊢
  have hA : ∀ q : Nat, s.heap.size ≤ q → A q := fun q h => by rw [← hAe]; exact Or.inr h
  clear hAe hD0
  have hS : va_S A s.heap s.heap [] := va_S.rf
  replace hP : va_P (dC, dI) vwCl [(gh, .inr (5, [.int 0, gv_kind, gv_na, gv_nb, gv_nc, gv_nd, gv_ne, gv_dropped, .ref e0, .ref e1, .ref e2, .ref e3, .ref e4, .ref e5, gv_lanes, gv_least, gv_most, gv_placeLow, gv_placeHigh, .ref e6, .ref e7, gv_status, gv_hasRun, gv_threw, gv_whereThrown, gv_value, gv_means, gv_laneOf, gv_sizeOf, gv_cells, gv_copied, gv_state, gv_joinedLow, gv_joinedHigh, gv_keptLow, gv_keptHigh])), (e0, .inl (cZ, 2, .inl t0)), (e1, .inl (cJ, 12, .inr (.inl t1))), (e2, .inl (cJ, 12, .inr (.inl t2))), (e3, .inl (cJ, 12, .inr (.inl t3))), (e4, .inl (cZ, 12, .inl t4)), (e5, .inl (cZ, 80, .inl t5)), (e6, .inl (cZ, 40, .inl t6)), (e7, .inl (cI, 40, .inl t7))] s.heap := hP
  replace hD : va_D A [(gh, .inr (5, [.int 0, gv_kind, gv_na, gv_nb, gv_nc, gv_nd, gv_ne, gv_dropped, .ref e0, .ref e1, .ref e2, .ref e3, .ref e4, .ref e5, gv_lanes, gv_least, gv_most, gv_placeLow, gv_placeHigh, .ref e6, .ref e7, gv_status, gv_hasRun, gv_threw, gv_whereThrown, gv_value, gv_means, gv_laneOf, gv_sizeOf, gv_cells, gv_copied, gv_state, gv_joinedLow, gv_joinedHigh, gv_keptLow, gv_keptHigh])), (e0, .inl (cZ, 2, .inl t0)), (e1, .inl (cJ, 12, .inr (.inl t1))), (e2, .inl (cJ, 12, .inr (.inl t2))), (e3, .inl (cJ, 12, .inr (.inl t3))), (e4, .inl (cZ, 12, .inl t4)), (e5, .inl (cZ, 80, .inl t5)), (e6, .inl (cZ, 40, .inl t6)), (e7, .inl (cI, 40, .inl t7))] := hD
  have hl := lv_entry ([.ref gh, .int wa]) (n := 4) (Nat.le_of_ble_eq_true rfl)
  rw [lg_entry_eq]
  generalize (lg_sl ([.ref gh, .int wa]) ++ List.replicate (4 - (lg_sl ([.ref gh, .int wa])).length) Slot.unset).toArray = ls at hl ⊢
  replace hl : lv_has ls 4 [(0, .ref gh), (1, .int wa)] := hl
  refine lv_iload_n hx hb dX5_told_0 rfl (lv_at hl 1 rfl) ?_
  refine lv_if_lt (tgt := 9) hx hb dX5_told_1 (by decide) (fun c_1 => ?_) (fun c_1 => ?_)
  · -- yes
    have k_1 : (wa.toInt : Int) < (0 : Int) := by first | exact lt_i c_1 | simpa using lt_i c_1
    refine lv_bipush (v := (-2)) hx hb dX5_told_9 (by decide) ?_
    have hP9 := hP.sub (ws' := []) [] rfl
    have hD9 := hD.sub (ws' := []) [] (by decide) rfl
    exact W.iret (v := (-2)) hx hb hr (fun t ht hW => ⟨⟨(-2), (fun _ => 0), rfl, (by refine Or.inr ⟨rfl, ?_⟩; first | assumption | omega), by rw [ht]; exact hP9, va_K.moved hW.alike hK, hD9⟩, hS.F ht⟩) hS.2.2 dX5_told_11
  · -- no
    have k_1 : (0 : Int) ≤ (wa.toInt : Int) := by first | exact nlt_i c_1 | simpa using nlt_i c_1
    refine lv_iload_n hx hb dX5_told_4 rfl (lv_at hl 1 rfl) ?_
    refine lv_iconst (v := 4) hx hb dX5_told_5 (by decide) ?_
    refine lv_icmp_le (tgt := 12) hx hb dX5_told_6 (by decide) (fun c_2 => ?_) (fun c_2 => ?_)
    · -- yes
      have k_2 : (wa.toInt : Int) ≤ (4 : Int) := by first | exact le_i c_2 | simpa using le_i c_2
      refine lv_aload_n hx hb dX5_told_12 rfl (lv_at hl 0 rfl) ?_
      have hPc := hP.sub (ws' := [(gh, .inr (5, [.int 0, gv_kind, gv_na, gv_nb, gv_nc, gv_nd, gv_ne, gv_dropped, .ref e0, .ref e1, .ref e2, .ref e3, .ref e4, .ref e5, gv_lanes, gv_least, gv_most, gv_placeLow, gv_placeHigh, .ref e6, .ref e7, gv_status, gv_hasRun, gv_threw, gv_whereThrown, gv_value, gv_means, gv_laneOf, gv_sizeOf, gv_cells, gv_copied, gv_state, gv_joinedLow, gv_joinedHigh, gv_keptLow, gv_keptHigh])), (e0, .inl (cZ, 2, .inl t0)), (e1, .inl (cJ, 12, .inr (.inl t1))), (e2, .inl (cJ, 12, .inr (.inl t2))), (e3, .inl (cJ, 12, .inr (.inl t3))), (e4, .inl (cZ, 12, .inl t4)), (e5, .inl (cZ, 80, .inl t5)), (e6, .inl (cZ, 40, .inl t6)), (e7, .inl (cI, 40, .inl t7))]) [0, 1, 2, 3, 4, 5, 6, 7, 8] rfl
      have hDc := hD.sub (ws' := [(gh, .inr (5, [.int 0, gv_kind, gv_na, gv_nb, gv_nc, gv_nd, gv_ne, gv_dropped, .ref e0, .ref e1, .ref e2, .ref e3, .ref e4, .ref e5, gv_lanes, gv_least, gv_most, gv_placeLow, gv_placeHigh, .ref e6, .ref e7, gv_status, gv_hasRun, gv_threw, gv_whereThrown, gv_value, gv_means, gv_laneOf, gv_sizeOf, gv_cells, gv_copied, gv_state, gv_joinedLow, gv_joinedHigh, gv_keptLow, gv_keptHigh])), (e0, .inl (cZ, 2, .inl t0)), (e1, .inl (cJ, 12, .inr (.inl t1))), (e2, .inl (cJ, 12, .inr (.inl t2))), (e3, .inl (cJ, 12, .inr (.inl t3))), (e4, .inl (cZ, 12, .inl t4)), (e5, .inl (cZ, 80, .inl t5)), (e6, .inl (cZ, 40, .inl t6)), (e7, .inl (cI, 40, .inl t7))]) [0, 1, 2, 3, 4, 5, 6, 7, 8] (by decide) rfl
      have hFc := va_free (wc := [(gh, .inr (5, [.int 0, gv_kind, gv_na, gv_nb, gv_nc, gv_nd, gv_ne, gv_dropped, .ref e0, .ref e1, .ref e2, .ref e3, .ref e4, .ref e5, gv_lanes, gv_least, gv_most, gv_placeLow, gv_placeHigh, .ref e6, .ref e7, gv_status, gv_hasRun, gv_threw, gv_whereThrown, gv_value, gv_means, gv_laneOf, gv_sizeOf, gv_cells, gv_copied, gv_state, gv_joinedLow, gv_joinedHigh, gv_keptLow, gv_keptHigh])), (e0, .inl (cZ, 2, .inl t0)), (e1, .inl (cJ, 12, .inr (.inl t1))), (e2, .inl (cJ, 12, .inr (.inl t2))), (e3, .inl (cJ, 12, .inr (.inl t3))), (e4, .inl (cZ, 12, .inl t4)), (e5, .inl (cZ, 80, .inl t5)), (e6, .inl (cZ, 40, .inl t6)), (e7, .inl (cI, 40, .inl t7))]) hD hS hA [0, 1, 2, 3, 4, 5, 6, 7, 8] rfl
      refine va_callv (va_runV (As := []) (rest := []) ⟨hx, hb, hml, hown, hts⟩ (c_X5_flow l dC dI cI cJ cZ gh gv_kind gv_na gv_nb gv_nc gv_nd gv_ne gv_dropped gv_lanes gv_least gv_most gv_placeLow gv_placeHigh gv_status gv_hasRun gv_threw gv_whereThrown gv_value gv_means gv_laneOf gv_sizeOf gv_cells gv_copied gv_state gv_joinedLow gv_joinedHigh gv_keptLow gv_keptHigh e0 e1 e2 e3 e4 e5 e6 e7 t0 t1 t2 t3 t4 t5 t6 t7 s.heap.size) (cwV 0 hts g_X5_told_X5_flow_253 rfl rfl rfl (by decide +kernel) ⟨Nat.le_of_ble_eq_true rfl, Nat.le_of_ble_eq_true rfl⟩) ⟨cPre_blind, va_recv hK hPc (ci := 5) (q0 := 0) rfl rfl, cPre_of hK hN hPc hDc⟩ rfl rfl hl.1 rfl (lv_room (Nat.le_of_ble_eq_true rfl)) dX5_told_13 ⟨Nat.le_of_ble_eq_true rfl, Nat.le_of_ble_eq_true rfl⟩) hS (fun q _ h => hFc q h) hFc (fun u_3 t_3 H_3 locs_3 ht hvm hw_3 hB hz1 hk1 hS1 => ?_)
      obtain ⟨hP1, hK1, hD1⟩ := hB
      rw [ht] at hP1
      obtain ⟨hP2, hD2⟩ := va_join (wr := []) (w1 := [(gh, .inr (5, [.int 0, gv_kind, gv_na, gv_nb, gv_nc, gv_nd, gv_ne, gv_dropped, .ref e0, .ref e1, .ref e2, .ref e3, .ref e4, .ref e5, gv_lanes, gv_least, gv_most, gv_placeLow, gv_placeHigh, .ref e6, .ref e7, gv_status, gv_hasRun, gv_threw, gv_whereThrown, gv_value, gv_means, gv_laneOf, gv_sizeOf, gv_cells, gv_copied, gv_state, gv_joinedLow, gv_joinedHigh, gv_keptLow, gv_keptHigh])), (e0, .inl (cZ, 2, .inl (upd (upd t0 0 1) 1 0))), (e1, .inl (cJ, 12, .inr (.inl (ovL t1 6 0)))), (e2, .inl (cJ, 12, .inr (.inl (ovL t2 6 0)))), (e3, .inl (cJ, 12, .inr (.inl (ovL t3 6 0)))), (e4, .inl (cZ, 12, .inl (ov t4 6 1))), (e5, .inl (cZ, 80, .inl (ov t5 40 0))), (e6, .inl (cZ, 40, .inl (ov t6 40 0))), (e7, .inl (cI, 40, .inl (ov t7 40 0)))]) hP hD [0, 1, 2, 3, 4, 5, 6, 7, 8] [] rfl rfl (by decide) (by decide) hk1 hFc hP1 hD1
      clear hPc hDc hFc hP1 hD1 hK1 hk1 hz1 hvm ht
      replace hP : va_P (dC, dI) vwCl [(gh, .inr (5, [.int 0, gv_kind, gv_na, gv_nb, gv_nc, gv_nd, gv_ne, gv_dropped, .ref e0, .ref e1, .ref e2, .ref e3, .ref e4, .ref e5, gv_lanes, gv_least, gv_most, gv_placeLow, gv_placeHigh, .ref e6, .ref e7, gv_status, gv_hasRun, gv_threw, gv_whereThrown, gv_value, gv_means, gv_laneOf, gv_sizeOf, gv_cells, gv_copied, gv_state, gv_joinedLow, gv_joinedHigh, gv_keptLow, gv_keptHigh])), (e0, .inl (cZ, 2, .inl (upd (upd t0 0 1) 1 0))), (e1, .inl (cJ, 12, .inr (.inl (ovL t1 6 0)))), (e2, .inl (cJ, 12, .inr (.inl (ovL t2 6 0)))), (e3, .inl (cJ, 12, .inr (.inl (ovL t3 6 0)))), (e4, .inl (cZ, 12, .inl (ov t4 6 1))), (e5, .inl (cZ, 80, .inl (ov t5 40 0))), (e6, .inl (cZ, 40, .inl (ov t6 40 0))), (e7, .inl (cI, 40, .inl (ov t7 40 0)))] H_3 := hP2
      replace hD : va_D A [(gh, .inr (5, [.int 0, gv_kind, gv_na, gv_nb, gv_nc, gv_nd, gv_ne, gv_dropped, .ref e0, .ref e1, .ref e2, .ref e3, .ref e4, .ref e5, gv_lanes, gv_least, gv_most, gv_placeLow, gv_placeHigh, .ref e6, .ref e7, gv_status, gv_hasRun, gv_threw, gv_whereThrown, gv_value, gv_means, gv_laneOf, gv_sizeOf, gv_cells, gv_copied, gv_state, gv_joinedLow, gv_joinedHigh, gv_keptLow, gv_keptHigh])), (e0, .inl (cZ, 2, .inl (upd (upd t0 0 1) 1 0))), (e1, .inl (cJ, 12, .inr (.inl (ovL t1 6 0)))), (e2, .inl (cJ, 12, .inr (.inl (ovL t2 6 0)))), (e3, .inl (cJ, 12, .inr (.inl (ovL t3 6 0)))), (e4, .inl (cZ, 12, .inl (ov t4 6 1))), (e5, .inl (cZ, 80, .inl (ov t5 40 0))), (e6, .inl (cZ, 40, .inl (ov t6 40 0))), (e7, .inl (cI, 40, .inl (ov t7 40 0)))] := hD2
      replace hS := hS1
      clear hP2 hD2 hS1
      refine lv_iconst (v := 0) hx hb dX5_told_16 (by decide) ?_
      refine lv_istore_n (lv' := [(2, .int 0), (0, .ref gh), (1, .int wa)]) hx hb dX5_told_17 rfl hl (by decide) rfl (fun ls1 hl1 => ?_)
      replace hl := hl1; clear hl1
      refine lv_iconst (v := 0) hx hb dX5_told_18 (by decide) ?_
      refine lv_istore_n (lv' := [(3, .int 0), (2, .int 0), (0, .ref gh), (1, .int wa)]) hx hb dX5_told_19 rfl hl (by decide) rfl (fun ls1 hl1 => ?_)
      replace hl := hl1; clear hl1
      refine lv_iload_n hx hb dX5_told_20 rfl (lv_at hl 0 rfl) ?_
      refine lv_aload_n hx hb dX5_told_21 rfl (lv_at hl 2 rfl) ?_
      refine va_get (D := (dC, dI)) (ci := 5) (v := .int 0) (C := RX5) (T := TX5) (N := 36) hx hb hts inc_X5_told_X5 hown hK hP 0 rfl rfl 0 (by decide) (hts (.fieldLink RX5 110 "ArraySegmentsModel" "acts" "I") (List.mem_of_getElem? (i := 7) rfl)) (fun _ h9 => h9) rfl dX5_told_22 ?_
      refine lv_icmp_ge (tgt := 126) hx hb dX5_told_25 (by decide) (fun c_4 => ?_) (fun c_4 => ?_)
      · -- on
        refine lv_iload_n hx hb dX5_told_126 rfl (lv_at hl 3 rfl) ?_
        refine lv_if_ne (tgt := 137) hx hb dX5_told_127 (by decide) (fun c_5 => ?_) (fun c_5 => ?_)
        · -- yes
          refine lv_iload_n hx hb dX5_told_137 rfl (lv_at hl 1 rfl) ?_
          have hP9 := hP.sub (ws' := []) [] rfl
          have hD9 := hD.sub (ws' := []) [] (by decide) rfl
          exact W.iret (v := 0) hx hb hr (fun t ht hW => ⟨⟨0, (fun _ => 0), rfl, (by refine Or.inl ⟨rfl, ?_⟩; first | assumption | omega), by rw [ht]; exact hP9, va_K.moved hW.alike hK, hD9⟩, hS.F ht⟩) hS.2.2 dX5_told_138
        · -- no
          refine lv_aload_n hx hb dX5_told_130 rfl (lv_at hl 2 rfl) ?_
          refine va_get (D := (dC, dI)) (ci := 5) (v := .int 0) (C := RX5) (T := TX5) (N := 36) hx hb hts inc_X5_told_X5 hown hK hP 0 rfl rfl 0 (by decide) (hts (.fieldLink RX5 110 "ArraySegmentsModel" "acts" "I") (List.mem_of_getElem? (i := 7) rfl)) (fun _ h9 => h9) rfl dX5_told_131 ?_
          refine lv_goto (tgt := 138) hx hb dX5_told_134 (by decide) ?_
          have hP9 := hP.sub (ws' := []) [] rfl
          have hD9 := hD.sub (ws' := []) [] (by decide) rfl
          exact W.iret (v := 0) hx hb hr (fun t ht hW => ⟨⟨0, (fun _ => 0), rfl, (by refine Or.inl ⟨rfl, ?_⟩; first | assumption | omega), by rw [ht]; exact hP9, va_K.moved hW.alike hK, hD9⟩, hS.F ht⟩) hS.2.2 dX5_told_138
      · exact absurd (by decide) c_4
    · -- no
      have k_2 : (4 : Int) < (wa.toInt : Int) := by first | exact nle_i c_2 | simpa using nle_i c_2
      refine lv_bipush (v := (-2)) hx hb dX5_told_9 (by decide) ?_
      have hP9 := hP.sub (ws' := []) [] rfl
      have hD9 := hD.sub (ws' := []) [] (by decide) rfl
      exact W.iret (v := (-2)) hx hb hr (fun t ht hW => ⟨⟨(-2), (fun _ => 0), rfl, (by refine Or.inr ⟨rfl, ?_⟩; first | assumption | omega), by rw [ht]; exact hP9, va_K.moved hW.alike hK, hD9⟩, hS.F ht⟩) hS.2.2 dX5_told_11
