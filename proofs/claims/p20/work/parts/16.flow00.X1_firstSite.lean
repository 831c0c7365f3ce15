def v_X1_firstSite : List Cond := .code yX1_firstSite cX1_firstSite 3 (some .int) :: ([.initialized RX4, .static yX4_isIn] ++ (v_X4_isIn))
theorem im_X1_firstSite_X4_isIn : ∀ w ∈ v_X4_isIn, w ∈ v_X1_firstSite := fun _ h => List.mem_cons_of_mem _ (List.mem_append_right _ (h))
set_option maxRecDepth 20000 in
theorem gd_X1_firstSite : gdL v_X1_firstSite := gdC (gdW (by decide +kernel)) (gdA (gdW (by decide +kernel)) gd_X4_isIn)
theorem h_X1_firstSite_X4_isIn_155 : GoodIn v_X1_firstSite (v_X4_isIn) := fun w h => ⟨im_X1_firstSite_X4_isIn w h, gd_X4_isIn w h⟩
abbrev sw_X1_firstSite (cI cJ cZ : ClassId) (ala : Int64) : va_W := []
set_option maxHeartbeats 8000000 in
set_option maxRecDepth 100000 in
theorem s_X1_firstSite (l : Launch) (dC : Nat → ClassId) (dI : Nat → Nat → Nat) (cI cJ cZ : ClassId) (ala : Int64) (sz : Nat) : Met l yX1_firstSite v_X1_firstSite ({ frames := 1, cells := 0, slots := 0, locals := 22 }) (va_Pc [.long ala] (cPre dC dI cI cJ cZ sz (sw_X1_firstSite cI cJ cZ ala))) (va_Qi (fun (r : Int32) (u : Unit) => ((0 ≤ r.toInt ∧ r.toInt ≤ 39) ∧ (∀ j : Nat, j < 40 → sbit ala j → sbit ala r.toNatClampNeg))) (fun (u : Unit) => cPost dC dI cI cJ cZ (va_A (sw_X1_firstSite cI cJ cZ ala) sz) []) (va_A (sw_X1_firstSite cI cJ cZ ala) sz)) 0 0 (va_A (sw_X1_firstSite cI cJ cZ ala) sz) := by
  refine Met.ofW (cc := cX1_firstSite) (maxL := 3) (ret := (some .int)) (by decide) rfl ?_
  intro p e s m args below meth c s₁ B hml hv
  obtain ⟨rfl, hsz, hP, hK, hD0, hN⟩ := hv
  have hx := B.exec
  have hb := B.bytes
  have hr := B.returns
  have hts := atoms_spec (ws := v_X1_firstSite) B.pre
  have hown : s.vm.findClass RX1 = some m.cls := findClass_of_methodNamed B.named
  have hlocks := B.notSynchronized
  subst hsz
  have hD := hD0.self (sz := s.heap.size)
  generalize hAe : va_A (sw_X1_firstSite cI cJ cZ ala) s.heap.size = A at hD ⊢
  have hA : ∀ q : Nat, s.heap.size ≤ q → A q := fun q h => by rw [← hAe]; exact Or.inr h
  clear hAe hD0
  have hS : va_S A s.heap s.heap [] := va_S.rf
  replace hP : va_P (dC, dI) vwCl [] s.heap := hP
  replace hD : va_D A [] := hD
  have hl := lv_entry ([.long ala]) (n := 3) (Nat.le_of_ble_eq_true rfl)
  rw [lg_entry_eq]
  generalize (lg_sl ([.long ala]) ++ List.replicate (3 - (lg_sl ([.long ala])).length) Slot.unset).toArray = ls at hl ⊢
  replace hl : lv_has ls 3 [(0, .long ala)] := hl
  have z_0 : (0 : Int32).toInt = 0 := by decide
  have z_1 : (1 : Int32).toInt = 1 := by decide
  have z_40 : (40 : Int32).toInt = 40 := by decide
  refine lv_iconst (v := 0) hx hb dX1_firstSite_0 (by decide) ?_
  refine lv_istore_n (lv' := [(2, .int 0), (0, .long ala)]) hx hb dX1_firstSite_1 rfl hl (by decide) rfl (fun ls1 hl1 => ?_)
  replace hl := hl1; clear hl1
  refine my_wloop (S := Int32) (fun u => (0 ≤ (u).toInt ∧ (u).toInt ≤ 40) ∧ (∀ j : Nat, (j : Int) < (u).toInt → ¬ sbit ala j)) (fun u => (40 - (u).toInt).toNat) (fun u => []) (fun u => [(2, .int (u)), (0, .long ala)]) (H0 := s.heap) (A := A) (D := (dC, dI)) (cl := vwCl) (0 : Int32) (show (0 ≤ (0 : Int32).toInt ∧ (0 : Int32).toInt ≤ 40) ∧ (∀ j : Nat, (j : Int) < (0 : Int32).toInt → ¬ sbit ala j) from ⟨⟨by omega, by omega⟩, (fun j hj => by omega)⟩) (by exact hP) (by exact hD) hS (by exact hl) (fun u_1 hu_1 ih_1 H_1 locs_1 ls1 hP1 hD1 hS1 hl1 => ?_)
  obtain ⟨v_2, rfl⟩ : ∃ z, z = u_1 := ⟨_, rfl⟩
  replace hu_1 : (0 ≤ v_2.toInt ∧ v_2.toInt ≤ 40) ∧ (∀ j : Nat, (j : Int) < v_2.toInt → ¬ sbit ala j) := hu_1
  obtain ⟨q_v_2, x_1_0⟩ := hu_1
  replace hP : va_P (dC, dI) vwCl [] H_1 := hP1
  replace hD : va_D A [] := hD1
  replace hS := hS1
  clear hP1 hD1 hS1
  replace hl : lv_has ls1 3 [(2, .int v_2), (0, .long ala)] := hl1
  clear hl1
  refine lv_iload_n hx hb dX1_firstSite_2 rfl (lv_at hl 0 rfl) ?_
  refine lv_bipush (v := 40) hx hb dX1_firstSite_3 (by decide) ?_
  refine lv_icmp_ge (tgt := 24) hx hb dX1_firstSite_5 (by decide) (fun c_3 => ?_) (fun c_3 => ?_)
  · -- yes
    have k_3 : (40 : Int32).toInt ≤ v_2.toInt := ci_ge c_3
    refine lv_iconst (v := 0) hx hb dX1_firstSite_24 (by decide) ?_
    have hP9 := hP.sub (ws' := []) [] rfl
    have hD9 := hD.sub (ws' := []) [] (by decide) rfl
    exact W.iret (v := 0) hx hb hr (fun t ht hW => ⟨⟨0, (), rfl, (show (0 ≤ (0 : Int32).toInt ∧ (0 : Int32).toInt ≤ 39) ∧ (∀ j : Nat, j < 40 → sbit ala j → sbit ala (0 : Int32).toNatClampNeg) from ⟨by omega, fun j hj h => absurd h (x_1_0 j (by omega))⟩), by rw [ht]; exact hP9, va_K.moved hW.alike hK, hD9⟩, hS.F ht⟩) hS.2.2 dX1_firstSite_25
  · -- no
    have k_3 : v_2.toInt < (40 : Int32).toInt := ci_nge c_3
    refine lv_lload_n hx hb dX1_firstSite_8 rfl (lv_at hl 1 rfl) ?_
    refine lv_iload_n hx hb dX1_firstSite_9 rfl (lv_at hl 0 rfl) ?_
    refine vp_callSi (va_runSN (As := [.long ala, .int v_2]) (rest := []) ⟨hx, hb, hml, hown, hts⟩ (s_X4_isIn l ala v_2 (by first | assumption | omega)) (⟨va_cnB 2 hts h_X1_firstSite_X4_isIn_155 rfl rfl rfl (hN.2.2.2.2.2.2.2.1) (hts (.initialized RX4) (List.mem_of_getElem? (i := 1) rfl)) (by decide +kernel) ⟨Nat.le_of_ble_eq_true rfl, Nat.le_of_ble_eq_true rfl⟩, hts (.static yX4_isIn) (List.mem_of_getElem? (i := 2) rfl), trivial⟩) ⟨fun _ _ _ _ q => q, fun _ _ _ => ⟨rfl, trivial⟩⟩ rfl rfl hl.1 rfl (lv_room (Nat.le_of_ble_eq_true rfl)) dX1_firstSite_10 ⟨Nat.le_of_ble_eq_true rfl, Nat.le_of_ble_eq_true rfl⟩).run (fun r_4 hw_4 => ?_)
    replace hw_4 : (two r_4 (sbit ala (v_2).toNatClampNeg) 1 0) := hw_4
    have q_r_4 := hw_4
    refine lv_if_eq (tgt := 18) hx hb dX1_firstSite_13 (by decide) (fun c_5 => ?_) (fun c_5 => ?_)
    · -- yes
      have k_5 : r_4.toInt = (0 : Int32).toInt := ci_eq c_5
      have kt_5 : ¬ (sbit ala (v_2).toNatClampNeg) := two_z q_r_4 c_5
      refine sf_iinc hx hb dX1_firstSite_18 hl (k := 0) (x := v_2) (w := 1) rfl (by decide) (by decide) ⟨by omega, by omega⟩ (fun v_6 q_v_6 ls1 hl1 => ?_)
      replace hl : lv_has ls1 3 [(2, .int v_6), (0, .long ala)] := hl1
      clear hl1
      refine lv_goto (tgt := 2) hx hb dX1_firstSite_21 (by decide) ?_
      exact ih_1 v_6 (show (0 ≤ v_6.toInt ∧ v_6.toInt ≤ 40) ∧ (∀ j : Nat, (j : Int) < v_6.toInt → ¬ sbit ala j) from ⟨⟨by omega, by omega⟩, (fun j hj => by have b7 := nn_cl2 v_2; by_cases hq : j = (v_2).toNatClampNeg; (· subst hq; exact kt_5); (· exact x_1_0 j (by omega)))⟩) (by show (40 - v_6.toInt).toNat < (40 - v_2.toInt).toNat; omega) _ _ _ (hP.sub [] rfl) (hD.sub [] (by decide) rfl) hS (lv_sub hl [0, 1] rfl)
    · -- no
      have k_5 : ¬ r_4.toInt = (0 : Int32).toInt := ci_ne c_5
      have kt_5 : sbit ala (v_2).toNatClampNeg := two_nz q_r_4 c_5
      refine lv_iload_n hx hb dX1_firstSite_16 rfl (lv_at hl 0 rfl) ?_
      have hP9 := hP.sub (ws' := []) [] rfl
      have hD9 := hD.sub (ws' := []) [] (by decide) rfl
      exact W.iret (v := v_2) hx hb hr (fun t ht hW => ⟨⟨v_2, (), rfl, (show (0 ≤ v_2.toInt ∧ v_2.toInt ≤ 39) ∧ (∀ j : Nat, j < 40 → sbit ala j → sbit ala v_2.toNatClampNeg) from ⟨by omega, fun j hj h => kt_5⟩), by rw [ht]; exact hP9, va_K.moved hW.alike hK, hD9⟩, hS.F ht⟩) hS.2.2 dX1_firstSite_17
