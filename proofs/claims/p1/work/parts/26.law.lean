set_option maxHeartbeats 40000000 in
set_option maxRecDepth 100000 in
theorem whole_start {p : Program} {e : Env} {s : State} {m : MethodId} {below : List Frame} {meth : Method} {c : Code} (l : Launch) {b L : Nat} {xs : Nat → Int32} (hL : L ≤ 7) (C0 : lw_At p s m meth c b L xs) : W p l e room_1 s m #[Value.ref b] below meth c s.heap [] 0 0 (lw_Z below #[Value.ref b] s) (entryFrame m ([Value.ref b] : List Value).toArray 4) := by
  obtain ⟨hx, hb, hr, hml, hown0, hts0, hX, hbl, hlocks, hgv⟩ := id C0
  have hts : ∀ w ∈ w_L_law, w.before #[Value.ref b] s = true := fun w h => hts0 w (w_L_law_in w h)
  have hown : s.vm.findClass RL = some m.cls := hown0
  have hA : ∀ q : Nat, s.heap.size ≤ q → (fun q : Nat => s.heap.size ≤ q) q := fun _ h => h
  have hbA : ¬ (fun q : Nat => s.heap.size ≤ q) b := Nat.not_le.mpr hbl
  obtain ⟨c0, iS0, hKn0⟩ := u_known (C := RX0) (T := TX0) (N := 11) (n := 11) hts inc_L_law_X0 (hts (.instantiable RX0 11) (List.mem_of_getElem? (i := 0) rfl))
  obtain ⟨c1, iS1, hKn1⟩ := u_known (C := RX1) (T := TX1) (N := 8) (n := 8) hts inc_L_law_X1 (hts (.instantiable RX1 8) (List.mem_of_getElem? (i := 1) rfl))
  obtain ⟨c2, iS2, hKn2⟩ := u_known (C := RX2) (T := TX2) (N := 9) (n := 9) hts inc_L_law_X2 (hts (.instantiable RX2 9) (List.mem_of_getElem? (i := 2) rfl))
  obtain ⟨c3, iS3, hKn3⟩ := u_known (C := RX3) (T := TX3) (N := 3) (n := 3) hts inc_L_law_X3 (hts (.instantiable RX3 3) (List.mem_of_getElem? (i := 3) rfl))
  obtain ⟨c4, iS4, hKn4⟩ := u_known (C := RX4) (T := TX4) (N := 4) (n := 4) hts inc_L_law_X4 (hts (.instantiable RX4 4) (List.mem_of_getElem? (i := 4) rfl))
  obtain ⟨c5, iS5, hKn5⟩ := u_known (C := RX5) (T := TX5) (N := 36) (n := 36) hts inc_L_law_X5 (hts (.instantiable RX5 36) (List.mem_of_getElem? (i := 5) rfl))
  obtain ⟨dC, dI, hKc⟩ : ∃ (dC : Nat → ClassId) (dI : Nat → Nat → Nat), ∀ (k : Nat) (q : vw_C), vwCl[k]? = some q → u_Kn s q.1 q.2.1 q.2.2 (dC k) (dI k) := by
    refine ⟨fun k => if k = 0 then c0 else if k = 1 then c1 else if k = 2 then c2 else if k = 3 then c3 else if k = 4 then c4 else c5, fun k => if k = 0 then iS0 else if k = 1 then iS1 else if k = 2 then iS2 else if k = 3 then iS3 else if k = 4 then iS4 else iS5, ?_⟩
    intro k q hq
    match k, hq with
    | 0, hq => cases hq; exact hKn0
    | 1, hq => cases hq; exact hKn1
    | 2, hq => cases hq; exact hKn2
    | 3, hq => cases hq; exact hKn3
    | 4, hq => cases hq; exact hKn4
    | 5, hq => cases hq; exact hKn5
    | k + 6, hq => simp [vwCl] at hq
  obtain ⟨cI, aI⟩ := arr_int (hts (.arrayClass .int) (List.mem_of_getElem? (i := 6) rfl))
  obtain ⟨cJ, aJ⟩ := arr_long (hts (.arrayClass .long) (List.mem_of_getElem? (i := 7) rfl))
  obtain ⟨cZ, aZ⟩ := arr_boolean (hts (.arrayClass .boolean) (List.mem_of_getElem? (i := 8) rfl))
  have hK : va_K (dC, dI) vwCl (ty3 cI cJ cZ) s := ⟨hKc, fun k q h => by
    match k, h with
    | 0, h => cases h; exact aI
    | 1, h => cases h; exact aJ
    | 2, h => cases h; exact aZ
    | k + 3, h => simp [ty3] at h⟩
  have hN : nwAll s := ⟨va_Nw.of rfl (hts0 (.methodLinkNest RX4 9 yX3_init RX4) (List.mem_of_getElem? (i := 98) (by decide +kernel))), va_Nw.of rfl (hts0 (.methodLinkNest RX4 18 yX1_init RX4) (List.mem_of_getElem? (i := 121) (by decide +kernel))), va_Nw.of rfl (hts0 (.methodLinkNest RX1 11 yX0_init RX4) (List.mem_of_getElem? (i := 127) (by decide +kernel))), va_Nw.of rfl (hts0 (.methodLinkNest RX3 23 yX4_isVariable RX4) (List.mem_of_getElem? (i := 294) (by decide +kernel))), va_Nw.of rfl (hts0 (.methodLinkNest RX3 27 yX4_isNumber RX4) (List.mem_of_getElem? (i := 297) (by decide +kernel))), va_Nw.of rfl (hts0 (.methodLinkNest RX3 30 yX4_isReference RX4) (List.mem_of_getElem? (i := 302) (by decide +kernel))), va_Nw.of rfl (hts0 (.methodLinkNest RX3 33 yX4_isLane RX4) (List.mem_of_getElem? (i := 305) (by decide +kernel)))⟩
  have hP : va_P (dC, dI) vwCl [] s.heap := fun k q h => by simp at h
  have hD : va_D (fun q : Nat => s.heap.size ≤ q) [] := ⟨fun i j p q h => by simp at h, fun k q h => by simp at h⟩
  have hS : va_S (fun q : Nat => s.heap.size ≤ q) s.heap s.heap [] := va_S.rf
  clear hKc aI aJ aZ hKn0 hKn1 hKn2 hKn3 hKn4 hKn5 hgv hown0
  have hl := lv_entry ([.ref b]) (n := 4) (Nat.le_of_ble_eq_true rfl)
  rw [lg_entry_eq]
  generalize (lg_sl ([.ref b]) ++ List.replicate (4 - (lg_sl ([.ref b])).length) Slot.unset).toArray = ls at hl ⊢
  replace hl : lv_has ls 4 [(0, .ref b)] := hl
  refine va_new (ci := 4) (fs := [.null, .null, .null, .int 0]) (C := RX4) (T := TX4) (N := 4) hx hb hts inc_L_law_X4 tyX4 tyX4_ok hown (hts (.classLink RL 7 RX4) (List.mem_of_getElem? (i := 9) rfl)) (hts (.instantiable RX4 4) (List.mem_of_getElem? (i := 4) rfl)) (hts (.initialized RX4) (List.mem_of_getElem? (i := 10) rfl)) hK hP hD hS hA rfl (fun j hj => by rcases (show j = 0 ∨ j = 1 ∨ j = 2 ∨ j = 3 by omega) with rfl | rfl | rfl | rfl <;> rfl) (Nat.le_of_ble_eq_true rfl) (Nat.le_of_ble_eq_true rfl) dL_law_0 (fun q_1 H_1 hP1 hD1 hS1 => ?_)
  replace hP : va_P (dC, dI) vwCl [(q_1, .inr (4, [.null, .null, .null, .int 0]))] H_1 := hP1
  replace hD : va_D (fun q : Nat => s.heap.size ≤ q) [(q_1, .inr (4, [.null, .null, .null, .int 0]))] := hD1
  replace hS := hS1
  clear hP1 hD1 hS1
  refine W.widen (k := 1) (n := 4) (Nat.le_of_ble_eq_true rfl) (Nat.le_of_ble_eq_true rfl) ?_
  refine lv_dup hx hb dL_law_3 rfl ?_
  have hPc := hP.sub (ws' := [(q_1, .inr (4, [.null, .null, .null, .int 0]))]) [0] rfl
  have hDc := hD.sub (ws' := [(q_1, .inr (4, [.null, .null, .null, .int 0]))]) [0] (by decide) rfl
  have hFc := va_free (wc := [(q_1, .inr (4, [.null, .null, .null, .int 0]))]) hD hS hA [0] rfl
  refine va_callv (va_runI (As := []) (rest := [.ref q_1]) ⟨hx, hb, hml, hown, hts⟩ (c_X4_init l dC dI cI cJ cZ q_1 H_1.size) (cwI 0 hts g_L_law_X4_init_9 rfl rfl rfl (hts (.initialized RX4) (List.mem_of_getElem? (i := 10) rfl)) (hts (.methodLink RL 9 yX4_init) (List.mem_of_getElem? (i := 75) rfl)) (hts (.instanceMethod yX4_init) (List.mem_of_getElem? (i := 76) rfl)) rfl (by decide +kernel) ⟨Nat.le_of_ble_eq_true rfl, Nat.le_of_ble_eq_true rfl⟩) ⟨cPre_blind, cPre_of hK hN hPc hDc⟩ rfl rfl hl.1 rfl (lv_room (Nat.le_of_ble_eq_true rfl)) dL_law_4 ⟨Nat.le_of_ble_eq_true rfl, Nat.le_of_ble_eq_true rfl⟩) hS (fun q _ h => hFc q h) hFc (fun u_2 t_2 H_2 locs_2 ht hvm hw_2 hB hz1 hk1 hS1 => ?_)
  obtain ⟨hP1, hK1, hD1⟩ := hB
  rw [ht] at hP1
  obtain ⟨hP2, hD2⟩ := va_join (wr := []) (w1 := [(q_1, .inr (4, [.ref (u_2 0), .ref (u_2 3), .ref (u_2 28), .int 0])), ((u_2 0), .inr (3, [.ref (u_2 1), .ref (u_2 2), .int 0])), ((u_2 1), .inl (cI, 240, .inl (fun _ => 0))), ((u_2 2), .inl (cZ, 40, .inl (fun _ => 0))), ((u_2 3), .inr (1, [.ref (u_2 4), .ref (u_2 15), .int 1, .ref (u_2 26), .ref (u_2 27), .int 0, .int 0, .int 0])), ((u_2 4), .inr (0, [.int 0, .ref (u_2 5), .ref (u_2 6), .ref (u_2 7), .ref (u_2 8), .ref (u_2 9), .ref (u_2 10), .ref (u_2 11), .ref (u_2 12), .ref (u_2 13), .ref (u_2 14)])), ((u_2 5), .inl (cI, 6, .inl (fun _ => 0))), ((u_2 6), .inl (cI, 6, .inl (fun _ => 0))), ((u_2 7), .inl (cJ, 6, .inr (.inl (fun _ => 0)))), ((u_2 8), .inl (cZ, 6, .inl (fun _ => 0))), ((u_2 9), .inl (cZ, 40, .inl (fun _ => 0))), ((u_2 10), .inl (cI, 40, .inl (fun _ => 0))), ((u_2 11), .inl (cI, 40, .inl (fun _ => 0))), ((u_2 12), .inl (cI, 40, .inl (fun _ => 0))), ((u_2 13), .inl (cI, 480, .inl (fun _ => 0))), ((u_2 14), .inl (cI, 480, .inl (fun _ => 0))), ((u_2 15), .inr (0, [.int 0, .ref (u_2 16), .ref (u_2 17), .ref (u_2 18), .ref (u_2 19), .ref (u_2 20), .ref (u_2 21), .ref (u_2 22), .ref (u_2 23), .ref (u_2 24), .ref (u_2 25)])), ((u_2 16), .inl (cI, 6, .inl (fun _ => 0))), ((u_2 17), .inl (cI, 6, .inl (fun _ => 0))), ((u_2 18), .inl (cJ, 6, .inr (.inl (fun _ => 0)))), ((u_2 19), .inl (cZ, 6, .inl (fun _ => 0))), ((u_2 20), .inl (cZ, 40, .inl (fun _ => 0))), ((u_2 21), .inl (cI, 40, .inl (fun _ => 0))), ((u_2 22), .inl (cI, 40, .inl (fun _ => 0))), ((u_2 23), .inl (cI, 40, .inl (fun _ => 0))), ((u_2 24), .inl (cI, 480, .inl (fun _ => 0))), ((u_2 25), .inl (cI, 480, .inl (fun _ => 0))), ((u_2 26), .inl (cZ, 40, .inl (fun _ => 0))), ((u_2 27), .inl (cI, 40, .inl (fun _ => 0))), ((u_2 28), .inr (2, [.int 0, .int 0, .int (-1), .ref (u_2 29), .ref (u_2 30), .ref (u_2 31), .ref (u_2 32), .ref (u_2 33), .long 0])), ((u_2 29), .inl (cI, 6, .inl (ov (fun _ => 0) 6 0))), ((u_2 30), .inl (cI, 6, .inl (ov (fun _ => 0) 6 (-1)))), ((u_2 31), .inl (cI, 40, .inl (fun _ => 0))), ((u_2 32), .inl (cI, 40, .inl (fun _ => 0))), ((u_2 33), .inl (cI, 480, .inl (fun _ => 0)))]) hP hD [0] [] rfl rfl (by decide) (by decide) hk1 hFc hP1 hD1
  clear hPc hDc hFc hP1 hD1 hK1 hk1 hz1 hvm ht
  replace hP : va_P (dC, dI) vwCl [(q_1, .inr (4, [.ref (u_2 0), .ref (u_2 3), .ref (u_2 28), .int 0])), ((u_2 0), .inr (3, [.ref (u_2 1), .ref (u_2 2), .int 0])), ((u_2 1), .inl (cI, 240, .inl (fun _ => 0))), ((u_2 2), .inl (cZ, 40, .inl (fun _ => 0))), ((u_2 3), .inr (1, [.ref (u_2 4), .ref (u_2 15), .int 1, .ref (u_2 26), .ref (u_2 27), .int 0, .int 0, .int 0])), ((u_2 4), .inr (0, [.int 0, .ref (u_2 5), .ref (u_2 6), .ref (u_2 7), .ref (u_2 8), .ref (u_2 9), .ref (u_2 10), .ref (u_2 11), .ref (u_2 12), .ref (u_2 13), .ref (u_2 14)])), ((u_2 5), .inl (cI, 6, .inl (fun _ => 0))), ((u_2 6), .inl (cI, 6, .inl (fun _ => 0))), ((u_2 7), .inl (cJ, 6, .inr (.inl (fun _ => 0)))), ((u_2 8), .inl (cZ, 6, .inl (fun _ => 0))), ((u_2 9), .inl (cZ, 40, .inl (fun _ => 0))), ((u_2 10), .inl (cI, 40, .inl (fun _ => 0))), ((u_2 11), .inl (cI, 40, .inl (fun _ => 0))), ((u_2 12), .inl (cI, 40, .inl (fun _ => 0))), ((u_2 13), .inl (cI, 480, .inl (fun _ => 0))), ((u_2 14), .inl (cI, 480, .inl (fun _ => 0))), ((u_2 15), .inr (0, [.int 0, .ref (u_2 16), .ref (u_2 17), .ref (u_2 18), .ref (u_2 19), .ref (u_2 20), .ref (u_2 21), .ref (u_2 22), .ref (u_2 23), .ref (u_2 24), .ref (u_2 25)])), ((u_2 16), .inl (cI, 6, .inl (fun _ => 0))), ((u_2 17), .inl (cI, 6, .inl (fun _ => 0))), ((u_2 18), .inl (cJ, 6, .inr (.inl (fun _ => 0)))), ((u_2 19), .inl (cZ, 6, .inl (fun _ => 0))), ((u_2 20), .inl (cZ, 40, .inl (fun _ => 0))), ((u_2 21), .inl (cI, 40, .inl (fun _ => 0))), ((u_2 22), .inl (cI, 40, .inl (fun _ => 0))), ((u_2 23), .inl (cI, 40, .inl (fun _ => 0))), ((u_2 24), .inl (cI, 480, .inl (fun _ => 0))), ((u_2 25), .inl (cI, 480, .inl (fun _ => 0))), ((u_2 26), .inl (cZ, 40, .inl (fun _ => 0))), ((u_2 27), .inl (cI, 40, .inl (fun _ => 0))), ((u_2 28), .inr (2, [.int 0, .int 0, .int (-1), .ref (u_2 29), .ref (u_2 30), .ref (u_2 31), .ref (u_2 32), .ref (u_2 33), .long 0])), ((u_2 29), .inl (cI, 6, .inl (ov (fun _ => 0) 6 0))), ((u_2 30), .inl (cI, 6, .inl (ov (fun _ => 0) 6 (-1)))), ((u_2 31), .inl (cI, 40, .inl (fun _ => 0))), ((u_2 32), .inl (cI, 40, .inl (fun _ => 0))), ((u_2 33), .inl (cI, 480, .inl (fun _ => 0)))] H_2 := hP2
  replace hD : va_D (fun q : Nat => s.heap.size ≤ q) [(q_1, .inr (4, [.ref (u_2 0), .ref (u_2 3), .ref (u_2 28), .int 0])), ((u_2 0), .inr (3, [.ref (u_2 1), .ref (u_2 2), .int 0])), ((u_2 1), .inl (cI, 240, .inl (fun _ => 0))), ((u_2 2), .inl (cZ, 40, .inl (fun _ => 0))), ((u_2 3), .inr (1, [.ref (u_2 4), .ref (u_2 15), .int 1, .ref (u_2 26), .ref (u_2 27), .int 0, .int 0, .int 0])), ((u_2 4), .inr (0, [.int 0, .ref (u_2 5), .ref (u_2 6), .ref (u_2 7), .ref (u_2 8), .ref (u_2 9), .ref (u_2 10), .ref (u_2 11), .ref (u_2 12), .ref (u_2 13), .ref (u_2 14)])), ((u_2 5), .inl (cI, 6, .inl (fun _ => 0))), ((u_2 6), .inl (cI, 6, .inl (fun _ => 0))), ((u_2 7), .inl (cJ, 6, .inr (.inl (fun _ => 0)))), ((u_2 8), .inl (cZ, 6, .inl (fun _ => 0))), ((u_2 9), .inl (cZ, 40, .inl (fun _ => 0))), ((u_2 10), .inl (cI, 40, .inl (fun _ => 0))), ((u_2 11), .inl (cI, 40, .inl (fun _ => 0))), ((u_2 12), .inl (cI, 40, .inl (fun _ => 0))), ((u_2 13), .inl (cI, 480, .inl (fun _ => 0))), ((u_2 14), .inl (cI, 480, .inl (fun _ => 0))), ((u_2 15), .inr (0, [.int 0, .ref (u_2 16), .ref (u_2 17), .ref (u_2 18), .ref (u_2 19), .ref (u_2 20), .ref (u_2 21), .ref (u_2 22), .ref (u_2 23), .ref (u_2 24), .ref (u_2 25)])), ((u_2 16), .inl (cI, 6, .inl (fun _ => 0))), ((u_2 17), .inl (cI, 6, .inl (fun _ => 0))), ((u_2 18), .inl (cJ, 6, .inr (.inl (fun _ => 0)))), ((u_2 19), .inl (cZ, 6, .inl (fun _ => 0))), ((u_2 20), .inl (cZ, 40, .inl (fun _ => 0))), ((u_2 21), .inl (cI, 40, .inl (fun _ => 0))), ((u_2 22), .inl (cI, 40, .inl (fun _ => 0))), ((u_2 23), .inl (cI, 40, .inl (fun _ => 0))), ((u_2 24), .inl (cI, 480, .inl (fun _ => 0))), ((u_2 25), .inl (cI, 480, .inl (fun _ => 0))), ((u_2 26), .inl (cZ, 40, .inl (fun _ => 0))), ((u_2 27), .inl (cI, 40, .inl (fun _ => 0))), ((u_2 28), .inr (2, [.int 0, .int 0, .int (-1), .ref (u_2 29), .ref (u_2 30), .ref (u_2 31), .ref (u_2 32), .ref (u_2 33), .long 0])), ((u_2 29), .inl (cI, 6, .inl (ov (fun _ => 0) 6 0))), ((u_2 30), .inl (cI, 6, .inl (ov (fun _ => 0) 6 (-1)))), ((u_2 31), .inl (cI, 40, .inl (fun _ => 0))), ((u_2 32), .inl (cI, 40, .inl (fun _ => 0))), ((u_2 33), .inl (cI, 480, .inl (fun _ => 0)))] := hD2
  replace hS := hS1
  clear hP2 hD2 hS1
  refine W.widen (k := 35) (n := 3266) (Nat.le_of_ble_eq_true rfl) (Nat.le_of_ble_eq_true rfl) ?_
  refine lv_astore_n (lv' := [(1, .ref q_1), (0, .ref b)]) hx hb dL_law_7 rfl hl (by decide) rfl (fun ls1 hl1 => ?_)
  replace hl := hl1; clear hl1
  refine va_new (ci := 5) (fs := [.int 0, .null, .null, .null, .null, .null, .null, .null, .null, .null, .null, .null, .null, .null, .null, .null, .null, .null, .null, .null, .null, .int 0, .int 0, .int 0, .int 0, .null, .null, .null, .null, .null, .null, .long 0, .long 0, .long 0, .null, .null]) (C := RX5) (T := TX5) (N := 36) hx hb hts inc_L_law_X5 tyX5 tyX5_ok hown (hts (.classLink RL 10 RX5) (List.mem_of_getElem? (i := 77) rfl)) (hts (.instantiable RX5 36) (List.mem_of_getElem? (i := 5) rfl)) (hts (.initialized RX5) (List.mem_of_getElem? (i := 78) rfl)) hK hP hD hS hA rfl (fun j hj => by rcases (show j = 0 ∨ j = 1 ∨ j = 2 ∨ j = 3 ∨ j = 4 ∨ j = 5 ∨ j = 6 ∨ j = 7 ∨ j = 8 ∨ j = 9 ∨ j = 10 ∨ j = 11 ∨ j = 12 ∨ j = 13 ∨ j = 14 ∨ j = 15 ∨ j = 16 ∨ j = 17 ∨ j = 18 ∨ j = 19 ∨ j = 20 ∨ j = 21 ∨ j = 22 ∨ j = 23 ∨ j = 24 ∨ j = 25 ∨ j = 26 ∨ j = 27 ∨ j = 28 ∨ j = 29 ∨ j = 30 ∨ j = 31 ∨ j = 32 ∨ j = 33 ∨ j = 34 ∨ j = 35 by omega) with rfl | rfl | rfl | rfl | rfl | rfl | rfl | rfl | rfl | rfl | rfl | rfl | rfl | rfl | rfl | rfl | rfl | rfl | rfl | rfl | rfl | rfl | rfl | rfl | rfl | rfl | rfl | rfl | rfl | rfl | rfl | rfl | rfl | rfl | rfl | rfl <;> rfl) (Nat.le_of_ble_eq_true rfl) (Nat.le_of_ble_eq_true rfl) dL_law_8 (fun q_3 H_3 hP1 hD1 hS1 => ?_)
  replace hP : va_P (dC, dI) vwCl [(q_1, .inr (4, [.ref (u_2 0), .ref (u_2 3), .ref (u_2 28), .int 0])), ((u_2 0), .inr (3, [.ref (u_2 1), .ref (u_2 2), .int 0])), ((u_2 1), .inl (cI, 240, .inl (fun _ => 0))), ((u_2 2), .inl (cZ, 40, .inl (fun _ => 0))), ((u_2 3), .inr (1, [.ref (u_2 4), .ref (u_2 15), .int 1, .ref (u_2 26), .ref (u_2 27), .int 0, .int 0, .int 0])), ((u_2 4), .inr (0, [.int 0, .ref (u_2 5), .ref (u_2 6), .ref (u_2 7), .ref (u_2 8), .ref (u_2 9), .ref (u_2 10), .ref (u_2 11), .ref (u_2 12), .ref (u_2 13), .ref (u_2 14)])), ((u_2 5), .inl (cI, 6, .inl (fun _ => 0))), ((u_2 6), .inl (cI, 6, .inl (fun _ => 0))), ((u_2 7), .inl (cJ, 6, .inr (.inl (fun _ => 0)))), ((u_2 8), .inl (cZ, 6, .inl (fun _ => 0))), ((u_2 9), .inl (cZ, 40, .inl (fun _ => 0))), ((u_2 10), .inl (cI, 40, .inl (fun _ => 0))), ((u_2 11), .inl (cI, 40, .inl (fun _ => 0))), ((u_2 12), .inl (cI, 40, .inl (fun _ => 0))), ((u_2 13), .inl (cI, 480, .inl (fun _ => 0))), ((u_2 14), .inl (cI, 480, .inl (fun _ => 0))), ((u_2 15), .inr (0, [.int 0, .ref (u_2 16), .ref (u_2 17), .ref (u_2 18), .ref (u_2 19), .ref (u_2 20), .ref (u_2 21), .ref (u_2 22), .ref (u_2 23), .ref (u_2 24), .ref (u_2 25)])), ((u_2 16), .inl (cI, 6, .inl (fun _ => 0))), ((u_2 17), .inl (cI, 6, .inl (fun _ => 0))), ((u_2 18), .inl (cJ, 6, .inr (.inl (fun _ => 0)))), ((u_2 19), .inl (cZ, 6, .inl (fun _ => 0))), ((u_2 20), .inl (cZ, 40, .inl (fun _ => 0))), ((u_2 21), .inl (cI, 40, .inl (fun _ => 0))), ((u_2 22), .inl (cI, 40, .inl (fun _ => 0))), ((u_2 23), .inl (cI, 40, .inl (fun _ => 0))), ((u_2 24), .inl (cI, 480, .inl (fun _ => 0))), ((u_2 25), .inl (cI, 480, .inl (fun _ => 0))), ((u_2 26), .inl (cZ, 40, .inl (fun _ => 0))), ((u_2 27), .inl (cI, 40, .inl (fun _ => 0))), ((u_2 28), .inr (2, [.int 0, .int 0, .int (-1), .ref (u_2 29), .ref (u_2 30), .ref (u_2 31), .ref (u_2 32), .ref (u_2 33), .long 0])), ((u_2 29), .inl (cI, 6, .inl (ov (fun _ => 0) 6 0))), ((u_2 30), .inl (cI, 6, .inl (ov (fun _ => 0) 6 (-1)))), ((u_2 31), .inl (cI, 40, .inl (fun _ => 0))), ((u_2 32), .inl (cI, 40, .inl (fun _ => 0))), ((u_2 33), .inl (cI, 480, .inl (fun _ => 0))), (q_3, .inr (5, [.int 0, .null, .null, .null, .null, .null, .null, .null, .null, .null, .null, .null, .null, .null, .null, .null, .null, .null, .null, .null, .null, .int 0, .int 0, .int 0, .int 0, .null, .null, .null, .null, .null, .null, .long 0, .long 0, .long 0, .null, .null]))] H_3 := hP1
  replace hD : va_D (fun q : Nat => s.heap.size ≤ q) [(q_1, .inr (4, [.ref (u_2 0), .ref (u_2 3), .ref (u_2 28), .int 0])), ((u_2 0), .inr (3, [.ref (u_2 1), .ref (u_2 2), .int 0])), ((u_2 1), .inl (cI, 240, .inl (fun _ => 0))), ((u_2 2), .inl (cZ, 40, .inl (fun _ => 0))), ((u_2 3), .inr (1, [.ref (u_2 4), .ref (u_2 15), .int 1, .ref (u_2 26), .ref (u_2 27), .int 0, .int 0, .int 0])), ((u_2 4), .inr (0, [.int 0, .ref (u_2 5), .ref (u_2 6), .ref (u_2 7), .ref (u_2 8), .ref (u_2 9), .ref (u_2 10), .ref (u_2 11), .ref (u_2 12), .ref (u_2 13), .ref (u_2 14)])), ((u_2 5), .inl (cI, 6, .inl (fun _ => 0))), ((u_2 6), .inl (cI, 6, .inl (fun _ => 0))), ((u_2 7), .inl (cJ, 6, .inr (.inl (fun _ => 0)))), ((u_2 8), .inl (cZ, 6, .inl (fun _ => 0))), ((u_2 9), .inl (cZ, 40, .inl (fun _ => 0))), ((u_2 10), .inl (cI, 40, .inl (fun _ => 0))), ((u_2 11), .inl (cI, 40, .inl (fun _ => 0))), ((u_2 12), .inl (cI, 40, .inl (fun _ => 0))), ((u_2 13), .inl (cI, 480, .inl (fun _ => 0))), ((u_2 14), .inl (cI, 480, .inl (fun _ => 0))), ((u_2 15), .inr (0, [.int 0, .ref (u_2 16), .ref (u_2 17), .ref (u_2 18), .ref (u_2 19), .ref (u_2 20), .ref (u_2 21), .ref (u_2 22), .ref (u_2 23), .ref (u_2 24), .ref (u_2 25)])), ((u_2 16), .inl (cI, 6, .inl (fun _ => 0))), ((u_2 17), .inl (cI, 6, .inl (fun _ => 0))), ((u_2 18), .inl (cJ, 6, .inr (.inl (fun _ => 0)))), ((u_2 19), .inl (cZ, 6, .inl (fun _ => 0))), ((u_2 20), .inl (cZ, 40, .inl (fun _ => 0))), ((u_2 21), .inl (cI, 40, .inl (fun _ => 0))), ((u_2 22), .inl (cI, 40, .inl (fun _ => 0))), ((u_2 23), .inl (cI, 40, .inl (fun _ => 0))), ((u_2 24), .inl (cI, 480, .inl (fun _ => 0))), ((u_2 25), .inl (cI, 480, .inl (fun _ => 0))), ((u_2 26), .inl (cZ, 40, .inl (fun _ => 0))), ((u_2 27), .inl (cI, 40, .inl (fun _ => 0))), ((u_2 28), .inr (2, [.int 0, .int 0, .int (-1), .ref (u_2 29), .ref (u_2 30), .ref (u_2 31), .ref (u_2 32), .ref (u_2 33), .long 0])), ((u_2 29), .inl (cI, 6, .inl (ov (fun _ => 0) 6 0))), ((u_2 30), .inl (cI, 6, .inl (ov (fun _ => 0) 6 (-1)))), ((u_2 31), .inl (cI, 40, .inl (fun _ => 0))), ((u_2 32), .inl (cI, 40, .inl (fun _ => 0))), ((u_2 33), .inl (cI, 480, .inl (fun _ => 0))), (q_3, .inr (5, [.int 0, .null, .null, .null, .null, .null, .null, .null, .null, .null, .null, .null, .null, .null, .null, .null, .null, .null, .null, .null, .null, .int 0, .int 0, .int 0, .int 0, .null, .null, .null, .null, .null, .null, .long 0, .long 0, .long 0, .null, .null]))] := hD1
  replace hS := hS1
  clear hP1 hD1 hS1
  refine W.widen (k := 36) (n := 3302) (Nat.le_of_ble_eq_true rfl) (Nat.le_of_ble_eq_true rfl) ?_
  refine lv_dup hx hb dL_law_11 rfl ?_
  have hPc := hP.sub (ws' := [(q_3, .inr (5, [.int 0, .null, .null, .null, .null, .null, .null, .null, .null, .null, .null, .null, .null, .null, .null, .null, .null, .null, .null, .null, .null, .int 0, .int 0, .int 0, .int 0, .null, .null, .null, .null, .null, .null, .long 0, .long 0, .long 0, .null, .null]))]) [35] rfl
  have hDc := hD.sub (ws' := [(q_3, .inr (5, [.int 0, .null, .null, .null, .null, .null, .null, .null, .null, .null, .null, .null, .null, .null, .null, .null, .null, .null, .null, .null, .null, .int 0, .int 0, .int 0, .int 0, .null, .null, .null, .null, .null, .null, .long 0, .long 0, .long 0, .null, .null]))]) [35] (by decide) rfl
  have hFc := va_free (wc := [(q_3, .inr (5, [.int 0, .null, .null, .null, .null, .null, .null, .null, .null, .null, .null, .null, .null, .null, .null, .null, .null, .null, .null, .null, .null, .int 0, .int 0, .int 0, .int 0, .null, .null, .null, .null, .null, .null, .long 0, .long 0, .long 0, .null, .null]))]) hD hS hA [35] rfl
  refine va_callv (va_runI (As := []) (rest := [.ref q_3]) ⟨hx, hb, hml, hown, hts⟩ (c_X5_init l dC dI cI cJ cZ q_3 H_3.size) (cwI 0 hts g_L_law_X5_init_12 rfl rfl rfl (hts (.initialized RX5) (List.mem_of_getElem? (i := 78) rfl)) (hts (.methodLink RL 12 yX5_init) (List.mem_of_getElem? (i := 116) rfl)) (hts (.instanceMethod yX5_init) (List.mem_of_getElem? (i := 117) rfl)) rfl (by decide +kernel) ⟨Nat.le_of_ble_eq_true rfl, Nat.le_of_ble_eq_true rfl⟩) ⟨cPre_blind, cPre_of hK hN hPc hDc⟩ rfl rfl hl.1 rfl (lv_room (Nat.le_of_ble_eq_true rfl)) dL_law_12 ⟨Nat.le_of_ble_eq_true rfl, Nat.le_of_ble_eq_true rfl⟩) hS (fun q _ h => hFc q h) hFc (fun u_4 t_4 H_4 locs_4 ht hvm hw_4 hB hz1 hk1 hS1 => ?_)
  obtain ⟨hP1, hK1, hD1⟩ := hB
  rw [ht] at hP1
  obtain ⟨hP2, hD2⟩ := va_join (wr := [(q_1, .inr (4, [.ref (u_2 0), .ref (u_2 3), .ref (u_2 28), .int 0])), ((u_2 0), .inr (3, [.ref (u_2 1), .ref (u_2 2), .int 0])), ((u_2 1), .inl (cI, 240, .inl (fun _ => 0))), ((u_2 2), .inl (cZ, 40, .inl (fun _ => 0))), ((u_2 3), .inr (1, [.ref (u_2 4), .ref (u_2 15), .int 1, .ref (u_2 26), .ref (u_2 27), .int 0, .int 0, .int 0])), ((u_2 4), .inr (0, [.int 0, .ref (u_2 5), .ref (u_2 6), .ref (u_2 7), .ref (u_2 8), .ref (u_2 9), .ref (u_2 10), .ref (u_2 11), .ref (u_2 12), .ref (u_2 13), .ref (u_2 14)])), ((u_2 5), .inl (cI, 6, .inl (fun _ => 0))), ((u_2 6), .inl (cI, 6, .inl (fun _ => 0))), ((u_2 7), .inl (cJ, 6, .inr (.inl (fun _ => 0)))), ((u_2 8), .inl (cZ, 6, .inl (fun _ => 0))), ((u_2 9), .inl (cZ, 40, .inl (fun _ => 0))), ((u_2 10), .inl (cI, 40, .inl (fun _ => 0))), ((u_2 11), .inl (cI, 40, .inl (fun _ => 0))), ((u_2 12), .inl (cI, 40, .inl (fun _ => 0))), ((u_2 13), .inl (cI, 480, .inl (fun _ => 0))), ((u_2 14), .inl (cI, 480, .inl (fun _ => 0))), ((u_2 15), .inr (0, [.int 0, .ref (u_2 16), .ref (u_2 17), .ref (u_2 18), .ref (u_2 19), .ref (u_2 20), .ref (u_2 21), .ref (u_2 22), .ref (u_2 23), .ref (u_2 24), .ref (u_2 25)])), ((u_2 16), .inl (cI, 6, .inl (fun _ => 0))), ((u_2 17), .inl (cI, 6, .inl (fun _ => 0))), ((u_2 18), .inl (cJ, 6, .inr (.inl (fun _ => 0)))), ((u_2 19), .inl (cZ, 6, .inl (fun _ => 0))), ((u_2 20), .inl (cZ, 40, .inl (fun _ => 0))), ((u_2 21), .inl (cI, 40, .inl (fun _ => 0))), ((u_2 22), .inl (cI, 40, .inl (fun _ => 0))), ((u_2 23), .inl (cI, 40, .inl (fun _ => 0))), ((u_2 24), .inl (cI, 480, .inl (fun _ => 0))), ((u_2 25), .inl (cI, 480, .inl (fun _ => 0))), ((u_2 26), .inl (cZ, 40, .inl (fun _ => 0))), ((u_2 27), .inl (cI, 40, .inl (fun _ => 0))), ((u_2 28), .inr (2, [.int 0, .int 0, .int (-1), .ref (u_2 29), .ref (u_2 30), .ref (u_2 31), .ref (u_2 32), .ref (u_2 33), .long 0])), ((u_2 29), .inl (cI, 6, .inl (ov (fun _ => 0) 6 0))), ((u_2 30), .inl (cI, 6, .inl (ov (fun _ => 0) 6 (-1)))), ((u_2 31), .inl (cI, 40, .inl (fun _ => 0))), ((u_2 32), .inl (cI, 40, .inl (fun _ => 0))), ((u_2 33), .inl (cI, 480, .inl (fun _ => 0)))]) (w1 := [(q_3, .inr (5, [.int 0, .ref (u_4 0), .ref (u_4 1), .ref (u_4 2), .ref (u_4 3), .ref (u_4 4), .ref (u_4 5), .ref (u_4 6), .ref (u_4 7), .ref (u_4 8), .ref (u_4 9), .ref (u_4 10), .ref (u_4 11), .ref (u_4 12), .ref (u_4 13), .ref (u_4 14), .ref (u_4 15), .ref (u_4 16), .ref (u_4 17), .ref (u_4 18), .ref (u_4 19), .int 0, .int 0, .int 0, .int (-1), .ref (u_4 20), .ref (u_4 21), .ref (u_4 22), .ref (u_4 23), .ref (u_4 24), .ref (u_4 25), .long 0, .long 0, .long 0, .ref (u_4 26), .ref (u_4 27)])), ((u_4 0), .inl (cI, 40, .inl (fun _ => 0))), ((u_4 1), .inl (cI, 40, .inl (fun _ => 0))), ((u_4 2), .inl (cI, 40, .inl (fun _ => 0))), ((u_4 3), .inl (cI, 40, .inl (fun _ => 0))), ((u_4 4), .inl (cI, 40, .inl (fun _ => 0))), ((u_4 5), .inl (cI, 40, .inl (fun _ => 0))), ((u_4 6), .inl (cZ, 40, .inl (fun _ => 0))), ((u_4 7), .inl (cZ, 2, .inl (fun _ => 0))), ((u_4 8), .inl (cJ, 12, .inr (.inl (fun _ => 0)))), ((u_4 9), .inl (cJ, 12, .inr (.inl (fun _ => 0)))), ((u_4 10), .inl (cJ, 12, .inr (.inl (fun _ => 0)))), ((u_4 11), .inl (cZ, 12, .inl (fun _ => 0))), ((u_4 12), .inl (cZ, 80, .inl (fun _ => 0))), ((u_4 13), .inl (cI, 80, .inl (fun _ => 0))), ((u_4 14), .inl (cJ, 80, .inr (.inl (fun _ => 0)))), ((u_4 15), .inl (cJ, 80, .inr (.inl (fun _ => 0)))), ((u_4 16), .inl (cJ, 960, .inr (.inl (fun _ => 0)))), ((u_4 17), .inl (cJ, 960, .inr (.inl (fun _ => 0)))), ((u_4 18), .inl (cZ, 40, .inl (fun _ => 0))), ((u_4 19), .inl (cI, 40, .inl (fun _ => 0))), ((u_4 20), .inl (cI, 6, .inl (ov (fun _ => 0) 6 0))), ((u_4 21), .inl (cI, 6, .inl (ov (fun _ => 0) 6 (-1)))), ((u_4 22), .inl (cI, 40, .inl (fun _ => 0))), ((u_4 23), .inl (cI, 40, .inl (fun _ => 0))), ((u_4 24), .inl (cI, 480, .inl (fun _ => 0))), ((u_4 25), .inl (cI, 12, .inl (fun _ => 0))), ((u_4 26), .inl (cJ, 12, .inr (.inl (fun _ => 0)))), ((u_4 27), .inl (cJ, 12, .inr (.inl (fun _ => 0))))]) hP hD [35] [0, 1, 2, 3, 4, 5, 6, 7, 8, 9, 10, 11, 12, 13, 14, 15, 16, 17, 18, 19, 20, 21, 22, 23, 24, 25, 26, 27, 28, 29, 30, 31, 32, 33, 34] rfl rfl (by decide) (by decide) hk1 hFc hP1 hD1
  clear hPc hDc hFc hP1 hD1 hK1 hk1 hz1 hvm ht
  replace hP : va_P (dC, dI) vwCl [(q_1, .inr (4, [.ref (u_2 0), .ref (u_2 3), .ref (u_2 28), .int 0])), ((u_2 0), .inr (3, [.ref (u_2 1), .ref (u_2 2), .int 0])), ((u_2 1), .inl (cI, 240, .inl (fun _ => 0))), ((u_2 2), .inl (cZ, 40, .inl (fun _ => 0))), ((u_2 3), .inr (1, [.ref (u_2 4), .ref (u_2 15), .int 1, .ref (u_2 26), .ref (u_2 27), .int 0, .int 0, .int 0])), ((u_2 4), .inr (0, [.int 0, .ref (u_2 5), .ref (u_2 6), .ref (u_2 7), .ref (u_2 8), .ref (u_2 9), .ref (u_2 10), .ref (u_2 11), .ref (u_2 12), .ref (u_2 13), .ref (u_2 14)])), ((u_2 5), .inl (cI, 6, .inl (fun _ => 0))), ((u_2 6), .inl (cI, 6, .inl (fun _ => 0))), ((u_2 7), .inl (cJ, 6, .inr (.inl (fun _ => 0)))), ((u_2 8), .inl (cZ, 6, .inl (fun _ => 0))), ((u_2 9), .inl (cZ, 40, .inl (fun _ => 0))), ((u_2 10), .inl (cI, 40, .inl (fun _ => 0))), ((u_2 11), .inl (cI, 40, .inl (fun _ => 0))), ((u_2 12), .inl (cI, 40, .inl (fun _ => 0))), ((u_2 13), .inl (cI, 480, .inl (fun _ => 0))), ((u_2 14), .inl (cI, 480, .inl (fun _ => 0))), ((u_2 15), .inr (0, [.int 0, .ref (u_2 16), .ref (u_2 17), .ref (u_2 18), .ref (u_2 19), .ref (u_2 20), .ref (u_2 21), .ref (u_2 22), .ref (u_2 23), .ref (u_2 24), .ref (u_2 25)])), ((u_2 16), .inl (cI, 6, .inl (fun _ => 0))), ((u_2 17), .inl (cI, 6, .inl (fun _ => 0))), ((u_2 18), .inl (cJ, 6, .inr (.inl (fun _ => 0)))), ((u_2 19), .inl (cZ, 6, .inl (fun _ => 0))), ((u_2 20), .inl (cZ, 40, .inl (fun _ => 0))), ((u_2 21), .inl (cI, 40, .inl (fun _ => 0))), ((u_2 22), .inl (cI, 40, .inl (fun _ => 0))), ((u_2 23), .inl (cI, 40, .inl (fun _ => 0))), ((u_2 24), .inl (cI, 480, .inl (fun _ => 0))), ((u_2 25), .inl (cI, 480, .inl (fun _ => 0))), ((u_2 26), .inl (cZ, 40, .inl (fun _ => 0))), ((u_2 27), .inl (cI, 40, .inl (fun _ => 0))), ((u_2 28), .inr (2, [.int 0, .int 0, .int (-1), .ref (u_2 29), .ref (u_2 30), .ref (u_2 31), .ref (u_2 32), .ref (u_2 33), .long 0])), ((u_2 29), .inl (cI, 6, .inl (ov (fun _ => 0) 6 0))), ((u_2 30), .inl (cI, 6, .inl (ov (fun _ => 0) 6 (-1)))), ((u_2 31), .inl (cI, 40, .inl (fun _ => 0))), ((u_2 32), .inl (cI, 40, .inl (fun _ => 0))), ((u_2 33), .inl (cI, 480, .inl (fun _ => 0))), (q_3, .inr (5, [.int 0, .ref (u_4 0), .ref (u_4 1), .ref (u_4 2), .ref (u_4 3), .ref (u_4 4), .ref (u_4 5), .ref (u_4 6), .ref (u_4 7), .ref (u_4 8), .ref (u_4 9), .ref (u_4 10), .ref (u_4 11), .ref (u_4 12), .ref (u_4 13), .ref (u_4 14), .ref (u_4 15), .ref (u_4 16), .ref (u_4 17), .ref (u_4 18), .ref (u_4 19), .int 0, .int 0, .int 0, .int (-1), .ref (u_4 20), .ref (u_4 21), .ref (u_4 22), .ref (u_4 23), .ref (u_4 24), .ref (u_4 25), .long 0, .long 0, .long 0, .ref (u_4 26), .ref (u_4 27)])), ((u_4 0), .inl (cI, 40, .inl (fun _ => 0))), ((u_4 1), .inl (cI, 40, .inl (fun _ => 0))), ((u_4 2), .inl (cI, 40, .inl (fun _ => 0))), ((u_4 3), .inl (cI, 40, .inl (fun _ => 0))), ((u_4 4), .inl (cI, 40, .inl (fun _ => 0))), ((u_4 5), .inl (cI, 40, .inl (fun _ => 0))), ((u_4 6), .inl (cZ, 40, .inl (fun _ => 0))), ((u_4 7), .inl (cZ, 2, .inl (fun _ => 0))), ((u_4 8), .inl (cJ, 12, .inr (.inl (fun _ => 0)))), ((u_4 9), .inl (cJ, 12, .inr (.inl (fun _ => 0)))), ((u_4 10), .inl (cJ, 12, .inr (.inl (fun _ => 0)))), ((u_4 11), .inl (cZ, 12, .inl (fun _ => 0))), ((u_4 12), .inl (cZ, 80, .inl (fun _ => 0))), ((u_4 13), .inl (cI, 80, .inl (fun _ => 0))), ((u_4 14), .inl (cJ, 80, .inr (.inl (fun _ => 0)))), ((u_4 15), .inl (cJ, 80, .inr (.inl (fun _ => 0)))), ((u_4 16), .inl (cJ, 960, .inr (.inl (fun _ => 0)))), ((u_4 17), .inl (cJ, 960, .inr (.inl (fun _ => 0)))), ((u_4 18), .inl (cZ, 40, .inl (fun _ => 0))), ((u_4 19), .inl (cI, 40, .inl (fun _ => 0))), ((u_4 20), .inl (cI, 6, .inl (ov (fun _ => 0) 6 0))), ((u_4 21), .inl (cI, 6, .inl (ov (fun _ => 0) 6 (-1)))), ((u_4 22), .inl (cI, 40, .inl (fun _ => 0))), ((u_4 23), .inl (cI, 40, .inl (fun _ => 0))), ((u_4 24), .inl (cI, 480, .inl (fun _ => 0))), ((u_4 25), .inl (cI, 12, .inl (fun _ => 0))), ((u_4 26), .inl (cJ, 12, .inr (.inl (fun _ => 0)))), ((u_4 27), .inl (cJ, 12, .inr (.inl (fun _ => 0))))] H_4 := hP2
  replace hD : va_D (fun q : Nat => s.heap.size ≤ q) [(q_1, .inr (4, [.ref (u_2 0), .ref (u_2 3), .ref (u_2 28), .int 0])), ((u_2 0), .inr (3, [.ref (u_2 1), .ref (u_2 2), .int 0])), ((u_2 1), .inl (cI, 240, .inl (fun _ => 0))), ((u_2 2), .inl (cZ, 40, .inl (fun _ => 0))), ((u_2 3), .inr (1, [.ref (u_2 4), .ref (u_2 15), .int 1, .ref (u_2 26), .ref (u_2 27), .int 0, .int 0, .int 0])), ((u_2 4), .inr (0, [.int 0, .ref (u_2 5), .ref (u_2 6), .ref (u_2 7), .ref (u_2 8), .ref (u_2 9), .ref (u_2 10), .ref (u_2 11), .ref (u_2 12), .ref (u_2 13), .ref (u_2 14)])), ((u_2 5), .inl (cI, 6, .inl (fun _ => 0))), ((u_2 6), .inl (cI, 6, .inl (fun _ => 0))), ((u_2 7), .inl (cJ, 6, .inr (.inl (fun _ => 0)))), ((u_2 8), .inl (cZ, 6, .inl (fun _ => 0))), ((u_2 9), .inl (cZ, 40, .inl (fun _ => 0))), ((u_2 10), .inl (cI, 40, .inl (fun _ => 0))), ((u_2 11), .inl (cI, 40, .inl (fun _ => 0))), ((u_2 12), .inl (cI, 40, .inl (fun _ => 0))), ((u_2 13), .inl (cI, 480, .inl (fun _ => 0))), ((u_2 14), .inl (cI, 480, .inl (fun _ => 0))), ((u_2 15), .inr (0, [.int 0, .ref (u_2 16), .ref (u_2 17), .ref (u_2 18), .ref (u_2 19), .ref (u_2 20), .ref (u_2 21), .ref (u_2 22), .ref (u_2 23), .ref (u_2 24), .ref (u_2 25)])), ((u_2 16), .inl (cI, 6, .inl (fun _ => 0))), ((u_2 17), .inl (cI, 6, .inl (fun _ => 0))), ((u_2 18), .inl (cJ, 6, .inr (.inl (fun _ => 0)))), ((u_2 19), .inl (cZ, 6, .inl (fun _ => 0))), ((u_2 20), .inl (cZ, 40, .inl (fun _ => 0))), ((u_2 21), .inl (cI, 40, .inl (fun _ => 0))), ((u_2 22), .inl (cI, 40, .inl (fun _ => 0))), ((u_2 23), .inl (cI, 40, .inl (fun _ => 0))), ((u_2 24), .inl (cI, 480, .inl (fun _ => 0))), ((u_2 25), .inl (cI, 480, .inl (fun _ => 0))), ((u_2 26), .inl (cZ, 40, .inl (fun _ => 0))), ((u_2 27), .inl (cI, 40, .inl (fun _ => 0))), ((u_2 28), .inr (2, [.int 0, .int 0, .int (-1), .ref (u_2 29), .ref (u_2 30), .ref (u_2 31), .ref (u_2 32), .ref (u_2 33), .long 0])), ((u_2 29), .inl (cI, 6, .inl (ov (fun _ => 0) 6 0))), ((u_2 30), .inl (cI, 6, .inl (ov (fun _ => 0) 6 (-1)))), ((u_2 31), .inl (cI, 40, .inl (fun _ => 0))), ((u_2 32), .inl (cI, 40, .inl (fun _ => 0))), ((u_2 33), .inl (cI, 480, .inl (fun _ => 0))), (q_3, .inr (5, [.int 0, .ref (u_4 0), .ref (u_4 1), .ref (u_4 2), .ref (u_4 3), .ref (u_4 4), .ref (u_4 5), .ref (u_4 6), .ref (u_4 7), .ref (u_4 8), .ref (u_4 9), .ref (u_4 10), .ref (u_4 11), .ref (u_4 12), .ref (u_4 13), .ref (u_4 14), .ref (u_4 15), .ref (u_4 16), .ref (u_4 17), .ref (u_4 18), .ref (u_4 19), .int 0, .int 0, .int 0, .int (-1), .ref (u_4 20), .ref (u_4 21), .ref (u_4 22), .ref (u_4 23), .ref (u_4 24), .ref (u_4 25), .long 0, .long 0, .long 0, .ref (u_4 26), .ref (u_4 27)])), ((u_4 0), .inl (cI, 40, .inl (fun _ => 0))), ((u_4 1), .inl (cI, 40, .inl (fun _ => 0))), ((u_4 2), .inl (cI, 40, .inl (fun _ => 0))), ((u_4 3), .inl (cI, 40, .inl (fun _ => 0))), ((u_4 4), .inl (cI, 40, .inl (fun _ => 0))), ((u_4 5), .inl (cI, 40, .inl (fun _ => 0))), ((u_4 6), .inl (cZ, 40, .inl (fun _ => 0))), ((u_4 7), .inl (cZ, 2, .inl (fun _ => 0))), ((u_4 8), .inl (cJ, 12, .inr (.inl (fun _ => 0)))), ((u_4 9), .inl (cJ, 12, .inr (.inl (fun _ => 0)))), ((u_4 10), .inl (cJ, 12, .inr (.inl (fun _ => 0)))), ((u_4 11), .inl (cZ, 12, .inl (fun _ => 0))), ((u_4 12), .inl (cZ, 80, .inl (fun _ => 0))), ((u_4 13), .inl (cI, 80, .inl (fun _ => 0))), ((u_4 14), .inl (cJ, 80, .inr (.inl (fun _ => 0)))), ((u_4 15), .inl (cJ, 80, .inr (.inl (fun _ => 0)))), ((u_4 16), .inl (cJ, 960, .inr (.inl (fun _ => 0)))), ((u_4 17), .inl (cJ, 960, .inr (.inl (fun _ => 0)))), ((u_4 18), .inl (cZ, 40, .inl (fun _ => 0))), ((u_4 19), .inl (cI, 40, .inl (fun _ => 0))), ((u_4 20), .inl (cI, 6, .inl (ov (fun _ => 0) 6 0))), ((u_4 21), .inl (cI, 6, .inl (ov (fun _ => 0) 6 (-1)))), ((u_4 22), .inl (cI, 40, .inl (fun _ => 0))), ((u_4 23), .inl (cI, 40, .inl (fun _ => 0))), ((u_4 24), .inl (cI, 480, .inl (fun _ => 0))), ((u_4 25), .inl (cI, 12, .inl (fun _ => 0))), ((u_4 26), .inl (cJ, 12, .inr (.inl (fun _ => 0)))), ((u_4 27), .inl (cJ, 12, .inr (.inl (fun _ => 0))))] := hD2
  replace hS := hS1
  clear hP2 hD2 hS1
  refine W.widen (k := 64) (n := 6560) (Nat.le_of_ble_eq_true rfl) (Nat.le_of_ble_eq_true rfl) ?_
  refine lv_astore_n (lv' := [(2, .ref q_3), (1, .ref q_1), (0, .ref b)]) hx hb dL_law_15 rfl hl (by decide) rfl (fun ls1 hl1 => ?_)
  replace hl := hl1; clear hl1
  refine lv_iconst (v := 0) hx hb dL_law_16 (by decide) ?_
  refine lv_istore_n (lv' := [(3, .int 0), (2, .ref q_3), (1, .ref q_1), (0, .ref b)]) hx hb dL_law_17 rfl hl (by decide) rfl (fun ls1 hl1 => ?_)
  replace hl := hl1; clear hl1
  have h7 : L < 7 ∨ L = 7 := by omega
  rcases h7 with h7 | h7
  · -- too short
    refine lv_iload_n hx hb dL_law_18 rfl (lv_at hl 0 rfl) ?_
    refine lv_aload_n hx hb dL_law_19 rfl (lv_at hl 3 rfl) ?_
    refine va_slen hx hb hX hbl hbA hS dL_law_20 ?_
    refine lv_bipush (v := 7) hx hb dL_law_21 (by decide) ?_
    refine lv_isub hx hb dL_law_23 ?_
    refine lv_icmp_gt (tgt := 736) hx hb dL_law_24 (by decide) (fun c_0 => ?_) (fun c_0 => ?_)
    · -- end
      refine lv_iconst (v := 1) hx hb dL_law_736 (by decide) ?_
      refine va_forget (fun q hq => hS.2.2 q hq) ?_
      refine W.widen (k := 64) (n := 6560) (Nat.le_of_ble_eq_true rfl) (Nat.le_of_ble_eq_true rfl) ?_
      exact lw_ret hx hb hr hlocks dL_law_737
    · exact absurd (pk_sneg (by decide) h7) c_0
  · -- one call
    subst h7
    refine lv_iload_n hx hb dL_law_18 rfl (lv_at hl 0 rfl) ?_
    refine lv_aload_n hx hb dL_law_19 rfl (lv_at hl 3 rfl) ?_
    refine va_slen hx hb hX hbl hbA hS dL_law_20 ?_
    refine lv_bipush (v := 7) hx hb dL_law_21 (by decide) ?_
    refine lv_isub hx hb dL_law_23 ?_
    refine my_topi (y := 0) (by decide) ?_
    refine lv_icmp_gt (tgt := 736) hx hb dL_law_24 (by decide) (fun c_0 => ?_) (fun c_0 => ?_)
    · exact absurd c_0 (by decide)
    · -- on
      refine lv_aload_n hx hb dL_law_27 rfl (lv_at hl 3 rfl) ?_
      refine lv_iload_n hx hb dL_law_28 rfl (lv_at hl 0 rfl) ?_
      refine va_sld hx hb hX hbl hbA hS (vp_in_iff.mpr (by decide)) dL_law_29 ?_
      refine lv_bipush (v := 31) hx hb dL_law_30 (by decide) ?_
      refine lv_iand hx hb dL_law_32 ?_
      have k31 := and31 (xs (0 : Int32).toNatClampNeg)
      have sw_5 : ((xs (0 : Int32).toNatClampNeg) &&& 31).toInt = 0 ∨ ((xs (0 : Int32).toNatClampNeg) &&& 31).toInt = 1 ∨ ((xs (0 : Int32).toNatClampNeg) &&& 31).toInt = 2 ∨ ((xs (0 : Int32).toNatClampNeg) &&& 31).toInt = 3 ∨ ((xs (0 : Int32).toNatClampNeg) &&& 31).toInt = 4 ∨ ((xs (0 : Int32).toNatClampNeg) &&& 31).toInt = 5 ∨ ((xs (0 : Int32).toNatClampNeg) &&& 31).toInt = 6 ∨ ((xs (0 : Int32).toNatClampNeg) &&& 31).toInt = 7 ∨ ((xs (0 : Int32).toNatClampNeg) &&& 31).toInt = 8 ∨ ((xs (0 : Int32).toNatClampNeg) &&& 31).toInt = 9 ∨ ((xs (0 : Int32).toNatClampNeg) &&& 31).toInt = 10 ∨ ((xs (0 : Int32).toNatClampNeg) &&& 31).toInt = 11 ∨ ((xs (0 : Int32).toNatClampNeg) &&& 31).toInt = 12 ∨ ((xs (0 : Int32).toNatClampNeg) &&& 31).toInt = 13 ∨ ((xs (0 : Int32).toNatClampNeg) &&& 31).toInt = 14 ∨ ((xs (0 : Int32).toNatClampNeg) &&& 31).toInt = 15 ∨ ((xs (0 : Int32).toNatClampNeg) &&& 31).toInt = 16 ∨ ((xs (0 : Int32).toNatClampNeg) &&& 31).toInt = 17 ∨ ((xs (0 : Int32).toNatClampNeg) &&& 31).toInt = 18 ∨ ((xs (0 : Int32).toNatClampNeg) &&& 31).toInt = 19 ∨ ((xs (0 : Int32).toNatClampNeg) &&& 31).toInt = 20 ∨ ((xs (0 : Int32).toNatClampNeg) &&& 31).toInt = 21 ∨ ((xs (0 : Int32).toNatClampNeg) &&& 31).toInt = 22 ∨ ((xs (0 : Int32).toNatClampNeg) &&& 31).toInt = 23 ∨ ((xs (0 : Int32).toNatClampNeg) &&& 31).toInt = 24 ∨ ((xs (0 : Int32).toNatClampNeg) &&& 31).toInt = 25 ∨ ((xs (0 : Int32).toNatClampNeg) &&& 31).toInt = 26 ∨ ((xs (0 : Int32).toNatClampNeg) &&& 31).toInt = 27 ∨ ((xs (0 : Int32).toNatClampNeg) &&& 31).toInt = 28 ∨ ((xs (0 : Int32).toNatClampNeg) &&& 31).toInt = 29 ∨ ((xs (0 : Int32).toNatClampNeg) &&& 31).toInt = 30 ∨ ((xs (0 : Int32).toNatClampNeg) &&& 31).toInt = 31 := by omega
      rcases sw_5 with sv_5 | sv_5 | sv_5 | sv_5 | sv_5 | sv_5 | sv_5 | sv_5 | sv_5 | sv_5 | sv_5 | sv_5 | sv_5 | sv_5 | sv_5 | sv_5 | sv_5 | sv_5 | sv_5 | sv_5 | sv_5 | sv_5 | sv_5 | sv_5 | sv_5 | sv_5 | sv_5 | sv_5 | sv_5 | sv_5 | sv_5 | sv_5
      · -- case 0
        refine lv_tableIn (tgt := 128) (off := 95) hx hb dL_law_33 (by omega) (by omega) (by rw [sv_5]; rfl) (by decide) ?_
        replace hP := hP.sub (ws' := [(q_1, .inr (4, [.ref (u_2 0), .ref (u_2 3), .ref (u_2 28), .int 0])), ((u_2 0), .inr (3, [.ref (u_2 1), .ref (u_2 2), .int 0])), ((u_2 3), .inr (1, [.ref (u_2 4), .ref (u_2 15), .int 1, .ref (u_2 26), .ref (u_2 27), .int 0, .int 0, .int 0])), ((u_2 28), .inr (2, [.int 0, .int 0, .int (-1), .ref (u_2 29), .ref (u_2 30), .ref (u_2 31), .ref (u_2 32), .ref (u_2 33), .long 0])), ((u_2 29), .inl (cI, 6, .inl (ov (fun _ => 0) 6 0))), ((u_2 30), .inl (cI, 6, .inl (ov (fun _ => 0) 6 (-1)))), (q_3, .inr (5, [.int 0, .ref (u_4 0), .ref (u_4 1), .ref (u_4 2), .ref (u_4 3), .ref (u_4 4), .ref (u_4 5), .ref (u_4 6), .ref (u_4 7), .ref (u_4 8), .ref (u_4 9), .ref (u_4 10), .ref (u_4 11), .ref (u_4 12), .ref (u_4 13), .ref (u_4 14), .ref (u_4 15), .ref (u_4 16), .ref (u_4 17), .ref (u_4 18), .ref (u_4 19), .int 0, .int 0, .int 0, .int (-1), .ref (u_4 20), .ref (u_4 21), .ref (u_4 22), .ref (u_4 23), .ref (u_4 24), .ref (u_4 25), .long 0, .long 0, .long 0, .ref (u_4 26), .ref (u_4 27)])), ((u_4 20), .inl (cI, 6, .inl (ov (fun _ => 0) 6 0))), ((u_4 21), .inl (cI, 6, .inl (ov (fun _ => 0) 6 (-1))))]) [0, 1, 4, 29, 30, 31, 35, 56, 57] rfl
        replace hD := hD.sub (ws' := [(q_1, .inr (4, [.ref (u_2 0), .ref (u_2 3), .ref (u_2 28), .int 0])), ((u_2 0), .inr (3, [.ref (u_2 1), .ref (u_2 2), .int 0])), ((u_2 3), .inr (1, [.ref (u_2 4), .ref (u_2 15), .int 1, .ref (u_2 26), .ref (u_2 27), .int 0, .int 0, .int 0])), ((u_2 28), .inr (2, [.int 0, .int 0, .int (-1), .ref (u_2 29), .ref (u_2 30), .ref (u_2 31), .ref (u_2 32), .ref (u_2 33), .long 0])), ((u_2 29), .inl (cI, 6, .inl (ov (fun _ => 0) 6 0))), ((u_2 30), .inl (cI, 6, .inl (ov (fun _ => 0) 6 (-1)))), (q_3, .inr (5, [.int 0, .ref (u_4 0), .ref (u_4 1), .ref (u_4 2), .ref (u_4 3), .ref (u_4 4), .ref (u_4 5), .ref (u_4 6), .ref (u_4 7), .ref (u_4 8), .ref (u_4 9), .ref (u_4 10), .ref (u_4 11), .ref (u_4 12), .ref (u_4 13), .ref (u_4 14), .ref (u_4 15), .ref (u_4 16), .ref (u_4 17), .ref (u_4 18), .ref (u_4 19), .int 0, .int 0, .int 0, .int (-1), .ref (u_4 20), .ref (u_4 21), .ref (u_4 22), .ref (u_4 23), .ref (u_4 24), .ref (u_4 25), .long 0, .long 0, .long 0, .ref (u_4 26), .ref (u_4 27)])), ((u_4 20), .inl (cI, 6, .inl (ov (fun _ => 0) 6 0))), ((u_4 21), .inl (cI, 6, .inl (ov (fun _ => 0) 6 (-1))))]) [0, 1, 4, 29, 30, 31, 35, 56, 57] (by decide) rfl
        refine lv_aload_n hx hb dL_law_128 rfl (lv_at hl 2 rfl) ?_
        have hPc := hP.sub (ws' := [(q_1, .inr (4, [.ref (u_2 0), .ref (u_2 3), .ref (u_2 28), .int 0])), ((u_2 0), .inr (3, [.ref (u_2 1), .ref (u_2 2), .int 0])), ((u_2 3), .inr (1, [.ref (u_2 4), .ref (u_2 15), .int 1, .ref (u_2 26), .ref (u_2 27), .int 0, .int 0, .int 0])), ((u_2 28), .inr (2, [.int 0, .int 0, .int (-1), .ref (u_2 29), .ref (u_2 30), .ref (u_2 31), .ref (u_2 32), .ref (u_2 33), .long 0])), ((u_2 29), .inl (cI, 6, .inl (ov (fun _ => 0) 6 0))), ((u_2 30), .inl (cI, 6, .inl (ov (fun _ => 0) 6 (-1))))]) [0, 1, 2, 3, 4, 5] rfl
        have hDc := hD.sub (ws' := [(q_1, .inr (4, [.ref (u_2 0), .ref (u_2 3), .ref (u_2 28), .int 0])), ((u_2 0), .inr (3, [.ref (u_2 1), .ref (u_2 2), .int 0])), ((u_2 3), .inr (1, [.ref (u_2 4), .ref (u_2 15), .int 1, .ref (u_2 26), .ref (u_2 27), .int 0, .int 0, .int 0])), ((u_2 28), .inr (2, [.int 0, .int 0, .int (-1), .ref (u_2 29), .ref (u_2 30), .ref (u_2 31), .ref (u_2 32), .ref (u_2 33), .long 0])), ((u_2 29), .inl (cI, 6, .inl (ov (fun _ => 0) 6 0))), ((u_2 30), .inl (cI, 6, .inl (ov (fun _ => 0) 6 (-1))))]) [0, 1, 2, 3, 4, 5] (by decide) rfl
        have hFc := va_free (wc := [(q_1, .inr (4, [.ref (u_2 0), .ref (u_2 3), .ref (u_2 28), .int 0])), ((u_2 0), .inr (3, [.ref (u_2 1), .ref (u_2 2), .int 0])), ((u_2 3), .inr (1, [.ref (u_2 4), .ref (u_2 15), .int 1, .ref (u_2 26), .ref (u_2 27), .int 0, .int 0, .int 0])), ((u_2 28), .inr (2, [.int 0, .int 0, .int (-1), .ref (u_2 29), .ref (u_2 30), .ref (u_2 31), .ref (u_2 32), .ref (u_2 33), .long 0])), ((u_2 29), .inl (cI, 6, .inl (ov (fun _ => 0) 6 0))), ((u_2 30), .inl (cI, 6, .inl (ov (fun _ => 0) 6 (-1))))]) hD hS hA [0, 1, 2, 3, 4, 5] rfl
        refine va_calli (va_runV (As := []) (rest := []) ⟨hx, hb, hml, hown, hts⟩ (c_X4_clear l dC dI cI cJ cZ q_1 (.int 0) (u_2 0) (.ref (u_2 1)) (.ref (u_2 2)) (u_2 3) (.ref (u_2 4)) (.ref (u_2 15)) (.int 1) (.ref (u_2 26)) (.ref (u_2 27)) (.int 0) (.int 0) (.int 0) (u_2 28) (u_2 29) (u_2 30) (.int 0) (.int 0) (.int (-1)) (.ref (u_2 31)) (.ref (u_2 32)) (.ref (u_2 33)) (.long 0) (ov (fun _ => 0) 6 0) (ov (fun _ => 0) 6 (-1)) H_4.size) (cwV 0 hts g_L_law_X4_clear_13 rfl rfl rfl (by decide +kernel) ⟨Nat.le_of_ble_eq_true rfl, Nat.le_of_ble_eq_true rfl⟩) ⟨cPre_blind, va_recv hK hPc (ci := 4) (q0 := 0) rfl rfl, cPre_of hK hN hPc hDc⟩ rfl rfl hl.1 rfl (lv_room (Nat.le_of_ble_eq_true rfl)) dL_law_129 ⟨Nat.le_of_ble_eq_true rfl, Nat.le_of_ble_eq_true rfl⟩) hS (fun q _ h => hFc q h) hFc (fun r_6 u_6 t_6 H_6 locs_6 ht hvm hw_6 hB hz1 hk1 hS1 => ?_)
        obtain ⟨hP1, hK1, hD1⟩ := hB
        rw [ht] at hP1
        obtain ⟨hP2, hD2⟩ := va_join (wr := [(q_3, .inr (5, [.int 0, .ref (u_4 0), .ref (u_4 1), .ref (u_4 2), .ref (u_4 3), .ref (u_4 4), .ref (u_4 5), .ref (u_4 6), .ref (u_4 7), .ref (u_4 8), .ref (u_4 9), .ref (u_4 10), .ref (u_4 11), .ref (u_4 12), .ref (u_4 13), .ref (u_4 14), .ref (u_4 15), .ref (u_4 16), .ref (u_4 17), .ref (u_4 18), .ref (u_4 19), .int 0, .int 0, .int 0, .int (-1), .ref (u_4 20), .ref (u_4 21), .ref (u_4 22), .ref (u_4 23), .ref (u_4 24), .ref (u_4 25), .long 0, .long 0, .long 0, .ref (u_4 26), .ref (u_4 27)])), ((u_4 20), .inl (cI, 6, .inl (ov (fun _ => 0) 6 0))), ((u_4 21), .inl (cI, 6, .inl (ov (fun _ => 0) 6 (-1))))]) (w1 := []) hP hD [0, 1, 2, 3, 4, 5] [6, 7, 8] rfl rfl (by decide) (by decide) hk1 hFc hP1 hD1
        clear hPc hDc hFc hP1 hD1 hK1 hk1 hz1 hvm ht
        replace hP : va_P (dC, dI) vwCl [(q_3, .inr (5, [.int 0, .ref (u_4 0), .ref (u_4 1), .ref (u_4 2), .ref (u_4 3), .ref (u_4 4), .ref (u_4 5), .ref (u_4 6), .ref (u_4 7), .ref (u_4 8), .ref (u_4 9), .ref (u_4 10), .ref (u_4 11), .ref (u_4 12), .ref (u_4 13), .ref (u_4 14), .ref (u_4 15), .ref (u_4 16), .ref (u_4 17), .ref (u_4 18), .ref (u_4 19), .int 0, .int 0, .int 0, .int (-1), .ref (u_4 20), .ref (u_4 21), .ref (u_4 22), .ref (u_4 23), .ref (u_4 24), .ref (u_4 25), .long 0, .long 0, .long 0, .ref (u_4 26), .ref (u_4 27)])), ((u_4 20), .inl (cI, 6, .inl (ov (fun _ => 0) 6 0))), ((u_4 21), .inl (cI, 6, .inl (ov (fun _ => 0) 6 (-1))))] H_6 := hP2
        replace hD : va_D (fun q : Nat => s.heap.size ≤ q) [(q_3, .inr (5, [.int 0, .ref (u_4 0), .ref (u_4 1), .ref (u_4 2), .ref (u_4 3), .ref (u_4 4), .ref (u_4 5), .ref (u_4 6), .ref (u_4 7), .ref (u_4 8), .ref (u_4 9), .ref (u_4 10), .ref (u_4 11), .ref (u_4 12), .ref (u_4 13), .ref (u_4 14), .ref (u_4 15), .ref (u_4 16), .ref (u_4 17), .ref (u_4 18), .ref (u_4 19), .int 0, .int 0, .int 0, .int (-1), .ref (u_4 20), .ref (u_4 21), .ref (u_4 22), .ref (u_4 23), .ref (u_4 24), .ref (u_4 25), .long 0, .long 0, .long 0, .ref (u_4 26), .ref (u_4 27)])), ((u_4 20), .inl (cI, 6, .inl (ov (fun _ => 0) 6 0))), ((u_4 21), .inl (cI, 6, .inl (ov (fun _ => 0) 6 (-1))))] := hD2
        replace hS := hS1
        clear hP2 hD2 hS1
        refine my_topi (y := 0) hw_6 ?_
        refine lv_aload_n hx hb dL_law_132 rfl (lv_at hl 1 rfl) ?_
        have hPc := hP.sub (ws' := [(q_3, .inr (5, [.int 0, .ref (u_4 0), .ref (u_4 1), .ref (u_4 2), .ref (u_4 3), .ref (u_4 4), .ref (u_4 5), .ref (u_4 6), .ref (u_4 7), .ref (u_4 8), .ref (u_4 9), .ref (u_4 10), .ref (u_4 11), .ref (u_4 12), .ref (u_4 13), .ref (u_4 14), .ref (u_4 15), .ref (u_4 16), .ref (u_4 17), .ref (u_4 18), .ref (u_4 19), .int 0, .int 0, .int 0, .int (-1), .ref (u_4 20), .ref (u_4 21), .ref (u_4 22), .ref (u_4 23), .ref (u_4 24), .ref (u_4 25), .long 0, .long 0, .long 0, .ref (u_4 26), .ref (u_4 27)])), ((u_4 20), .inl (cI, 6, .inl (ov (fun _ => 0) 6 0))), ((u_4 21), .inl (cI, 6, .inl (ov (fun _ => 0) 6 (-1))))]) [0, 1, 2] rfl
        have hDc := hD.sub (ws' := [(q_3, .inr (5, [.int 0, .ref (u_4 0), .ref (u_4 1), .ref (u_4 2), .ref (u_4 3), .ref (u_4 4), .ref (u_4 5), .ref (u_4 6), .ref (u_4 7), .ref (u_4 8), .ref (u_4 9), .ref (u_4 10), .ref (u_4 11), .ref (u_4 12), .ref (u_4 13), .ref (u_4 14), .ref (u_4 15), .ref (u_4 16), .ref (u_4 17), .ref (u_4 18), .ref (u_4 19), .int 0, .int 0, .int 0, .int (-1), .ref (u_4 20), .ref (u_4 21), .ref (u_4 22), .ref (u_4 23), .ref (u_4 24), .ref (u_4 25), .long 0, .long 0, .long 0, .ref (u_4 26), .ref (u_4 27)])), ((u_4 20), .inl (cI, 6, .inl (ov (fun _ => 0) 6 0))), ((u_4 21), .inl (cI, 6, .inl (ov (fun _ => 0) 6 (-1))))]) [0, 1, 2] (by decide) rfl
        have hFc := va_free (wc := [(q_3, .inr (5, [.int 0, .ref (u_4 0), .ref (u_4 1), .ref (u_4 2), .ref (u_4 3), .ref (u_4 4), .ref (u_4 5), .ref (u_4 6), .ref (u_4 7), .ref (u_4 8), .ref (u_4 9), .ref (u_4 10), .ref (u_4 11), .ref (u_4 12), .ref (u_4 13), .ref (u_4 14), .ref (u_4 15), .ref (u_4 16), .ref (u_4 17), .ref (u_4 18), .ref (u_4 19), .int 0, .int 0, .int 0, .int (-1), .ref (u_4 20), .ref (u_4 21), .ref (u_4 22), .ref (u_4 23), .ref (u_4 24), .ref (u_4 25), .long 0, .long 0, .long 0, .ref (u_4 26), .ref (u_4 27)])), ((u_4 20), .inl (cI, 6, .inl (ov (fun _ => 0) 6 0))), ((u_4 21), .inl (cI, 6, .inl (ov (fun _ => 0) 6 (-1))))]) hD hS hA [0, 1, 2] rfl
        refine va_calli (va_runV (As := []) (rest := [.int 0]) ⟨hx, hb, hml, hown, hts⟩ (c_X5_clear l dC dI cI cJ cZ q_3 (u_4 20) (u_4 21) (ov (fun _ => 0) 6 0) (ov (fun _ => 0) 6 (-1)) (.ref (u_4 0)) (.ref (u_4 1)) (.ref (u_4 2)) (.ref (u_4 3)) (.ref (u_4 4)) (.ref (u_4 5)) (.ref (u_4 6)) (.ref (u_4 7)) (.ref (u_4 8)) (.ref (u_4 9)) (.ref (u_4 10)) (.ref (u_4 11)) (.ref (u_4 12)) (.ref (u_4 13)) (.ref (u_4 14)) (.ref (u_4 15)) (.ref (u_4 16)) (.ref (u_4 17)) (.ref (u_4 18)) (.ref (u_4 19)) (.int 0) (.int 0) (.int 0) (.int (-1)) (.ref (u_4 22)) (.ref (u_4 23)) (.ref (u_4 24)) (.ref (u_4 25)) (.long 0) (.long 0) (.long 0) (.ref (u_4 26)) (.ref (u_4 27)) H_6.size) (cwV 0 hts g_L_law_X5_clear_17 rfl rfl rfl (by decide +kernel) ⟨Nat.le_of_ble_eq_true rfl, Nat.le_of_ble_eq_true rfl⟩) ⟨cPre_blind, va_recv hK hPc (ci := 5) (q0 := 0) rfl rfl, cPre_of hK hN hPc hDc⟩ rfl rfl hl.1 rfl (lv_room (Nat.le_of_ble_eq_true rfl)) dL_law_133 ⟨Nat.le_of_ble_eq_true rfl, Nat.le_of_ble_eq_true rfl⟩) hS (fun q _ h => hFc q h) hFc (fun r_7 u_7 t_7 H_7 locs_7 ht hvm hw_7 hB hz1 hk1 hS1 => ?_)
        obtain ⟨hP1, hK1, hD1⟩ := hB
        rw [ht] at hP1
        obtain ⟨hP2, hD2⟩ := va_join (wr := []) (w1 := []) hP hD [0, 1, 2] [] rfl rfl (by decide) (by decide) hk1 hFc hP1 hD1
        clear hPc hDc hFc hP1 hD1 hK1 hk1 hz1 hvm ht
        replace hP : va_P (dC, dI) vwCl [] H_7 := hP2
        replace hD : va_D (fun q : Nat => s.heap.size ≤ q) [] := hD2
        replace hS := hS1
        clear hP2 hD2 hS1
        refine my_topi (y := 0) hw_7 ?_
        refine lv_icmp_eq (tgt := 730) hx hb dL_law_136 (by decide) (fun c_8 => ?_) (fun c_8 => ?_)
        · -- on
          refine lv_iinc (v := 7) (lv' := [(3, .int 7), (2, .ref q_3), (1, .ref q_1), (0, .ref b)]) hx hb dL_law_730 hl (k := 0) rfl (by decide) (by decide) rfl (fun ls1 hl1 => ?_)
          replace hl := hl1; clear hl1
          refine lv_goto (tgt := 18) hx hb dL_law_733 (by decide) ?_
          refine lv_iload_n hx hb dL_law_18 rfl (lv_at hl 0 rfl) ?_
          refine lv_aload_n hx hb dL_law_19 rfl (lv_at hl 3 rfl) ?_
          refine va_slen hx hb hX hbl hbA hS dL_law_20 ?_
          refine lv_bipush (v := 7) hx hb dL_law_21 (by decide) ?_
          refine lv_isub hx hb dL_law_23 ?_
          refine my_topi (y := 0) (by decide) ?_
          refine lv_icmp_gt (tgt := 736) hx hb dL_law_24 (by decide) (fun c_0 => ?_) (fun c_0 => ?_)
          · -- end
            refine lv_iconst (v := 1) hx hb dL_law_736 (by decide) ?_
            refine va_forget (fun q hq => hS.2.2 q hq) ?_
            refine W.widen (k := 64) (n := 6560) (Nat.le_of_ble_eq_true rfl) (Nat.le_of_ble_eq_true rfl) ?_
            exact lw_ret hx hb hr hlocks dL_law_737
          · exact absurd (by decide) c_0
        · exact absurd (by decide) c_8
      · -- case 1
        refine lv_tableIn (tgt := 141) (off := 108) hx hb dL_law_33 (by omega) (by omega) (by rw [sv_5]; rfl) (by decide) ?_
        replace hP := hP.sub (ws' := [(q_1, .inr (4, [.ref (u_2 0), .ref (u_2 3), .ref (u_2 28), .int 0])), ((u_2 0), .inr (3, [.ref (u_2 1), .ref (u_2 2), .int 0])), ((u_2 1), .inl (cI, 240, .inl (fun _ => 0))), ((u_2 2), .inl (cZ, 40, .inl (fun _ => 0))), ((u_2 3), .inr (1, [.ref (u_2 4), .ref (u_2 15), .int 1, .ref (u_2 26), .ref (u_2 27), .int 0, .int 0, .int 0])), ((u_2 28), .inr (2, [.int 0, .int 0, .int (-1), .ref (u_2 29), .ref (u_2 30), .ref (u_2 31), .ref (u_2 32), .ref (u_2 33), .long 0])), ((u_2 29), .inl (cI, 6, .inl (ov (fun _ => 0) 6 0))), ((u_2 30), .inl (cI, 6, .inl (ov (fun _ => 0) 6 (-1)))), (q_3, .inr (5, [.int 0, .ref (u_4 0), .ref (u_4 1), .ref (u_4 2), .ref (u_4 3), .ref (u_4 4), .ref (u_4 5), .ref (u_4 6), .ref (u_4 7), .ref (u_4 8), .ref (u_4 9), .ref (u_4 10), .ref (u_4 11), .ref (u_4 12), .ref (u_4 13), .ref (u_4 14), .ref (u_4 15), .ref (u_4 16), .ref (u_4 17), .ref (u_4 18), .ref (u_4 19), .int 0, .int 0, .int 0, .int (-1), .ref (u_4 20), .ref (u_4 21), .ref (u_4 22), .ref (u_4 23), .ref (u_4 24), .ref (u_4 25), .long 0, .long 0, .long 0, .ref (u_4 26), .ref (u_4 27)])), ((u_4 0), .inl (cI, 40, .inl (fun _ => 0))), ((u_4 1), .inl (cI, 40, .inl (fun _ => 0))), ((u_4 2), .inl (cI, 40, .inl (fun _ => 0))), ((u_4 3), .inl (cI, 40, .inl (fun _ => 0))), ((u_4 4), .inl (cI, 40, .inl (fun _ => 0))), ((u_4 5), .inl (cI, 40, .inl (fun _ => 0))), ((u_4 6), .inl (cZ, 40, .inl (fun _ => 0))), ((u_4 20), .inl (cI, 6, .inl (ov (fun _ => 0) 6 0))), ((u_4 21), .inl (cI, 6, .inl (ov (fun _ => 0) 6 (-1))))]) [0, 1, 2, 3, 4, 29, 30, 31, 35, 36, 37, 38, 39, 40, 41, 42, 56, 57] rfl
        replace hD := hD.sub (ws' := [(q_1, .inr (4, [.ref (u_2 0), .ref (u_2 3), .ref (u_2 28), .int 0])), ((u_2 0), .inr (3, [.ref (u_2 1), .ref (u_2 2), .int 0])), ((u_2 1), .inl (cI, 240, .inl (fun _ => 0))), ((u_2 2), .inl (cZ, 40, .inl (fun _ => 0))), ((u_2 3), .inr (1, [.ref (u_2 4), .ref (u_2 15), .int 1, .ref (u_2 26), .ref (u_2 27), .int 0, .int 0, .int 0])), ((u_2 28), .inr (2, [.int 0, .int 0, .int (-1), .ref (u_2 29), .ref (u_2 30), .ref (u_2 31), .ref (u_2 32), .ref (u_2 33), .long 0])), ((u_2 29), .inl (cI, 6, .inl (ov (fun _ => 0) 6 0))), ((u_2 30), .inl (cI, 6, .inl (ov (fun _ => 0) 6 (-1)))), (q_3, .inr (5, [.int 0, .ref (u_4 0), .ref (u_4 1), .ref (u_4 2), .ref (u_4 3), .ref (u_4 4), .ref (u_4 5), .ref (u_4 6), .ref (u_4 7), .ref (u_4 8), .ref (u_4 9), .ref (u_4 10), .ref (u_4 11), .ref (u_4 12), .ref (u_4 13), .ref (u_4 14), .ref (u_4 15), .ref (u_4 16), .ref (u_4 17), .ref (u_4 18), .ref (u_4 19), .int 0, .int 0, .int 0, .int (-1), .ref (u_4 20), .ref (u_4 21), .ref (u_4 22), .ref (u_4 23), .ref (u_4 24), .ref (u_4 25), .long 0, .long 0, .long 0, .ref (u_4 26), .ref (u_4 27)])), ((u_4 0), .inl (cI, 40, .inl (fun _ => 0))), ((u_4 1), .inl (cI, 40, .inl (fun _ => 0))), ((u_4 2), .inl (cI, 40, .inl (fun _ => 0))), ((u_4 3), .inl (cI, 40, .inl (fun _ => 0))), ((u_4 4), .inl (cI, 40, .inl (fun _ => 0))), ((u_4 5), .inl (cI, 40, .inl (fun _ => 0))), ((u_4 6), .inl (cZ, 40, .inl (fun _ => 0))), ((u_4 20), .inl (cI, 6, .inl (ov (fun _ => 0) 6 0))), ((u_4 21), .inl (cI, 6, .inl (ov (fun _ => 0) 6 (-1))))]) [0, 1, 2, 3, 4, 29, 30, 31, 35, 36, 37, 38, 39, 40, 41, 42, 56, 57] (by decide) rfl
        refine lv_aload_n hx hb dL_law_141 rfl (lv_at hl 2 rfl) ?_
        refine lv_aload_n hx hb dL_law_142 rfl (lv_at hl 3 rfl) ?_
        refine lv_iload_n hx hb dL_law_143 rfl (lv_at hl 0 rfl) ?_
        refine lv_iconst (v := 1) hx hb dL_law_144 (by decide) ?_
        refine lv_iadd hx hb dL_law_145 ?_
        refine my_topi (y := 1) (by decide) ?_
        refine va_sld hx hb hX hbl hbA hS (vp_in_iff.mpr (by decide)) dL_law_146 ?_
        refine lv_aload_n hx hb dL_law_147 rfl (lv_at hl 3 rfl) ?_
        refine lv_iload_n hx hb dL_law_148 rfl (lv_at hl 0 rfl) ?_
        refine lv_iconst (v := 2) hx hb dL_law_149 (by decide) ?_
        refine lv_iadd hx hb dL_law_150 ?_
        refine my_topi (y := 2) (by decide) ?_
        refine va_sld hx hb hX hbl hbA hS (vp_in_iff.mpr (by decide)) dL_law_151 ?_
        refine lv_aload_n hx hb dL_law_152 rfl (lv_at hl 3 rfl) ?_
        refine lv_iload_n hx hb dL_law_153 rfl (lv_at hl 0 rfl) ?_
        refine lv_iconst (v := 3) hx hb dL_law_154 (by decide) ?_
        refine lv_iadd hx hb dL_law_155 ?_
        refine my_topi (y := 3) (by decide) ?_
        refine va_sld hx hb hX hbl hbA hS (vp_in_iff.mpr (by decide)) dL_law_156 ?_
        refine lv_aload_n hx hb dL_law_157 rfl (lv_at hl 3 rfl) ?_
        refine lv_iload_n hx hb dL_law_158 rfl (lv_at hl 0 rfl) ?_
        refine lv_iconst (v := 4) hx hb dL_law_159 (by decide) ?_
        refine lv_iadd hx hb dL_law_160 ?_
        refine my_topi (y := 4) (by decide) ?_
        refine va_sld hx hb hX hbl hbA hS (vp_in_iff.mpr (by decide)) dL_law_161 ?_
        refine lv_aload_n hx hb dL_law_162 rfl (lv_at hl 3 rfl) ?_
        refine lv_iload_n hx hb dL_law_163 rfl (lv_at hl 0 rfl) ?_
        refine lv_iconst (v := 5) hx hb dL_law_164 (by decide) ?_
        refine lv_iadd hx hb dL_law_165 ?_
        refine my_topi (y := 5) (by decide) ?_
        refine va_sld hx hb hX hbl hbA hS (vp_in_iff.mpr (by decide)) dL_law_166 ?_
        refine lv_aload_n hx hb dL_law_167 rfl (lv_at hl 3 rfl) ?_
        refine lv_iload_n hx hb dL_law_168 rfl (lv_at hl 0 rfl) ?_
        refine lv_bipush (v := 6) hx hb dL_law_169 (by decide) ?_
        refine lv_iadd hx hb dL_law_171 ?_
        refine my_topi (y := 6) (by decide) ?_
        refine va_sld hx hb hX hbl hbA hS (vp_in_iff.mpr (by decide)) dL_law_172 ?_
        have hPc := hP.sub (ws' := [(q_1, .inr (4, [.ref (u_2 0), .ref (u_2 3), .ref (u_2 28), .int 0])), ((u_2 0), .inr (3, [.ref (u_2 1), .ref (u_2 2), .int 0])), ((u_2 1), .inl (cI, 240, .inl (fun _ => 0))), ((u_2 2), .inl (cZ, 40, .inl (fun _ => 0))), ((u_2 3), .inr (1, [.ref (u_2 4), .ref (u_2 15), .int 1, .ref (u_2 26), .ref (u_2 27), .int 0, .int 0, .int 0])), ((u_2 28), .inr (2, [.int 0, .int 0, .int (-1), .ref (u_2 29), .ref (u_2 30), .ref (u_2 31), .ref (u_2 32), .ref (u_2 33), .long 0])), ((u_2 29), .inl (cI, 6, .inl (ov (fun _ => 0) 6 0))), ((u_2 30), .inl (cI, 6, .inl (ov (fun _ => 0) 6 (-1))))]) [0, 1, 2, 3, 4, 5, 6, 7] rfl
        have hDc := hD.sub (ws' := [(q_1, .inr (4, [.ref (u_2 0), .ref (u_2 3), .ref (u_2 28), .int 0])), ((u_2 0), .inr (3, [.ref (u_2 1), .ref (u_2 2), .int 0])), ((u_2 1), .inl (cI, 240, .inl (fun _ => 0))), ((u_2 2), .inl (cZ, 40, .inl (fun _ => 0))), ((u_2 3), .inr (1, [.ref (u_2 4), .ref (u_2 15), .int 1, .ref (u_2 26), .ref (u_2 27), .int 0, .int 0, .int 0])), ((u_2 28), .inr (2, [.int 0, .int 0, .int (-1), .ref (u_2 29), .ref (u_2 30), .ref (u_2 31), .ref (u_2 32), .ref (u_2 33), .long 0])), ((u_2 29), .inl (cI, 6, .inl (ov (fun _ => 0) 6 0))), ((u_2 30), .inl (cI, 6, .inl (ov (fun _ => 0) 6 (-1))))]) [0, 1, 2, 3, 4, 5, 6, 7] (by decide) rfl
        have hFc := va_free (wc := [(q_1, .inr (4, [.ref (u_2 0), .ref (u_2 3), .ref (u_2 28), .int 0])), ((u_2 0), .inr (3, [.ref (u_2 1), .ref (u_2 2), .int 0])), ((u_2 1), .inl (cI, 240, .inl (fun _ => 0))), ((u_2 2), .inl (cZ, 40, .inl (fun _ => 0))), ((u_2 3), .inr (1, [.ref (u_2 4), .ref (u_2 15), .int 1, .ref (u_2 26), .ref (u_2 27), .int 0, .int 0, .int 0])), ((u_2 28), .inr (2, [.int 0, .int 0, .int (-1), .ref (u_2 29), .ref (u_2 30), .ref (u_2 31), .ref (u_2 32), .ref (u_2 33), .long 0])), ((u_2 29), .inl (cI, 6, .inl (ov (fun _ => 0) 6 0))), ((u_2 30), .inl (cI, 6, .inl (ov (fun _ => 0) 6 (-1))))]) hD hS hA [0, 1, 2, 3, 4, 5, 6, 7] rfl
        refine va_calli (va_runV (As := [.int (xs (1 : Int32).toNatClampNeg), .int (xs (2 : Int32).toNatClampNeg), .int (xs (3 : Int32).toNatClampNeg), .int (xs (4 : Int32).toNatClampNeg), .int (xs (5 : Int32).toNatClampNeg), .int (xs (6 : Int32).toNatClampNeg)]) (rest := []) ⟨hx, hb, hml, hown, hts⟩ (c_X4_act l dC dI cI cJ cZ q_1 (.int 0) (u_2 0) (u_2 1) (u_2 2) (fun _ => 0) (fun _ => 0) (u_2 3) (.ref (u_2 4)) (.ref (u_2 15)) (.int 1) (.ref (u_2 26)) (.ref (u_2 27)) (.int 0) (.int 0) (.int 0) (u_2 28) (u_2 29) (u_2 30) (.int 0) (.int 0) (.int (-1)) (.ref (u_2 31)) (.ref (u_2 32)) (.ref (u_2 33)) (.long 0) (ov (fun _ => 0) 6 0) (ov (fun _ => 0) 6 (-1)) (xs (1 : Int32).toNatClampNeg) (xs (2 : Int32).toNatClampNeg) (xs (3 : Int32).toNatClampNeg) (xs (4 : Int32).toNatClampNeg) (xs (5 : Int32).toNatClampNeg) (xs (6 : Int32).toNatClampNeg) H_4.size) (cwV 6 hts g_L_law_X4_act_18 rfl rfl rfl (by decide +kernel) ⟨Nat.le_of_ble_eq_true rfl, Nat.le_of_ble_eq_true rfl⟩) ⟨cPre_blind, va_recv hK hPc (ci := 4) (q0 := 0) rfl rfl, cPre_of hK hN hPc hDc⟩ rfl rfl hl.1 rfl (lv_room (Nat.le_of_ble_eq_true rfl)) dL_law_173 ⟨Nat.le_of_ble_eq_true rfl, Nat.le_of_ble_eq_true rfl⟩) hS (fun q _ h => hFc q h) hFc (fun r_9 u_9 t_9 H_9 locs_9 ht hvm hw_9 hB hz1 hk1 hS1 => ?_)
        obtain ⟨hP1, hK1, hD1⟩ := hB
        rw [ht] at hP1
        obtain ⟨hP2, hD2⟩ := va_join (wr := [(q_3, .inr (5, [.int 0, .ref (u_4 0), .ref (u_4 1), .ref (u_4 2), .ref (u_4 3), .ref (u_4 4), .ref (u_4 5), .ref (u_4 6), .ref (u_4 7), .ref (u_4 8), .ref (u_4 9), .ref (u_4 10), .ref (u_4 11), .ref (u_4 12), .ref (u_4 13), .ref (u_4 14), .ref (u_4 15), .ref (u_4 16), .ref (u_4 17), .ref (u_4 18), .ref (u_4 19), .int 0, .int 0, .int 0, .int (-1), .ref (u_4 20), .ref (u_4 21), .ref (u_4 22), .ref (u_4 23), .ref (u_4 24), .ref (u_4 25), .long 0, .long 0, .long 0, .ref (u_4 26), .ref (u_4 27)])), ((u_4 0), .inl (cI, 40, .inl (fun _ => 0))), ((u_4 1), .inl (cI, 40, .inl (fun _ => 0))), ((u_4 2), .inl (cI, 40, .inl (fun _ => 0))), ((u_4 3), .inl (cI, 40, .inl (fun _ => 0))), ((u_4 4), .inl (cI, 40, .inl (fun _ => 0))), ((u_4 5), .inl (cI, 40, .inl (fun _ => 0))), ((u_4 6), .inl (cZ, 40, .inl (fun _ => 0))), ((u_4 20), .inl (cI, 6, .inl (ov (fun _ => 0) 6 0))), ((u_4 21), .inl (cI, 6, .inl (ov (fun _ => 0) 6 (-1))))]) (w1 := []) hP hD [0, 1, 2, 3, 4, 5, 6, 7] [8, 9, 10, 11, 12, 13, 14, 15, 16, 17] rfl rfl (by decide) (by decide) hk1 hFc hP1 hD1
        clear hPc hDc hFc hP1 hD1 hK1 hk1 hz1 hvm ht
        replace hP : va_P (dC, dI) vwCl [(q_3, .inr (5, [.int 0, .ref (u_4 0), .ref (u_4 1), .ref (u_4 2), .ref (u_4 3), .ref (u_4 4), .ref (u_4 5), .ref (u_4 6), .ref (u_4 7), .ref (u_4 8), .ref (u_4 9), .ref (u_4 10), .ref (u_4 11), .ref (u_4 12), .ref (u_4 13), .ref (u_4 14), .ref (u_4 15), .ref (u_4 16), .ref (u_4 17), .ref (u_4 18), .ref (u_4 19), .int 0, .int 0, .int 0, .int (-1), .ref (u_4 20), .ref (u_4 21), .ref (u_4 22), .ref (u_4 23), .ref (u_4 24), .ref (u_4 25), .long 0, .long 0, .long 0, .ref (u_4 26), .ref (u_4 27)])), ((u_4 0), .inl (cI, 40, .inl (fun _ => 0))), ((u_4 1), .inl (cI, 40, .inl (fun _ => 0))), ((u_4 2), .inl (cI, 40, .inl (fun _ => 0))), ((u_4 3), .inl (cI, 40, .inl (fun _ => 0))), ((u_4 4), .inl (cI, 40, .inl (fun _ => 0))), ((u_4 5), .inl (cI, 40, .inl (fun _ => 0))), ((u_4 6), .inl (cZ, 40, .inl (fun _ => 0))), ((u_4 20), .inl (cI, 6, .inl (ov (fun _ => 0) 6 0))), ((u_4 21), .inl (cI, 6, .inl (ov (fun _ => 0) 6 (-1))))] H_9 := hP2
        replace hD : va_D (fun q : Nat => s.heap.size ≤ q) [(q_3, .inr (5, [.int 0, .ref (u_4 0), .ref (u_4 1), .ref (u_4 2), .ref (u_4 3), .ref (u_4 4), .ref (u_4 5), .ref (u_4 6), .ref (u_4 7), .ref (u_4 8), .ref (u_4 9), .ref (u_4 10), .ref (u_4 11), .ref (u_4 12), .ref (u_4 13), .ref (u_4 14), .ref (u_4 15), .ref (u_4 16), .ref (u_4 17), .ref (u_4 18), .ref (u_4 19), .int 0, .int 0, .int 0, .int (-1), .ref (u_4 20), .ref (u_4 21), .ref (u_4 22), .ref (u_4 23), .ref (u_4 24), .ref (u_4 25), .long 0, .long 0, .long 0, .ref (u_4 26), .ref (u_4 27)])), ((u_4 0), .inl (cI, 40, .inl (fun _ => 0))), ((u_4 1), .inl (cI, 40, .inl (fun _ => 0))), ((u_4 2), .inl (cI, 40, .inl (fun _ => 0))), ((u_4 3), .inl (cI, 40, .inl (fun _ => 0))), ((u_4 4), .inl (cI, 40, .inl (fun _ => 0))), ((u_4 5), .inl (cI, 40, .inl (fun _ => 0))), ((u_4 6), .inl (cZ, 40, .inl (fun _ => 0))), ((u_4 20), .inl (cI, 6, .inl (ov (fun _ => 0) 6 0))), ((u_4 21), .inl (cI, 6, .inl (ov (fun _ => 0) 6 (-1))))] := hD2
        replace hS := hS1
        clear hP2 hD2 hS1
        refine lv_aload_n hx hb dL_law_176 rfl (lv_at hl 1 rfl) ?_
        refine lv_aload_n hx hb dL_law_177 rfl (lv_at hl 3 rfl) ?_
        refine lv_iload_n hx hb dL_law_178 rfl (lv_at hl 0 rfl) ?_
        refine lv_iconst (v := 1) hx hb dL_law_179 (by decide) ?_
        refine lv_iadd hx hb dL_law_180 ?_
        refine my_topi (y := 1) (by decide) ?_
        refine va_sld hx hb hX hbl hbA hS (vp_in_iff.mpr (by decide)) dL_law_181 ?_
        refine lv_aload_n hx hb dL_law_182 rfl (lv_at hl 3 rfl) ?_
        refine lv_iload_n hx hb dL_law_183 rfl (lv_at hl 0 rfl) ?_
        refine lv_iconst (v := 2) hx hb dL_law_184 (by decide) ?_
        refine lv_iadd hx hb dL_law_185 ?_
        refine my_topi (y := 2) (by decide) ?_
        refine va_sld hx hb hX hbl hbA hS (vp_in_iff.mpr (by decide)) dL_law_186 ?_
        refine lv_aload_n hx hb dL_law_187 rfl (lv_at hl 3 rfl) ?_
        refine lv_iload_n hx hb dL_law_188 rfl (lv_at hl 0 rfl) ?_
        refine lv_iconst (v := 3) hx hb dL_law_189 (by decide) ?_
        refine lv_iadd hx hb dL_law_190 ?_
        refine my_topi (y := 3) (by decide) ?_
        refine va_sld hx hb hX hbl hbA hS (vp_in_iff.mpr (by decide)) dL_law_191 ?_
        refine lv_aload_n hx hb dL_law_192 rfl (lv_at hl 3 rfl) ?_
        refine lv_iload_n hx hb dL_law_193 rfl (lv_at hl 0 rfl) ?_
        refine lv_iconst (v := 4) hx hb dL_law_194 (by decide) ?_
        refine lv_iadd hx hb dL_law_195 ?_
        refine my_topi (y := 4) (by decide) ?_
        refine va_sld hx hb hX hbl hbA hS (vp_in_iff.mpr (by decide)) dL_law_196 ?_
        refine lv_aload_n hx hb dL_law_197 rfl (lv_at hl 3 rfl) ?_
        refine lv_iload_n hx hb dL_law_198 rfl (lv_at hl 0 rfl) ?_
        refine lv_iconst (v := 5) hx hb dL_law_199 (by decide) ?_
        refine lv_iadd hx hb dL_law_200 ?_
        refine my_topi (y := 5) (by decide) ?_
        refine va_sld hx hb hX hbl hbA hS (vp_in_iff.mpr (by decide)) dL_law_201 ?_
        refine lv_aload_n hx hb dL_law_202 rfl (lv_at hl 3 rfl) ?_
        refine lv_iload_n hx hb dL_law_203 rfl (lv_at hl 0 rfl) ?_
        refine lv_bipush (v := 6) hx hb dL_law_204 (by decide) ?_
        refine lv_iadd hx hb dL_law_206 ?_
        refine my_topi (y := 6) (by decide) ?_
        refine va_sld hx hb hX hbl hbA hS (vp_in_iff.mpr (by decide)) dL_law_207 ?_
        have hPc := hP.sub (ws' := [(q_3, .inr (5, [.int 0, .ref (u_4 0), .ref (u_4 1), .ref (u_4 2), .ref (u_4 3), .ref (u_4 4), .ref (u_4 5), .ref (u_4 6), .ref (u_4 7), .ref (u_4 8), .ref (u_4 9), .ref (u_4 10), .ref (u_4 11), .ref (u_4 12), .ref (u_4 13), .ref (u_4 14), .ref (u_4 15), .ref (u_4 16), .ref (u_4 17), .ref (u_4 18), .ref (u_4 19), .int 0, .int 0, .int 0, .int (-1), .ref (u_4 20), .ref (u_4 21), .ref (u_4 22), .ref (u_4 23), .ref (u_4 24), .ref (u_4 25), .long 0, .long 0, .long 0, .ref (u_4 26), .ref (u_4 27)])), ((u_4 20), .inl (cI, 6, .inl (ov (fun _ => 0) 6 0))), ((u_4 21), .inl (cI, 6, .inl (ov (fun _ => 0) 6 (-1)))), ((u_4 0), .inl (cI, 40, .inl (fun _ => 0))), ((u_4 1), .inl (cI, 40, .inl (fun _ => 0))), ((u_4 2), .inl (cI, 40, .inl (fun _ => 0))), ((u_4 3), .inl (cI, 40, .inl (fun _ => 0))), ((u_4 4), .inl (cI, 40, .inl (fun _ => 0))), ((u_4 5), .inl (cI, 40, .inl (fun _ => 0))), ((u_4 6), .inl (cZ, 40, .inl (fun _ => 0)))]) [0, 8, 9, 1, 2, 3, 4, 5, 6, 7] rfl
        have hDc := hD.sub (ws' := [(q_3, .inr (5, [.int 0, .ref (u_4 0), .ref (u_4 1), .ref (u_4 2), .ref (u_4 3), .ref (u_4 4), .ref (u_4 5), .ref (u_4 6), .ref (u_4 7), .ref (u_4 8), .ref (u_4 9), .ref (u_4 10), .ref (u_4 11), .ref (u_4 12), .ref (u_4 13), .ref (u_4 14), .ref (u_4 15), .ref (u_4 16), .ref (u_4 17), .ref (u_4 18), .ref (u_4 19), .int 0, .int 0, .int 0, .int (-1), .ref (u_4 20), .ref (u_4 21), .ref (u_4 22), .ref (u_4 23), .ref (u_4 24), .ref (u_4 25), .long 0, .long 0, .long 0, .ref (u_4 26), .ref (u_4 27)])), ((u_4 20), .inl (cI, 6, .inl (ov (fun _ => 0) 6 0))), ((u_4 21), .inl (cI, 6, .inl (ov (fun _ => 0) 6 (-1)))), ((u_4 0), .inl (cI, 40, .inl (fun _ => 0))), ((u_4 1), .inl (cI, 40, .inl (fun _ => 0))), ((u_4 2), .inl (cI, 40, .inl (fun _ => 0))), ((u_4 3), .inl (cI, 40, .inl (fun _ => 0))), ((u_4 4), .inl (cI, 40, .inl (fun _ => 0))), ((u_4 5), .inl (cI, 40, .inl (fun _ => 0))), ((u_4 6), .inl (cZ, 40, .inl (fun _ => 0)))]) [0, 8, 9, 1, 2, 3, 4, 5, 6, 7] (by decide) rfl
        have hFc := va_free (wc := [(q_3, .inr (5, [.int 0, .ref (u_4 0), .ref (u_4 1), .ref (u_4 2), .ref (u_4 3), .ref (u_4 4), .ref (u_4 5), .ref (u_4 6), .ref (u_4 7), .ref (u_4 8), .ref (u_4 9), .ref (u_4 10), .ref (u_4 11), .ref (u_4 12), .ref (u_4 13), .ref (u_4 14), .ref (u_4 15), .ref (u_4 16), .ref (u_4 17), .ref (u_4 18), .ref (u_4 19), .int 0, .int 0, .int 0, .int (-1), .ref (u_4 20), .ref (u_4 21), .ref (u_4 22), .ref (u_4 23), .ref (u_4 24), .ref (u_4 25), .long 0, .long 0, .long 0, .ref (u_4 26), .ref (u_4 27)])), ((u_4 20), .inl (cI, 6, .inl (ov (fun _ => 0) 6 0))), ((u_4 21), .inl (cI, 6, .inl (ov (fun _ => 0) 6 (-1)))), ((u_4 0), .inl (cI, 40, .inl (fun _ => 0))), ((u_4 1), .inl (cI, 40, .inl (fun _ => 0))), ((u_4 2), .inl (cI, 40, .inl (fun _ => 0))), ((u_4 3), .inl (cI, 40, .inl (fun _ => 0))), ((u_4 4), .inl (cI, 40, .inl (fun _ => 0))), ((u_4 5), .inl (cI, 40, .inl (fun _ => 0))), ((u_4 6), .inl (cZ, 40, .inl (fun _ => 0)))]) hD hS hA [0, 8, 9, 1, 2, 3, 4, 5, 6, 7] rfl
        refine va_calli (va_runV (As := [.int (xs (1 : Int32).toNatClampNeg), .int (xs (2 : Int32).toNatClampNeg), .int (xs (3 : Int32).toNatClampNeg), .int (xs (4 : Int32).toNatClampNeg), .int (xs (5 : Int32).toNatClampNeg), .int (xs (6 : Int32).toNatClampNeg)]) (rest := [.int r_9]) ⟨hx, hb, hml, hown, hts⟩ (c_X5_act l dC dI cI cJ cZ q_3 (u_4 20) (u_4 21) (ov (fun _ => 0) 6 0) (ov (fun _ => 0) 6 (-1)) (.ref (u_4 7)) (.ref (u_4 8)) (.ref (u_4 9)) (.ref (u_4 10)) (.ref (u_4 11)) (.ref (u_4 12)) (.ref (u_4 13)) (.ref (u_4 14)) (.ref (u_4 15)) (.ref (u_4 16)) (.ref (u_4 17)) (.ref (u_4 18)) (.ref (u_4 19)) (.int 0) (.int 0) (.int 0) (.int (-1)) (.ref (u_4 22)) (.ref (u_4 23)) (.ref (u_4 24)) (.ref (u_4 25)) (.long 0) (.long 0) (.long 0) (.ref (u_4 26)) (.ref (u_4 27)) (u_4 0) (u_4 1) (u_4 2) (u_4 3) (u_4 4) (u_4 5) (u_4 6) (fun _ => 0) (fun _ => 0) (fun _ => 0) (fun _ => 0) (fun _ => 0) (fun _ => 0) (fun _ => 0) (xs (1 : Int32).toNatClampNeg) (xs (2 : Int32).toNatClampNeg) (xs (3 : Int32).toNatClampNeg) (xs (4 : Int32).toNatClampNeg) (xs (5 : Int32).toNatClampNeg) (xs (6 : Int32).toNatClampNeg) H_9.size) (cwV 6 hts g_L_law_X5_act_22 rfl rfl rfl (by decide +kernel) ⟨Nat.le_of_ble_eq_true rfl, Nat.le_of_ble_eq_true rfl⟩) ⟨cPre_blind, va_recv hK hPc (ci := 5) (q0 := 0) rfl rfl, cPre_of hK hN hPc hDc⟩ rfl rfl hl.1 rfl (lv_room (Nat.le_of_ble_eq_true rfl)) dL_law_208 ⟨Nat.le_of_ble_eq_true rfl, Nat.le_of_ble_eq_true rfl⟩) hS (fun q _ h => hFc q h) hFc (fun r_10 u_10 t_10 H_10 locs_10 ht hvm hw_10 hB hz1 hk1 hS1 => ?_)
        obtain ⟨hP1, hK1, hD1⟩ := hB
        rw [ht] at hP1
        obtain ⟨hP2, hD2⟩ := va_join (wr := []) (w1 := []) hP hD [0, 8, 9, 1, 2, 3, 4, 5, 6, 7] [] rfl rfl (by decide) (by decide) hk1 hFc hP1 hD1
        clear hPc hDc hFc hP1 hD1 hK1 hk1 hz1 hvm ht
        replace hP : va_P (dC, dI) vwCl [] H_10 := hP2
        replace hD : va_D (fun q : Nat => s.heap.size ≤ q) [] := hD2
        replace hS := hS1
        clear hP2 hD2 hS1
        refine lv_icmp_eq (tgt := 730) hx hb dL_law_211 (by decide) (fun c_11 => ?_) (fun c_11 => ?_)
        · -- on
          refine lv_iinc (v := 7) (lv' := [(3, .int 7), (2, .ref q_3), (1, .ref q_1), (0, .ref b)]) hx hb dL_law_730 hl (k := 0) rfl (by decide) (by decide) rfl (fun ls1 hl1 => ?_)
          replace hl := hl1; clear hl1
          refine lv_goto (tgt := 18) hx hb dL_law_733 (by decide) ?_
          refine lv_iload_n hx hb dL_law_18 rfl (lv_at hl 0 rfl) ?_
          refine lv_aload_n hx hb dL_law_19 rfl (lv_at hl 3 rfl) ?_
          refine va_slen hx hb hX hbl hbA hS dL_law_20 ?_
          refine lv_bipush (v := 7) hx hb dL_law_21 (by decide) ?_
          refine lv_isub hx hb dL_law_23 ?_
          refine my_topi (y := 0) (by decide) ?_
          refine lv_icmp_gt (tgt := 736) hx hb dL_law_24 (by decide) (fun c_0 => ?_) (fun c_0 => ?_)
          · -- end
            refine lv_iconst (v := 1) hx hb dL_law_736 (by decide) ?_
            refine va_forget (fun q hq => hS.2.2 q hq) ?_
            refine W.widen (k := 64) (n := 6560) (Nat.le_of_ble_eq_true rfl) (Nat.le_of_ble_eq_true rfl) ?_
            exact lw_ret hx hb hr hlocks dL_law_737
          · exact absurd (by decide) c_0
        · exact absurd (two_eq hw_9 hw_10) c_11
      · -- case 2
        refine lv_tableIn (tgt := 216) (off := 183) hx hb dL_law_33 (by omega) (by omega) (by rw [sv_5]; rfl) (by decide) ?_
        replace hP := hP.sub (ws' := [(q_1, .inr (4, [.ref (u_2 0), .ref (u_2 3), .ref (u_2 28), .int 0])), ((u_2 0), .inr (3, [.ref (u_2 1), .ref (u_2 2), .int 0])), (q_3, .inr (5, [.int 0, .ref (u_4 0), .ref (u_4 1), .ref (u_4 2), .ref (u_4 3), .ref (u_4 4), .ref (u_4 5), .ref (u_4 6), .ref (u_4 7), .ref (u_4 8), .ref (u_4 9), .ref (u_4 10), .ref (u_4 11), .ref (u_4 12), .ref (u_4 13), .ref (u_4 14), .ref (u_4 15), .ref (u_4 16), .ref (u_4 17), .ref (u_4 18), .ref (u_4 19), .int 0, .int 0, .int 0, .int (-1), .ref (u_4 20), .ref (u_4 21), .ref (u_4 22), .ref (u_4 23), .ref (u_4 24), .ref (u_4 25), .long 0, .long 0, .long 0, .ref (u_4 26), .ref (u_4 27)]))]) [0, 1, 35] rfl
        replace hD := hD.sub (ws' := [(q_1, .inr (4, [.ref (u_2 0), .ref (u_2 3), .ref (u_2 28), .int 0])), ((u_2 0), .inr (3, [.ref (u_2 1), .ref (u_2 2), .int 0])), (q_3, .inr (5, [.int 0, .ref (u_4 0), .ref (u_4 1), .ref (u_4 2), .ref (u_4 3), .ref (u_4 4), .ref (u_4 5), .ref (u_4 6), .ref (u_4 7), .ref (u_4 8), .ref (u_4 9), .ref (u_4 10), .ref (u_4 11), .ref (u_4 12), .ref (u_4 13), .ref (u_4 14), .ref (u_4 15), .ref (u_4 16), .ref (u_4 17), .ref (u_4 18), .ref (u_4 19), .int 0, .int 0, .int 0, .int (-1), .ref (u_4 20), .ref (u_4 21), .ref (u_4 22), .ref (u_4 23), .ref (u_4 24), .ref (u_4 25), .long 0, .long 0, .long 0, .ref (u_4 26), .ref (u_4 27)]))]) [0, 1, 35] (by decide) rfl
        refine lv_aload_n hx hb dL_law_216 rfl (lv_at hl 2 rfl) ?_
        refine lv_aload_n hx hb dL_law_217 rfl (lv_at hl 3 rfl) ?_
        refine lv_iload_n hx hb dL_law_218 rfl (lv_at hl 0 rfl) ?_
        refine lv_iconst (v := 1) hx hb dL_law_219 (by decide) ?_
        refine lv_iadd hx hb dL_law_220 ?_
        refine my_topi (y := 1) (by decide) ?_
        refine va_sld hx hb hX hbl hbA hS (vp_in_iff.mpr (by decide)) dL_law_221 ?_
        have hPc := hP.sub (ws' := [(q_1, .inr (4, [.ref (u_2 0), .ref (u_2 3), .ref (u_2 28), .int 0])), ((u_2 0), .inr (3, [.ref (u_2 1), .ref (u_2 2), .int 0]))]) [0, 1] rfl
        have hDc := hD.sub (ws' := [(q_1, .inr (4, [.ref (u_2 0), .ref (u_2 3), .ref (u_2 28), .int 0])), ((u_2 0), .inr (3, [.ref (u_2 1), .ref (u_2 2), .int 0]))]) [0, 1] (by decide) rfl
        have hFc := va_free (wc := [(q_1, .inr (4, [.ref (u_2 0), .ref (u_2 3), .ref (u_2 28), .int 0])), ((u_2 0), .inr (3, [.ref (u_2 1), .ref (u_2 2), .int 0]))]) hD hS hA [0, 1] rfl
        refine va_calli (va_runV (As := [.int (xs (1 : Int32).toNatClampNeg)]) (rest := []) ⟨hx, hb, hml, hown, hts⟩ (c_X4_drop l dC dI cI cJ cZ q_1 (.ref (u_2 3)) (.ref (u_2 28)) (.int 0) (u_2 0) (.ref (u_2 1)) (.ref (u_2 2)) (xs (1 : Int32).toNatClampNeg) H_4.size) (cwV 1 hts g_L_law_X4_drop_23 rfl rfl rfl (by decide +kernel) ⟨Nat.le_of_ble_eq_true rfl, Nat.le_of_ble_eq_true rfl⟩) ⟨cPre_blind, va_recv hK hPc (ci := 4) (q0 := 0) rfl rfl, cPre_of hK hN hPc hDc⟩ rfl rfl hl.1 rfl (lv_room (Nat.le_of_ble_eq_true rfl)) dL_law_222 ⟨Nat.le_of_ble_eq_true rfl, Nat.le_of_ble_eq_true rfl⟩) hS (fun q _ h => hFc q h) hFc (fun r_12 u_12 t_12 H_12 locs_12 ht hvm hw_12 hB hz1 hk1 hS1 => ?_)
        obtain ⟨hP1, hK1, hD1⟩ := hB
        rw [ht] at hP1
        obtain ⟨hP2, hD2⟩ := va_join (wr := [(q_3, .inr (5, [.int 0, .ref (u_4 0), .ref (u_4 1), .ref (u_4 2), .ref (u_4 3), .ref (u_4 4), .ref (u_4 5), .ref (u_4 6), .ref (u_4 7), .ref (u_4 8), .ref (u_4 9), .ref (u_4 10), .ref (u_4 11), .ref (u_4 12), .ref (u_4 13), .ref (u_4 14), .ref (u_4 15), .ref (u_4 16), .ref (u_4 17), .ref (u_4 18), .ref (u_4 19), .int 0, .int 0, .int 0, .int (-1), .ref (u_4 20), .ref (u_4 21), .ref (u_4 22), .ref (u_4 23), .ref (u_4 24), .ref (u_4 25), .long 0, .long 0, .long 0, .ref (u_4 26), .ref (u_4 27)]))]) (w1 := []) hP hD [0, 1] [2] rfl rfl (by decide) (by decide) hk1 hFc hP1 hD1
        clear hPc hDc hFc hP1 hD1 hK1 hk1 hz1 hvm ht
        replace hP : va_P (dC, dI) vwCl [(q_3, .inr (5, [.int 0, .ref (u_4 0), .ref (u_4 1), .ref (u_4 2), .ref (u_4 3), .ref (u_4 4), .ref (u_4 5), .ref (u_4 6), .ref (u_4 7), .ref (u_4 8), .ref (u_4 9), .ref (u_4 10), .ref (u_4 11), .ref (u_4 12), .ref (u_4 13), .ref (u_4 14), .ref (u_4 15), .ref (u_4 16), .ref (u_4 17), .ref (u_4 18), .ref (u_4 19), .int 0, .int 0, .int 0, .int (-1), .ref (u_4 20), .ref (u_4 21), .ref (u_4 22), .ref (u_4 23), .ref (u_4 24), .ref (u_4 25), .long 0, .long 0, .long 0, .ref (u_4 26), .ref (u_4 27)]))] H_12 := hP2
        replace hD : va_D (fun q : Nat => s.heap.size ≤ q) [(q_3, .inr (5, [.int 0, .ref (u_4 0), .ref (u_4 1), .ref (u_4 2), .ref (u_4 3), .ref (u_4 4), .ref (u_4 5), .ref (u_4 6), .ref (u_4 7), .ref (u_4 8), .ref (u_4 9), .ref (u_4 10), .ref (u_4 11), .ref (u_4 12), .ref (u_4 13), .ref (u_4 14), .ref (u_4 15), .ref (u_4 16), .ref (u_4 17), .ref (u_4 18), .ref (u_4 19), .int 0, .int 0, .int 0, .int (-1), .ref (u_4 20), .ref (u_4 21), .ref (u_4 22), .ref (u_4 23), .ref (u_4 24), .ref (u_4 25), .long 0, .long 0, .long 0, .ref (u_4 26), .ref (u_4 27)]))] := hD2
        replace hS := hS1
        clear hP2 hD2 hS1
        refine my_topi (y := (-2)) hw_12 ?_
        refine lv_aload_n hx hb dL_law_225 rfl (lv_at hl 1 rfl) ?_
        refine lv_aload_n hx hb dL_law_226 rfl (lv_at hl 3 rfl) ?_
        refine lv_iload_n hx hb dL_law_227 rfl (lv_at hl 0 rfl) ?_
        refine lv_iconst (v := 1) hx hb dL_law_228 (by decide) ?_
        refine lv_iadd hx hb dL_law_229 ?_
        refine my_topi (y := 1) (by decide) ?_
        refine va_sld hx hb hX hbl hbA hS (vp_in_iff.mpr (by decide)) dL_law_230 ?_
        have hPc := hP.sub (ws' := [(q_3, .inr (5, [.int 0, .ref (u_4 0), .ref (u_4 1), .ref (u_4 2), .ref (u_4 3), .ref (u_4 4), .ref (u_4 5), .ref (u_4 6), .ref (u_4 7), .ref (u_4 8), .ref (u_4 9), .ref (u_4 10), .ref (u_4 11), .ref (u_4 12), .ref (u_4 13), .ref (u_4 14), .ref (u_4 15), .ref (u_4 16), .ref (u_4 17), .ref (u_4 18), .ref (u_4 19), .int 0, .int 0, .int 0, .int (-1), .ref (u_4 20), .ref (u_4 21), .ref (u_4 22), .ref (u_4 23), .ref (u_4 24), .ref (u_4 25), .long 0, .long 0, .long 0, .ref (u_4 26), .ref (u_4 27)]))]) [0] rfl
        have hDc := hD.sub (ws' := [(q_3, .inr (5, [.int 0, .ref (u_4 0), .ref (u_4 1), .ref (u_4 2), .ref (u_4 3), .ref (u_4 4), .ref (u_4 5), .ref (u_4 6), .ref (u_4 7), .ref (u_4 8), .ref (u_4 9), .ref (u_4 10), .ref (u_4 11), .ref (u_4 12), .ref (u_4 13), .ref (u_4 14), .ref (u_4 15), .ref (u_4 16), .ref (u_4 17), .ref (u_4 18), .ref (u_4 19), .int 0, .int 0, .int 0, .int (-1), .ref (u_4 20), .ref (u_4 21), .ref (u_4 22), .ref (u_4 23), .ref (u_4 24), .ref (u_4 25), .long 0, .long 0, .long 0, .ref (u_4 26), .ref (u_4 27)]))]) [0] (by decide) rfl
        have hFc := va_free (wc := [(q_3, .inr (5, [.int 0, .ref (u_4 0), .ref (u_4 1), .ref (u_4 2), .ref (u_4 3), .ref (u_4 4), .ref (u_4 5), .ref (u_4 6), .ref (u_4 7), .ref (u_4 8), .ref (u_4 9), .ref (u_4 10), .ref (u_4 11), .ref (u_4 12), .ref (u_4 13), .ref (u_4 14), .ref (u_4 15), .ref (u_4 16), .ref (u_4 17), .ref (u_4 18), .ref (u_4 19), .int 0, .int 0, .int 0, .int (-1), .ref (u_4 20), .ref (u_4 21), .ref (u_4 22), .ref (u_4 23), .ref (u_4 24), .ref (u_4 25), .long 0, .long 0, .long 0, .ref (u_4 26), .ref (u_4 27)]))]) hD hS hA [0] rfl
        refine va_calli (va_runV (As := [.int (xs (1 : Int32).toNatClampNeg)]) (rest := [.int (-2)]) ⟨hx, hb, hml, hown, hts⟩ (c_X5_drop l dC dI cI cJ cZ q_3 (.ref (u_4 0)) (.ref (u_4 1)) (.ref (u_4 2)) (.ref (u_4 3)) (.ref (u_4 4)) (.ref (u_4 5)) (.ref (u_4 6)) (.ref (u_4 7)) (.ref (u_4 8)) (.ref (u_4 9)) (.ref (u_4 10)) (.ref (u_4 11)) (.ref (u_4 12)) (.ref (u_4 13)) (.ref (u_4 14)) (.ref (u_4 15)) (.ref (u_4 16)) (.ref (u_4 17)) (.ref (u_4 18)) (.ref (u_4 19)) (.int 0) (.int 0) (.int 0) (.int (-1)) (.ref (u_4 20)) (.ref (u_4 21)) (.ref (u_4 22)) (.ref (u_4 23)) (.ref (u_4 24)) (.ref (u_4 25)) (.long 0) (.long 0) (.long 0) (.ref (u_4 26)) (.ref (u_4 27)) (xs (1 : Int32).toNatClampNeg) H_12.size) (cwV 1 hts g_L_law_X5_drop_27 rfl rfl rfl (by decide +kernel) ⟨Nat.le_of_ble_eq_true rfl, Nat.le_of_ble_eq_true rfl⟩) ⟨cPre_blind, va_recv hK hPc (ci := 5) (q0 := 0) rfl rfl, cPre_of hK hN hPc hDc⟩ rfl rfl hl.1 rfl (lv_room (Nat.le_of_ble_eq_true rfl)) dL_law_231 ⟨Nat.le_of_ble_eq_true rfl, Nat.le_of_ble_eq_true rfl⟩) hS (fun q _ h => hFc q h) hFc (fun r_13 u_13 t_13 H_13 locs_13 ht hvm hw_13 hB hz1 hk1 hS1 => ?_)
        obtain ⟨hP1, hK1, hD1⟩ := hB
        rw [ht] at hP1
        obtain ⟨hP2, hD2⟩ := va_join (wr := []) (w1 := []) hP hD [0] [] rfl rfl (by decide) (by decide) hk1 hFc hP1 hD1
        clear hPc hDc hFc hP1 hD1 hK1 hk1 hz1 hvm ht
        replace hP : va_P (dC, dI) vwCl [] H_13 := hP2
        replace hD : va_D (fun q : Nat => s.heap.size ≤ q) [] := hD2
        replace hS := hS1
        clear hP2 hD2 hS1
        refine my_topi (y := (-2)) hw_13 ?_
        refine lv_icmp_eq (tgt := 730) hx hb dL_law_234 (by decide) (fun c_14 => ?_) (fun c_14 => ?_)
        · -- on
          refine lv_iinc (v := 7) (lv' := [(3, .int 7), (2, .ref q_3), (1, .ref q_1), (0, .ref b)]) hx hb dL_law_730 hl (k := 0) rfl (by decide) (by decide) rfl (fun ls1 hl1 => ?_)
          replace hl := hl1; clear hl1
          refine lv_goto (tgt := 18) hx hb dL_law_733 (by decide) ?_
          refine lv_iload_n hx hb dL_law_18 rfl (lv_at hl 0 rfl) ?_
          refine lv_aload_n hx hb dL_law_19 rfl (lv_at hl 3 rfl) ?_
          refine va_slen hx hb hX hbl hbA hS dL_law_20 ?_
          refine lv_bipush (v := 7) hx hb dL_law_21 (by decide) ?_
          refine lv_isub hx hb dL_law_23 ?_
          refine my_topi (y := 0) (by decide) ?_
          refine lv_icmp_gt (tgt := 736) hx hb dL_law_24 (by decide) (fun c_0 => ?_) (fun c_0 => ?_)
          · -- end
            refine lv_iconst (v := 1) hx hb dL_law_736 (by decide) ?_
            refine va_forget (fun q hq => hS.2.2 q hq) ?_
            refine W.widen (k := 64) (n := 6560) (Nat.le_of_ble_eq_true rfl) (Nat.le_of_ble_eq_true rfl) ?_
            exact lw_ret hx hb hr hlocks dL_law_737
          · exact absurd (by decide) c_0
        · exact absurd (by decide) c_14
      · -- case 3
        refine lv_tableIn (tgt := 239) (off := 206) hx hb dL_law_33 (by omega) (by omega) (by rw [sv_5]; rfl) (by decide) ?_
        replace hP := hP.sub (ws' := [(q_1, .inr (4, [.ref (u_2 0), .ref (u_2 3), .ref (u_2 28), .int 0])), ((u_2 0), .inr (3, [.ref (u_2 1), .ref (u_2 2), .int 0])), (q_3, .inr (5, [.int 0, .ref (u_4 0), .ref (u_4 1), .ref (u_4 2), .ref (u_4 3), .ref (u_4 4), .ref (u_4 5), .ref (u_4 6), .ref (u_4 7), .ref (u_4 8), .ref (u_4 9), .ref (u_4 10), .ref (u_4 11), .ref (u_4 12), .ref (u_4 13), .ref (u_4 14), .ref (u_4 15), .ref (u_4 16), .ref (u_4 17), .ref (u_4 18), .ref (u_4 19), .int 0, .int 0, .int 0, .int (-1), .ref (u_4 20), .ref (u_4 21), .ref (u_4 22), .ref (u_4 23), .ref (u_4 24), .ref (u_4 25), .long 0, .long 0, .long 0, .ref (u_4 26), .ref (u_4 27)]))]) [0, 1, 35] rfl
        replace hD := hD.sub (ws' := [(q_1, .inr (4, [.ref (u_2 0), .ref (u_2 3), .ref (u_2 28), .int 0])), ((u_2 0), .inr (3, [.ref (u_2 1), .ref (u_2 2), .int 0])), (q_3, .inr (5, [.int 0, .ref (u_4 0), .ref (u_4 1), .ref (u_4 2), .ref (u_4 3), .ref (u_4 4), .ref (u_4 5), .ref (u_4 6), .ref (u_4 7), .ref (u_4 8), .ref (u_4 9), .ref (u_4 10), .ref (u_4 11), .ref (u_4 12), .ref (u_4 13), .ref (u_4 14), .ref (u_4 15), .ref (u_4 16), .ref (u_4 17), .ref (u_4 18), .ref (u_4 19), .int 0, .int 0, .int 0, .int (-1), .ref (u_4 20), .ref (u_4 21), .ref (u_4 22), .ref (u_4 23), .ref (u_4 24), .ref (u_4 25), .long 0, .long 0, .long 0, .ref (u_4 26), .ref (u_4 27)]))]) [0, 1, 35] (by decide) rfl
        refine lv_aload_n hx hb dL_law_239 rfl (lv_at hl 2 rfl) ?_
        refine lv_aload_n hx hb dL_law_240 rfl (lv_at hl 3 rfl) ?_
        refine lv_iload_n hx hb dL_law_241 rfl (lv_at hl 0 rfl) ?_
        refine lv_iconst (v := 1) hx hb dL_law_242 (by decide) ?_
        refine lv_iadd hx hb dL_law_243 ?_
        refine my_topi (y := 1) (by decide) ?_
        refine va_sld hx hb hX hbl hbA hS (vp_in_iff.mpr (by decide)) dL_law_244 ?_
        have hPc := hP.sub (ws' := [(q_1, .inr (4, [.ref (u_2 0), .ref (u_2 3), .ref (u_2 28), .int 0])), ((u_2 0), .inr (3, [.ref (u_2 1), .ref (u_2 2), .int 0]))]) [0, 1] rfl
        have hDc := hD.sub (ws' := [(q_1, .inr (4, [.ref (u_2 0), .ref (u_2 3), .ref (u_2 28), .int 0])), ((u_2 0), .inr (3, [.ref (u_2 1), .ref (u_2 2), .int 0]))]) [0, 1] (by decide) rfl
        have hFc := va_free (wc := [(q_1, .inr (4, [.ref (u_2 0), .ref (u_2 3), .ref (u_2 28), .int 0])), ((u_2 0), .inr (3, [.ref (u_2 1), .ref (u_2 2), .int 0]))]) hD hS hA [0, 1] rfl
        refine va_calli (va_runV (As := [.int (xs (1 : Int32).toNatClampNeg)]) (rest := []) ⟨hx, hb, hml, hown, hts⟩ (c_X4_reached l dC dI cI cJ cZ q_1 (.ref (u_2 3)) (.ref (u_2 28)) (.int 0) (u_2 0) (.ref (u_2 1)) (.ref (u_2 2)) (xs (1 : Int32).toNatClampNeg) H_4.size) (cwV 1 hts g_L_law_X4_reached_28 rfl rfl rfl (by decide +kernel) ⟨Nat.le_of_ble_eq_true rfl, Nat.le_of_ble_eq_true rfl⟩) ⟨cPre_blind, va_recv hK hPc (ci := 4) (q0 := 0) rfl rfl, cPre_of hK hN hPc hDc⟩ rfl rfl hl.1 rfl (lv_room (Nat.le_of_ble_eq_true rfl)) dL_law_245 ⟨Nat.le_of_ble_eq_true rfl, Nat.le_of_ble_eq_true rfl⟩) hS (fun q _ h => hFc q h) hFc (fun r_15 u_15 t_15 H_15 locs_15 ht hvm hw_15 hB hz1 hk1 hS1 => ?_)
        obtain ⟨hP1, hK1, hD1⟩ := hB
        rw [ht] at hP1
        obtain ⟨hP2, hD2⟩ := va_join (wr := [(q_3, .inr (5, [.int 0, .ref (u_4 0), .ref (u_4 1), .ref (u_4 2), .ref (u_4 3), .ref (u_4 4), .ref (u_4 5), .ref (u_4 6), .ref (u_4 7), .ref (u_4 8), .ref (u_4 9), .ref (u_4 10), .ref (u_4 11), .ref (u_4 12), .ref (u_4 13), .ref (u_4 14), .ref (u_4 15), .ref (u_4 16), .ref (u_4 17), .ref (u_4 18), .ref (u_4 19), .int 0, .int 0, .int 0, .int (-1), .ref (u_4 20), .ref (u_4 21), .ref (u_4 22), .ref (u_4 23), .ref (u_4 24), .ref (u_4 25), .long 0, .long 0, .long 0, .ref (u_4 26), .ref (u_4 27)]))]) (w1 := []) hP hD [0, 1] [2] rfl rfl (by decide) (by decide) hk1 hFc hP1 hD1
        clear hPc hDc hFc hP1 hD1 hK1 hk1 hz1 hvm ht
        replace hP : va_P (dC, dI) vwCl [(q_3, .inr (5, [.int 0, .ref (u_4 0), .ref (u_4 1), .ref (u_4 2), .ref (u_4 3), .ref (u_4 4), .ref (u_4 5), .ref (u_4 6), .ref (u_4 7), .ref (u_4 8), .ref (u_4 9), .ref (u_4 10), .ref (u_4 11), .ref (u_4 12), .ref (u_4 13), .ref (u_4 14), .ref (u_4 15), .ref (u_4 16), .ref (u_4 17), .ref (u_4 18), .ref (u_4 19), .int 0, .int 0, .int 0, .int (-1), .ref (u_4 20), .ref (u_4 21), .ref (u_4 22), .ref (u_4 23), .ref (u_4 24), .ref (u_4 25), .long 0, .long 0, .long 0, .ref (u_4 26), .ref (u_4 27)]))] H_15 := hP2
        replace hD : va_D (fun q : Nat => s.heap.size ≤ q) [(q_3, .inr (5, [.int 0, .ref (u_4 0), .ref (u_4 1), .ref (u_4 2), .ref (u_4 3), .ref (u_4 4), .ref (u_4 5), .ref (u_4 6), .ref (u_4 7), .ref (u_4 8), .ref (u_4 9), .ref (u_4 10), .ref (u_4 11), .ref (u_4 12), .ref (u_4 13), .ref (u_4 14), .ref (u_4 15), .ref (u_4 16), .ref (u_4 17), .ref (u_4 18), .ref (u_4 19), .int 0, .int 0, .int 0, .int (-1), .ref (u_4 20), .ref (u_4 21), .ref (u_4 22), .ref (u_4 23), .ref (u_4 24), .ref (u_4 25), .long 0, .long 0, .long 0, .ref (u_4 26), .ref (u_4 27)]))] := hD2
        replace hS := hS1
        clear hP2 hD2 hS1
        refine my_topi (y := (-2)) hw_15 ?_
        refine lv_aload_n hx hb dL_law_248 rfl (lv_at hl 1 rfl) ?_
        refine lv_aload_n hx hb dL_law_249 rfl (lv_at hl 3 rfl) ?_
        refine lv_iload_n hx hb dL_law_250 rfl (lv_at hl 0 rfl) ?_
        refine lv_iconst (v := 1) hx hb dL_law_251 (by decide) ?_
        refine lv_iadd hx hb dL_law_252 ?_
        refine my_topi (y := 1) (by decide) ?_
        refine va_sld hx hb hX hbl hbA hS (vp_in_iff.mpr (by decide)) dL_law_253 ?_
        have hPc := hP.sub (ws' := [(q_3, .inr (5, [.int 0, .ref (u_4 0), .ref (u_4 1), .ref (u_4 2), .ref (u_4 3), .ref (u_4 4), .ref (u_4 5), .ref (u_4 6), .ref (u_4 7), .ref (u_4 8), .ref (u_4 9), .ref (u_4 10), .ref (u_4 11), .ref (u_4 12), .ref (u_4 13), .ref (u_4 14), .ref (u_4 15), .ref (u_4 16), .ref (u_4 17), .ref (u_4 18), .ref (u_4 19), .int 0, .int 0, .int 0, .int (-1), .ref (u_4 20), .ref (u_4 21), .ref (u_4 22), .ref (u_4 23), .ref (u_4 24), .ref (u_4 25), .long 0, .long 0, .long 0, .ref (u_4 26), .ref (u_4 27)]))]) [0] rfl
        have hDc := hD.sub (ws' := [(q_3, .inr (5, [.int 0, .ref (u_4 0), .ref (u_4 1), .ref (u_4 2), .ref (u_4 3), .ref (u_4 4), .ref (u_4 5), .ref (u_4 6), .ref (u_4 7), .ref (u_4 8), .ref (u_4 9), .ref (u_4 10), .ref (u_4 11), .ref (u_4 12), .ref (u_4 13), .ref (u_4 14), .ref (u_4 15), .ref (u_4 16), .ref (u_4 17), .ref (u_4 18), .ref (u_4 19), .int 0, .int 0, .int 0, .int (-1), .ref (u_4 20), .ref (u_4 21), .ref (u_4 22), .ref (u_4 23), .ref (u_4 24), .ref (u_4 25), .long 0, .long 0, .long 0, .ref (u_4 26), .ref (u_4 27)]))]) [0] (by decide) rfl
        have hFc := va_free (wc := [(q_3, .inr (5, [.int 0, .ref (u_4 0), .ref (u_4 1), .ref (u_4 2), .ref (u_4 3), .ref (u_4 4), .ref (u_4 5), .ref (u_4 6), .ref (u_4 7), .ref (u_4 8), .ref (u_4 9), .ref (u_4 10), .ref (u_4 11), .ref (u_4 12), .ref (u_4 13), .ref (u_4 14), .ref (u_4 15), .ref (u_4 16), .ref (u_4 17), .ref (u_4 18), .ref (u_4 19), .int 0, .int 0, .int 0, .int (-1), .ref (u_4 20), .ref (u_4 21), .ref (u_4 22), .ref (u_4 23), .ref (u_4 24), .ref (u_4 25), .long 0, .long 0, .long 0, .ref (u_4 26), .ref (u_4 27)]))]) hD hS hA [0] rfl
        refine va_calli (va_runV (As := [.int (xs (1 : Int32).toNatClampNeg)]) (rest := [.int (-2)]) ⟨hx, hb, hml, hown, hts⟩ (c_X5_reached l dC dI cI cJ cZ q_3 (.ref (u_4 0)) (.ref (u_4 1)) (.ref (u_4 2)) (.ref (u_4 3)) (.ref (u_4 4)) (.ref (u_4 5)) (.ref (u_4 6)) (.ref (u_4 7)) (.ref (u_4 8)) (.ref (u_4 9)) (.ref (u_4 10)) (.ref (u_4 11)) (.ref (u_4 12)) (.ref (u_4 13)) (.ref (u_4 14)) (.ref (u_4 15)) (.ref (u_4 16)) (.ref (u_4 17)) (.ref (u_4 18)) (.ref (u_4 19)) (.int 0) (.int 0) (.int 0) (.int (-1)) (.ref (u_4 20)) (.ref (u_4 21)) (.ref (u_4 22)) (.ref (u_4 23)) (.ref (u_4 24)) (.ref (u_4 25)) (.long 0) (.long 0) (.long 0) (.ref (u_4 26)) (.ref (u_4 27)) (xs (1 : Int32).toNatClampNeg) H_15.size) (cwV 1 hts g_L_law_X5_reached_31 rfl rfl rfl (by decide +kernel) ⟨Nat.le_of_ble_eq_true rfl, Nat.le_of_ble_eq_true rfl⟩) ⟨cPre_blind, va_recv hK hPc (ci := 5) (q0 := 0) rfl rfl, cPre_of hK hN hPc hDc⟩ rfl rfl hl.1 rfl (lv_room (Nat.le_of_ble_eq_true rfl)) dL_law_254 ⟨Nat.le_of_ble_eq_true rfl, Nat.le_of_ble_eq_true rfl⟩) hS (fun q _ h => hFc q h) hFc (fun r_16 u_16 t_16 H_16 locs_16 ht hvm hw_16 hB hz1 hk1 hS1 => ?_)
        obtain ⟨hP1, hK1, hD1⟩ := hB
        rw [ht] at hP1
        obtain ⟨hP2, hD2⟩ := va_join (wr := []) (w1 := []) hP hD [0] [] rfl rfl (by decide) (by decide) hk1 hFc hP1 hD1
        clear hPc hDc hFc hP1 hD1 hK1 hk1 hz1 hvm ht
        replace hP : va_P (dC, dI) vwCl [] H_16 := hP2
        replace hD : va_D (fun q : Nat => s.heap.size ≤ q) [] := hD2
        replace hS := hS1
        clear hP2 hD2 hS1
        refine my_topi (y := (-2)) hw_16 ?_
        refine lv_icmp_eq (tgt := 730) hx hb dL_law_257 (by decide) (fun c_17 => ?_) (fun c_17 => ?_)
        · -- on
          refine lv_iinc (v := 7) (lv' := [(3, .int 7), (2, .ref q_3), (1, .ref q_1), (0, .ref b)]) hx hb dL_law_730 hl (k := 0) rfl (by decide) (by decide) rfl (fun ls1 hl1 => ?_)
          replace hl := hl1; clear hl1
          refine lv_goto (tgt := 18) hx hb dL_law_733 (by decide) ?_
          refine lv_iload_n hx hb dL_law_18 rfl (lv_at hl 0 rfl) ?_
          refine lv_aload_n hx hb dL_law_19 rfl (lv_at hl 3 rfl) ?_
          refine va_slen hx hb hX hbl hbA hS dL_law_20 ?_
          refine lv_bipush (v := 7) hx hb dL_law_21 (by decide) ?_
          refine lv_isub hx hb dL_law_23 ?_
          refine my_topi (y := 0) (by decide) ?_
          refine lv_icmp_gt (tgt := 736) hx hb dL_law_24 (by decide) (fun c_0 => ?_) (fun c_0 => ?_)
          · -- end
            refine lv_iconst (v := 1) hx hb dL_law_736 (by decide) ?_
            refine va_forget (fun q hq => hS.2.2 q hq) ?_
            refine W.widen (k := 64) (n := 6560) (Nat.le_of_ble_eq_true rfl) (Nat.le_of_ble_eq_true rfl) ?_
            exact lw_ret hx hb hr hlocks dL_law_737
          · exact absurd (by decide) c_0
        · exact absurd (by decide) c_17
      · -- case 4
        refine lv_tableIn (tgt := 262) (off := 229) hx hb dL_law_33 (by omega) (by omega) (by rw [sv_5]; rfl) (by decide) ?_
        replace hP := hP.sub (ws' := [(q_1, .inr (4, [.ref (u_2 0), .ref (u_2 3), .ref (u_2 28), .int 0])), ((u_2 0), .inr (3, [.ref (u_2 1), .ref (u_2 2), .int 0])), (q_3, .inr (5, [.int 0, .ref (u_4 0), .ref (u_4 1), .ref (u_4 2), .ref (u_4 3), .ref (u_4 4), .ref (u_4 5), .ref (u_4 6), .ref (u_4 7), .ref (u_4 8), .ref (u_4 9), .ref (u_4 10), .ref (u_4 11), .ref (u_4 12), .ref (u_4 13), .ref (u_4 14), .ref (u_4 15), .ref (u_4 16), .ref (u_4 17), .ref (u_4 18), .ref (u_4 19), .int 0, .int 0, .int 0, .int (-1), .ref (u_4 20), .ref (u_4 21), .ref (u_4 22), .ref (u_4 23), .ref (u_4 24), .ref (u_4 25), .long 0, .long 0, .long 0, .ref (u_4 26), .ref (u_4 27)]))]) [0, 1, 35] rfl
        replace hD := hD.sub (ws' := [(q_1, .inr (4, [.ref (u_2 0), .ref (u_2 3), .ref (u_2 28), .int 0])), ((u_2 0), .inr (3, [.ref (u_2 1), .ref (u_2 2), .int 0])), (q_3, .inr (5, [.int 0, .ref (u_4 0), .ref (u_4 1), .ref (u_4 2), .ref (u_4 3), .ref (u_4 4), .ref (u_4 5), .ref (u_4 6), .ref (u_4 7), .ref (u_4 8), .ref (u_4 9), .ref (u_4 10), .ref (u_4 11), .ref (u_4 12), .ref (u_4 13), .ref (u_4 14), .ref (u_4 15), .ref (u_4 16), .ref (u_4 17), .ref (u_4 18), .ref (u_4 19), .int 0, .int 0, .int 0, .int (-1), .ref (u_4 20), .ref (u_4 21), .ref (u_4 22), .ref (u_4 23), .ref (u_4 24), .ref (u_4 25), .long 0, .long 0, .long 0, .ref (u_4 26), .ref (u_4 27)]))]) [0, 1, 35] (by decide) rfl
        refine lv_aload_n hx hb dL_law_262 rfl (lv_at hl 2 rfl) ?_
        refine lv_aload_n hx hb dL_law_263 rfl (lv_at hl 3 rfl) ?_
        refine lv_iload_n hx hb dL_law_264 rfl (lv_at hl 0 rfl) ?_
        refine lv_iconst (v := 1) hx hb dL_law_265 (by decide) ?_
        refine lv_iadd hx hb dL_law_266 ?_
        refine my_topi (y := 1) (by decide) ?_
        refine va_sld hx hb hX hbl hbA hS (vp_in_iff.mpr (by decide)) dL_law_267 ?_
        have hPc := hP.sub (ws' := [(q_1, .inr (4, [.ref (u_2 0), .ref (u_2 3), .ref (u_2 28), .int 0])), ((u_2 0), .inr (3, [.ref (u_2 1), .ref (u_2 2), .int 0]))]) [0, 1] rfl
        have hDc := hD.sub (ws' := [(q_1, .inr (4, [.ref (u_2 0), .ref (u_2 3), .ref (u_2 28), .int 0])), ((u_2 0), .inr (3, [.ref (u_2 1), .ref (u_2 2), .int 0]))]) [0, 1] (by decide) rfl
        have hFc := va_free (wc := [(q_1, .inr (4, [.ref (u_2 0), .ref (u_2 3), .ref (u_2 28), .int 0])), ((u_2 0), .inr (3, [.ref (u_2 1), .ref (u_2 2), .int 0]))]) hD hS hA [0, 1] rfl
        refine va_calli (va_runV (As := [.int (xs (1 : Int32).toNatClampNeg)]) (rest := []) ⟨hx, hb, hml, hown, hts⟩ (c_X4_throwsAt l dC dI cI cJ cZ q_1 (.ref (u_2 3)) (.ref (u_2 28)) (.int 0) (u_2 0) (.ref (u_2 1)) (.ref (u_2 2)) (xs (1 : Int32).toNatClampNeg) H_4.size) (cwV 1 hts g_L_law_X4_throwsAt_32 rfl rfl rfl (by decide +kernel) ⟨Nat.le_of_ble_eq_true rfl, Nat.le_of_ble_eq_true rfl⟩) ⟨cPre_blind, va_recv hK hPc (ci := 4) (q0 := 0) rfl rfl, cPre_of hK hN hPc hDc⟩ rfl rfl hl.1 rfl (lv_room (Nat.le_of_ble_eq_true rfl)) dL_law_268 ⟨Nat.le_of_ble_eq_true rfl, Nat.le_of_ble_eq_true rfl⟩) hS (fun q _ h => hFc q h) hFc (fun r_18 u_18 t_18 H_18 locs_18 ht hvm hw_18 hB hz1 hk1 hS1 => ?_)
        obtain ⟨hP1, hK1, hD1⟩ := hB
        rw [ht] at hP1
        obtain ⟨hP2, hD2⟩ := va_join (wr := [(q_3, .inr (5, [.int 0, .ref (u_4 0), .ref (u_4 1), .ref (u_4 2), .ref (u_4 3), .ref (u_4 4), .ref (u_4 5), .ref (u_4 6), .ref (u_4 7), .ref (u_4 8), .ref (u_4 9), .ref (u_4 10), .ref (u_4 11), .ref (u_4 12), .ref (u_4 13), .ref (u_4 14), .ref (u_4 15), .ref (u_4 16), .ref (u_4 17), .ref (u_4 18), .ref (u_4 19), .int 0, .int 0, .int 0, .int (-1), .ref (u_4 20), .ref (u_4 21), .ref (u_4 22), .ref (u_4 23), .ref (u_4 24), .ref (u_4 25), .long 0, .long 0, .long 0, .ref (u_4 26), .ref (u_4 27)]))]) (w1 := []) hP hD [0, 1] [2] rfl rfl (by decide) (by decide) hk1 hFc hP1 hD1
        clear hPc hDc hFc hP1 hD1 hK1 hk1 hz1 hvm ht
        replace hP : va_P (dC, dI) vwCl [(q_3, .inr (5, [.int 0, .ref (u_4 0), .ref (u_4 1), .ref (u_4 2), .ref (u_4 3), .ref (u_4 4), .ref (u_4 5), .ref (u_4 6), .ref (u_4 7), .ref (u_4 8), .ref (u_4 9), .ref (u_4 10), .ref (u_4 11), .ref (u_4 12), .ref (u_4 13), .ref (u_4 14), .ref (u_4 15), .ref (u_4 16), .ref (u_4 17), .ref (u_4 18), .ref (u_4 19), .int 0, .int 0, .int 0, .int (-1), .ref (u_4 20), .ref (u_4 21), .ref (u_4 22), .ref (u_4 23), .ref (u_4 24), .ref (u_4 25), .long 0, .long 0, .long 0, .ref (u_4 26), .ref (u_4 27)]))] H_18 := hP2
        replace hD : va_D (fun q : Nat => s.heap.size ≤ q) [(q_3, .inr (5, [.int 0, .ref (u_4 0), .ref (u_4 1), .ref (u_4 2), .ref (u_4 3), .ref (u_4 4), .ref (u_4 5), .ref (u_4 6), .ref (u_4 7), .ref (u_4 8), .ref (u_4 9), .ref (u_4 10), .ref (u_4 11), .ref (u_4 12), .ref (u_4 13), .ref (u_4 14), .ref (u_4 15), .ref (u_4 16), .ref (u_4 17), .ref (u_4 18), .ref (u_4 19), .int 0, .int 0, .int 0, .int (-1), .ref (u_4 20), .ref (u_4 21), .ref (u_4 22), .ref (u_4 23), .ref (u_4 24), .ref (u_4 25), .long 0, .long 0, .long 0, .ref (u_4 26), .ref (u_4 27)]))] := hD2
        replace hS := hS1
        clear hP2 hD2 hS1
        refine my_topi (y := (-2)) hw_18 ?_
        refine lv_aload_n hx hb dL_law_271 rfl (lv_at hl 1 rfl) ?_
        refine lv_aload_n hx hb dL_law_272 rfl (lv_at hl 3 rfl) ?_
        refine lv_iload_n hx hb dL_law_273 rfl (lv_at hl 0 rfl) ?_
        refine lv_iconst (v := 1) hx hb dL_law_274 (by decide) ?_
        refine lv_iadd hx hb dL_law_275 ?_
        refine my_topi (y := 1) (by decide) ?_
        refine va_sld hx hb hX hbl hbA hS (vp_in_iff.mpr (by decide)) dL_law_276 ?_
        have hPc := hP.sub (ws' := [(q_3, .inr (5, [.int 0, .ref (u_4 0), .ref (u_4 1), .ref (u_4 2), .ref (u_4 3), .ref (u_4 4), .ref (u_4 5), .ref (u_4 6), .ref (u_4 7), .ref (u_4 8), .ref (u_4 9), .ref (u_4 10), .ref (u_4 11), .ref (u_4 12), .ref (u_4 13), .ref (u_4 14), .ref (u_4 15), .ref (u_4 16), .ref (u_4 17), .ref (u_4 18), .ref (u_4 19), .int 0, .int 0, .int 0, .int (-1), .ref (u_4 20), .ref (u_4 21), .ref (u_4 22), .ref (u_4 23), .ref (u_4 24), .ref (u_4 25), .long 0, .long 0, .long 0, .ref (u_4 26), .ref (u_4 27)]))]) [0] rfl
        have hDc := hD.sub (ws' := [(q_3, .inr (5, [.int 0, .ref (u_4 0), .ref (u_4 1), .ref (u_4 2), .ref (u_4 3), .ref (u_4 4), .ref (u_4 5), .ref (u_4 6), .ref (u_4 7), .ref (u_4 8), .ref (u_4 9), .ref (u_4 10), .ref (u_4 11), .ref (u_4 12), .ref (u_4 13), .ref (u_4 14), .ref (u_4 15), .ref (u_4 16), .ref (u_4 17), .ref (u_4 18), .ref (u_4 19), .int 0, .int 0, .int 0, .int (-1), .ref (u_4 20), .ref (u_4 21), .ref (u_4 22), .ref (u_4 23), .ref (u_4 24), .ref (u_4 25), .long 0, .long 0, .long 0, .ref (u_4 26), .ref (u_4 27)]))]) [0] (by decide) rfl
        have hFc := va_free (wc := [(q_3, .inr (5, [.int 0, .ref (u_4 0), .ref (u_4 1), .ref (u_4 2), .ref (u_4 3), .ref (u_4 4), .ref (u_4 5), .ref (u_4 6), .ref (u_4 7), .ref (u_4 8), .ref (u_4 9), .ref (u_4 10), .ref (u_4 11), .ref (u_4 12), .ref (u_4 13), .ref (u_4 14), .ref (u_4 15), .ref (u_4 16), .ref (u_4 17), .ref (u_4 18), .ref (u_4 19), .int 0, .int 0, .int 0, .int (-1), .ref (u_4 20), .ref (u_4 21), .ref (u_4 22), .ref (u_4 23), .ref (u_4 24), .ref (u_4 25), .long 0, .long 0, .long 0, .ref (u_4 26), .ref (u_4 27)]))]) hD hS hA [0] rfl
        refine va_calli (va_runV (As := [.int (xs (1 : Int32).toNatClampNeg)]) (rest := [.int (-2)]) ⟨hx, hb, hml, hown, hts⟩ (c_X5_throwsAt l dC dI cI cJ cZ q_3 (.ref (u_4 0)) (.ref (u_4 1)) (.ref (u_4 2)) (.ref (u_4 3)) (.ref (u_4 4)) (.ref (u_4 5)) (.ref (u_4 6)) (.ref (u_4 7)) (.ref (u_4 8)) (.ref (u_4 9)) (.ref (u_4 10)) (.ref (u_4 11)) (.ref (u_4 12)) (.ref (u_4 13)) (.ref (u_4 14)) (.ref (u_4 15)) (.ref (u_4 16)) (.ref (u_4 17)) (.ref (u_4 18)) (.ref (u_4 19)) (.int 0) (.int 0) (.int 0) (.int (-1)) (.ref (u_4 20)) (.ref (u_4 21)) (.ref (u_4 22)) (.ref (u_4 23)) (.ref (u_4 24)) (.ref (u_4 25)) (.long 0) (.long 0) (.long 0) (.ref (u_4 26)) (.ref (u_4 27)) (xs (1 : Int32).toNatClampNeg) H_18.size) (cwV 1 hts g_L_law_X5_throwsAt_35 rfl rfl rfl (by decide +kernel) ⟨Nat.le_of_ble_eq_true rfl, Nat.le_of_ble_eq_true rfl⟩) ⟨cPre_blind, va_recv hK hPc (ci := 5) (q0 := 0) rfl rfl, cPre_of hK hN hPc hDc⟩ rfl rfl hl.1 rfl (lv_room (Nat.le_of_ble_eq_true rfl)) dL_law_277 ⟨Nat.le_of_ble_eq_true rfl, Nat.le_of_ble_eq_true rfl⟩) hS (fun q _ h => hFc q h) hFc (fun r_19 u_19 t_19 H_19 locs_19 ht hvm hw_19 hB hz1 hk1 hS1 => ?_)
        obtain ⟨hP1, hK1, hD1⟩ := hB
        rw [ht] at hP1
        obtain ⟨hP2, hD2⟩ := va_join (wr := []) (w1 := []) hP hD [0] [] rfl rfl (by decide) (by decide) hk1 hFc hP1 hD1
        clear hPc hDc hFc hP1 hD1 hK1 hk1 hz1 hvm ht
        replace hP : va_P (dC, dI) vwCl [] H_19 := hP2
        replace hD : va_D (fun q : Nat => s.heap.size ≤ q) [] := hD2
        replace hS := hS1
        clear hP2 hD2 hS1
        refine my_topi (y := (-2)) hw_19 ?_
        refine lv_icmp_eq (tgt := 730) hx hb dL_law_280 (by decide) (fun c_20 => ?_) (fun c_20 => ?_)
        · -- on
          refine lv_iinc (v := 7) (lv' := [(3, .int 7), (2, .ref q_3), (1, .ref q_1), (0, .ref b)]) hx hb dL_law_730 hl (k := 0) rfl (by decide) (by decide) rfl (fun ls1 hl1 => ?_)
          replace hl := hl1; clear hl1
          refine lv_goto (tgt := 18) hx hb dL_law_733 (by decide) ?_
          refine lv_iload_n hx hb dL_law_18 rfl (lv_at hl 0 rfl) ?_
          refine lv_aload_n hx hb dL_law_19 rfl (lv_at hl 3 rfl) ?_
          refine va_slen hx hb hX hbl hbA hS dL_law_20 ?_
          refine lv_bipush (v := 7) hx hb dL_law_21 (by decide) ?_
          refine lv_isub hx hb dL_law_23 ?_
          refine my_topi (y := 0) (by decide) ?_
          refine lv_icmp_gt (tgt := 736) hx hb dL_law_24 (by decide) (fun c_0 => ?_) (fun c_0 => ?_)
          · -- end
            refine lv_iconst (v := 1) hx hb dL_law_736 (by decide) ?_
            refine va_forget (fun q hq => hS.2.2 q hq) ?_
            refine W.widen (k := 64) (n := 6560) (Nat.le_of_ble_eq_true rfl) (Nat.le_of_ble_eq_true rfl) ?_
            exact lw_ret hx hb hr hlocks dL_law_737
          · exact absurd (by decide) c_0
        · exact absurd (by decide) c_20
      · -- case 5
        refine lv_tableIn (tgt := 285) (off := 252) hx hb dL_law_33 (by omega) (by omega) (by rw [sv_5]; rfl) (by decide) ?_
        replace hP := hP.sub (ws' := [(q_1, .inr (4, [.ref (u_2 0), .ref (u_2 3), .ref (u_2 28), .int 0])), ((u_2 0), .inr (3, [.ref (u_2 1), .ref (u_2 2), .int 0])), ((u_2 3), .inr (1, [.ref (u_2 4), .ref (u_2 15), .int 1, .ref (u_2 26), .ref (u_2 27), .int 0, .int 0, .int 0])), ((u_2 4), .inr (0, [.int 0, .ref (u_2 5), .ref (u_2 6), .ref (u_2 7), .ref (u_2 8), .ref (u_2 9), .ref (u_2 10), .ref (u_2 11), .ref (u_2 12), .ref (u_2 13), .ref (u_2 14)])), ((u_2 5), .inl (cI, 6, .inl (fun _ => 0))), ((u_2 6), .inl (cI, 6, .inl (fun _ => 0))), ((u_2 7), .inl (cJ, 6, .inr (.inl (fun _ => 0)))), ((u_2 8), .inl (cZ, 6, .inl (fun _ => 0))), ((u_2 9), .inl (cZ, 40, .inl (fun _ => 0))), ((u_2 26), .inl (cZ, 40, .inl (fun _ => 0))), ((u_2 27), .inl (cI, 40, .inl (fun _ => 0))), (q_3, .inr (5, [.int 0, .ref (u_4 0), .ref (u_4 1), .ref (u_4 2), .ref (u_4 3), .ref (u_4 4), .ref (u_4 5), .ref (u_4 6), .ref (u_4 7), .ref (u_4 8), .ref (u_4 9), .ref (u_4 10), .ref (u_4 11), .ref (u_4 12), .ref (u_4 13), .ref (u_4 14), .ref (u_4 15), .ref (u_4 16), .ref (u_4 17), .ref (u_4 18), .ref (u_4 19), .int 0, .int 0, .int 0, .int (-1), .ref (u_4 20), .ref (u_4 21), .ref (u_4 22), .ref (u_4 23), .ref (u_4 24), .ref (u_4 25), .long 0, .long 0, .long 0, .ref (u_4 26), .ref (u_4 27)])), ((u_4 7), .inl (cZ, 2, .inl (fun _ => 0))), ((u_4 8), .inl (cJ, 12, .inr (.inl (fun _ => 0)))), ((u_4 9), .inl (cJ, 12, .inr (.inl (fun _ => 0)))), ((u_4 10), .inl (cJ, 12, .inr (.inl (fun _ => 0)))), ((u_4 11), .inl (cZ, 12, .inl (fun _ => 0))), ((u_4 12), .inl (cZ, 80, .inl (fun _ => 0))), ((u_4 18), .inl (cZ, 40, .inl (fun _ => 0))), ((u_4 19), .inl (cI, 40, .inl (fun _ => 0)))]) [0, 1, 4, 5, 6, 7, 8, 9, 10, 27, 28, 35, 43, 44, 45, 46, 47, 48, 54, 55] rfl
        replace hD := hD.sub (ws' := [(q_1, .inr (4, [.ref (u_2 0), .ref (u_2 3), .ref (u_2 28), .int 0])), ((u_2 0), .inr (3, [.ref (u_2 1), .ref (u_2 2), .int 0])), ((u_2 3), .inr (1, [.ref (u_2 4), .ref (u_2 15), .int 1, .ref (u_2 26), .ref (u_2 27), .int 0, .int 0, .int 0])), ((u_2 4), .inr (0, [.int 0, .ref (u_2 5), .ref (u_2 6), .ref (u_2 7), .ref (u_2 8), .ref (u_2 9), .ref (u_2 10), .ref (u_2 11), .ref (u_2 12), .ref (u_2 13), .ref (u_2 14)])), ((u_2 5), .inl (cI, 6, .inl (fun _ => 0))), ((u_2 6), .inl (cI, 6, .inl (fun _ => 0))), ((u_2 7), .inl (cJ, 6, .inr (.inl (fun _ => 0)))), ((u_2 8), .inl (cZ, 6, .inl (fun _ => 0))), ((u_2 9), .inl (cZ, 40, .inl (fun _ => 0))), ((u_2 26), .inl (cZ, 40, .inl (fun _ => 0))), ((u_2 27), .inl (cI, 40, .inl (fun _ => 0))), (q_3, .inr (5, [.int 0, .ref (u_4 0), .ref (u_4 1), .ref (u_4 2), .ref (u_4 3), .ref (u_4 4), .ref (u_4 5), .ref (u_4 6), .ref (u_4 7), .ref (u_4 8), .ref (u_4 9), .ref (u_4 10), .ref (u_4 11), .ref (u_4 12), .ref (u_4 13), .ref (u_4 14), .ref (u_4 15), .ref (u_4 16), .ref (u_4 17), .ref (u_4 18), .ref (u_4 19), .int 0, .int 0, .int 0, .int (-1), .ref (u_4 20), .ref (u_4 21), .ref (u_4 22), .ref (u_4 23), .ref (u_4 24), .ref (u_4 25), .long 0, .long 0, .long 0, .ref (u_4 26), .ref (u_4 27)])), ((u_4 7), .inl (cZ, 2, .inl (fun _ => 0))), ((u_4 8), .inl (cJ, 12, .inr (.inl (fun _ => 0)))), ((u_4 9), .inl (cJ, 12, .inr (.inl (fun _ => 0)))), ((u_4 10), .inl (cJ, 12, .inr (.inl (fun _ => 0)))), ((u_4 11), .inl (cZ, 12, .inl (fun _ => 0))), ((u_4 12), .inl (cZ, 80, .inl (fun _ => 0))), ((u_4 18), .inl (cZ, 40, .inl (fun _ => 0))), ((u_4 19), .inl (cI, 40, .inl (fun _ => 0)))]) [0, 1, 4, 5, 6, 7, 8, 9, 10, 27, 28, 35, 43, 44, 45, 46, 47, 48, 54, 55] (by decide) rfl
        refine lv_aload_n hx hb dL_law_285 rfl (lv_at hl 2 rfl) ?_
        have hPc := hP.sub (ws' := [(q_1, .inr (4, [.ref (u_2 0), .ref (u_2 3), .ref (u_2 28), .int 0])), ((u_2 3), .inr (1, [.ref (u_2 4), .ref (u_2 15), .int 1, .ref (u_2 26), .ref (u_2 27), .int 0, .int 0, .int 0])), ((u_2 4), .inr (0, [.int 0, .ref (u_2 5), .ref (u_2 6), .ref (u_2 7), .ref (u_2 8), .ref (u_2 9), .ref (u_2 10), .ref (u_2 11), .ref (u_2 12), .ref (u_2 13), .ref (u_2 14)])), ((u_2 5), .inl (cI, 6, .inl (fun _ => 0))), ((u_2 6), .inl (cI, 6, .inl (fun _ => 0))), ((u_2 7), .inl (cJ, 6, .inr (.inl (fun _ => 0)))), ((u_2 8), .inl (cZ, 6, .inl (fun _ => 0))), ((u_2 9), .inl (cZ, 40, .inl (fun _ => 0))), ((u_2 26), .inl (cZ, 40, .inl (fun _ => 0))), ((u_2 27), .inl (cI, 40, .inl (fun _ => 0))), ((u_2 0), .inr (3, [.ref (u_2 1), .ref (u_2 2), .int 0]))]) [0, 2, 3, 4, 5, 6, 7, 8, 9, 10, 1] rfl
        have hDc := hD.sub (ws' := [(q_1, .inr (4, [.ref (u_2 0), .ref (u_2 3), .ref (u_2 28), .int 0])), ((u_2 3), .inr (1, [.ref (u_2 4), .ref (u_2 15), .int 1, .ref (u_2 26), .ref (u_2 27), .int 0, .int 0, .int 0])), ((u_2 4), .inr (0, [.int 0, .ref (u_2 5), .ref (u_2 6), .ref (u_2 7), .ref (u_2 8), .ref (u_2 9), .ref (u_2 10), .ref (u_2 11), .ref (u_2 12), .ref (u_2 13), .ref (u_2 14)])), ((u_2 5), .inl (cI, 6, .inl (fun _ => 0))), ((u_2 6), .inl (cI, 6, .inl (fun _ => 0))), ((u_2 7), .inl (cJ, 6, .inr (.inl (fun _ => 0)))), ((u_2 8), .inl (cZ, 6, .inl (fun _ => 0))), ((u_2 9), .inl (cZ, 40, .inl (fun _ => 0))), ((u_2 26), .inl (cZ, 40, .inl (fun _ => 0))), ((u_2 27), .inl (cI, 40, .inl (fun _ => 0))), ((u_2 0), .inr (3, [.ref (u_2 1), .ref (u_2 2), .int 0]))]) [0, 2, 3, 4, 5, 6, 7, 8, 9, 10, 1] (by decide) rfl
        have hFc := va_free (wc := [(q_1, .inr (4, [.ref (u_2 0), .ref (u_2 3), .ref (u_2 28), .int 0])), ((u_2 3), .inr (1, [.ref (u_2 4), .ref (u_2 15), .int 1, .ref (u_2 26), .ref (u_2 27), .int 0, .int 0, .int 0])), ((u_2 4), .inr (0, [.int 0, .ref (u_2 5), .ref (u_2 6), .ref (u_2 7), .ref (u_2 8), .ref (u_2 9), .ref (u_2 10), .ref (u_2 11), .ref (u_2 12), .ref (u_2 13), .ref (u_2 14)])), ((u_2 5), .inl (cI, 6, .inl (fun _ => 0))), ((u_2 6), .inl (cI, 6, .inl (fun _ => 0))), ((u_2 7), .inl (cJ, 6, .inr (.inl (fun _ => 0)))), ((u_2 8), .inl (cZ, 6, .inl (fun _ => 0))), ((u_2 9), .inl (cZ, 40, .inl (fun _ => 0))), ((u_2 26), .inl (cZ, 40, .inl (fun _ => 0))), ((u_2 27), .inl (cI, 40, .inl (fun _ => 0))), ((u_2 0), .inr (3, [.ref (u_2 1), .ref (u_2 2), .int 0]))]) hD hS hA [0, 2, 3, 4, 5, 6, 7, 8, 9, 10, 1] rfl
        refine va_calli (va_runV (As := []) (rest := []) ⟨hx, hb, hml, hown, hts⟩ (c_X4_ends l dC dI cI cJ cZ q_1 (u_2 0) (.ref (u_2 28)) (.int 0) (u_2 3) (u_2 26) (u_2 27) (.ref (u_2 15)) (.int 0) (.int 0) (.int 0) (u_2 4) (u_2 5) (u_2 6) (u_2 7) (u_2 8) (u_2 9) 0 (.ref (u_2 10)) (.ref (u_2 11)) (.ref (u_2 12)) (.ref (u_2 13)) (.ref (u_2 14)) (fun _ => 0) (fun _ => 0) (fun _ => 0) (fun _ => 0) (fun _ => 0) (fun _ => 0) (fun _ => 0) (.ref (u_2 1)) (.ref (u_2 2)) H_4.size) (cwV 0 hts g_L_law_X4_ends_36 rfl rfl rfl (by decide +kernel) ⟨Nat.le_of_ble_eq_true rfl, Nat.le_of_ble_eq_true rfl⟩) ⟨cPre_blind, va_recv hK hPc (ci := 4) (q0 := 0) rfl rfl, cPre_of hK hN hPc hDc⟩ rfl rfl hl.1 rfl (lv_room (Nat.le_of_ble_eq_true rfl)) dL_law_286 ⟨Nat.le_of_ble_eq_true rfl, Nat.le_of_ble_eq_true rfl⟩) hS (fun q _ h => hFc q h) hFc (fun r_21 u_21 t_21 H_21 locs_21 ht hvm hw_21 hB hz1 hk1 hS1 => ?_)
        obtain ⟨hP1, hK1, hD1⟩ := hB
        rw [ht] at hP1
        obtain ⟨hP2, hD2⟩ := va_join (wr := [(q_3, .inr (5, [.int 0, .ref (u_4 0), .ref (u_4 1), .ref (u_4 2), .ref (u_4 3), .ref (u_4 4), .ref (u_4 5), .ref (u_4 6), .ref (u_4 7), .ref (u_4 8), .ref (u_4 9), .ref (u_4 10), .ref (u_4 11), .ref (u_4 12), .ref (u_4 13), .ref (u_4 14), .ref (u_4 15), .ref (u_4 16), .ref (u_4 17), .ref (u_4 18), .ref (u_4 19), .int 0, .int 0, .int 0, .int (-1), .ref (u_4 20), .ref (u_4 21), .ref (u_4 22), .ref (u_4 23), .ref (u_4 24), .ref (u_4 25), .long 0, .long 0, .long 0, .ref (u_4 26), .ref (u_4 27)])), ((u_4 7), .inl (cZ, 2, .inl (fun _ => 0))), ((u_4 8), .inl (cJ, 12, .inr (.inl (fun _ => 0)))), ((u_4 9), .inl (cJ, 12, .inr (.inl (fun _ => 0)))), ((u_4 10), .inl (cJ, 12, .inr (.inl (fun _ => 0)))), ((u_4 11), .inl (cZ, 12, .inl (fun _ => 0))), ((u_4 12), .inl (cZ, 80, .inl (fun _ => 0))), ((u_4 18), .inl (cZ, 40, .inl (fun _ => 0))), ((u_4 19), .inl (cI, 40, .inl (fun _ => 0)))]) (w1 := []) hP hD [0, 2, 3, 4, 5, 6, 7, 8, 9, 10, 1] [11, 12, 13, 14, 15, 16, 17, 18, 19] rfl rfl (by decide) (by decide) hk1 hFc hP1 hD1
        clear hPc hDc hFc hP1 hD1 hK1 hk1 hz1 hvm ht
        replace hP : va_P (dC, dI) vwCl [(q_3, .inr (5, [.int 0, .ref (u_4 0), .ref (u_4 1), .ref (u_4 2), .ref (u_4 3), .ref (u_4 4), .ref (u_4 5), .ref (u_4 6), .ref (u_4 7), .ref (u_4 8), .ref (u_4 9), .ref (u_4 10), .ref (u_4 11), .ref (u_4 12), .ref (u_4 13), .ref (u_4 14), .ref (u_4 15), .ref (u_4 16), .ref (u_4 17), .ref (u_4 18), .ref (u_4 19), .int 0, .int 0, .int 0, .int (-1), .ref (u_4 20), .ref (u_4 21), .ref (u_4 22), .ref (u_4 23), .ref (u_4 24), .ref (u_4 25), .long 0, .long 0, .long 0, .ref (u_4 26), .ref (u_4 27)])), ((u_4 7), .inl (cZ, 2, .inl (fun _ => 0))), ((u_4 8), .inl (cJ, 12, .inr (.inl (fun _ => 0)))), ((u_4 9), .inl (cJ, 12, .inr (.inl (fun _ => 0)))), ((u_4 10), .inl (cJ, 12, .inr (.inl (fun _ => 0)))), ((u_4 11), .inl (cZ, 12, .inl (fun _ => 0))), ((u_4 12), .inl (cZ, 80, .inl (fun _ => 0))), ((u_4 18), .inl (cZ, 40, .inl (fun _ => 0))), ((u_4 19), .inl (cI, 40, .inl (fun _ => 0)))] H_21 := hP2
        replace hD : va_D (fun q : Nat => s.heap.size ≤ q) [(q_3, .inr (5, [.int 0, .ref (u_4 0), .ref (u_4 1), .ref (u_4 2), .ref (u_4 3), .ref (u_4 4), .ref (u_4 5), .ref (u_4 6), .ref (u_4 7), .ref (u_4 8), .ref (u_4 9), .ref (u_4 10), .ref (u_4 11), .ref (u_4 12), .ref (u_4 13), .ref (u_4 14), .ref (u_4 15), .ref (u_4 16), .ref (u_4 17), .ref (u_4 18), .ref (u_4 19), .int 0, .int 0, .int 0, .int (-1), .ref (u_4 20), .ref (u_4 21), .ref (u_4 22), .ref (u_4 23), .ref (u_4 24), .ref (u_4 25), .long 0, .long 0, .long 0, .ref (u_4 26), .ref (u_4 27)])), ((u_4 7), .inl (cZ, 2, .inl (fun _ => 0))), ((u_4 8), .inl (cJ, 12, .inr (.inl (fun _ => 0)))), ((u_4 9), .inl (cJ, 12, .inr (.inl (fun _ => 0)))), ((u_4 10), .inl (cJ, 12, .inr (.inl (fun _ => 0)))), ((u_4 11), .inl (cZ, 12, .inl (fun _ => 0))), ((u_4 12), .inl (cZ, 80, .inl (fun _ => 0))), ((u_4 18), .inl (cZ, 40, .inl (fun _ => 0))), ((u_4 19), .inl (cI, 40, .inl (fun _ => 0)))] := hD2
        replace hS := hS1
        clear hP2 hD2 hS1
        refine my_topi (y := 1) hw_21 ?_
        refine lv_aload_n hx hb dL_law_289 rfl (lv_at hl 1 rfl) ?_
        have hPc := hP.sub (ws' := [(q_3, .inr (5, [.int 0, .ref (u_4 0), .ref (u_4 1), .ref (u_4 2), .ref (u_4 3), .ref (u_4 4), .ref (u_4 5), .ref (u_4 6), .ref (u_4 7), .ref (u_4 8), .ref (u_4 9), .ref (u_4 10), .ref (u_4 11), .ref (u_4 12), .ref (u_4 13), .ref (u_4 14), .ref (u_4 15), .ref (u_4 16), .ref (u_4 17), .ref (u_4 18), .ref (u_4 19), .int 0, .int 0, .int 0, .int (-1), .ref (u_4 20), .ref (u_4 21), .ref (u_4 22), .ref (u_4 23), .ref (u_4 24), .ref (u_4 25), .long 0, .long 0, .long 0, .ref (u_4 26), .ref (u_4 27)])), ((u_4 7), .inl (cZ, 2, .inl (fun _ => 0))), ((u_4 8), .inl (cJ, 12, .inr (.inl (fun _ => 0)))), ((u_4 9), .inl (cJ, 12, .inr (.inl (fun _ => 0)))), ((u_4 10), .inl (cJ, 12, .inr (.inl (fun _ => 0)))), ((u_4 11), .inl (cZ, 12, .inl (fun _ => 0))), ((u_4 12), .inl (cZ, 80, .inl (fun _ => 0))), ((u_4 18), .inl (cZ, 40, .inl (fun _ => 0))), ((u_4 19), .inl (cI, 40, .inl (fun _ => 0)))]) [0, 1, 2, 3, 4, 5, 6, 7, 8] rfl
        have hDc := hD.sub (ws' := [(q_3, .inr (5, [.int 0, .ref (u_4 0), .ref (u_4 1), .ref (u_4 2), .ref (u_4 3), .ref (u_4 4), .ref (u_4 5), .ref (u_4 6), .ref (u_4 7), .ref (u_4 8), .ref (u_4 9), .ref (u_4 10), .ref (u_4 11), .ref (u_4 12), .ref (u_4 13), .ref (u_4 14), .ref (u_4 15), .ref (u_4 16), .ref (u_4 17), .ref (u_4 18), .ref (u_4 19), .int 0, .int 0, .int 0, .int (-1), .ref (u_4 20), .ref (u_4 21), .ref (u_4 22), .ref (u_4 23), .ref (u_4 24), .ref (u_4 25), .long 0, .long 0, .long 0, .ref (u_4 26), .ref (u_4 27)])), ((u_4 7), .inl (cZ, 2, .inl (fun _ => 0))), ((u_4 8), .inl (cJ, 12, .inr (.inl (fun _ => 0)))), ((u_4 9), .inl (cJ, 12, .inr (.inl (fun _ => 0)))), ((u_4 10), .inl (cJ, 12, .inr (.inl (fun _ => 0)))), ((u_4 11), .inl (cZ, 12, .inl (fun _ => 0))), ((u_4 12), .inl (cZ, 80, .inl (fun _ => 0))), ((u_4 18), .inl (cZ, 40, .inl (fun _ => 0))), ((u_4 19), .inl (cI, 40, .inl (fun _ => 0)))]) [0, 1, 2, 3, 4, 5, 6, 7, 8] (by decide) rfl
        have hFc := va_free (wc := [(q_3, .inr (5, [.int 0, .ref (u_4 0), .ref (u_4 1), .ref (u_4 2), .ref (u_4 3), .ref (u_4 4), .ref (u_4 5), .ref (u_4 6), .ref (u_4 7), .ref (u_4 8), .ref (u_4 9), .ref (u_4 10), .ref (u_4 11), .ref (u_4 12), .ref (u_4 13), .ref (u_4 14), .ref (u_4 15), .ref (u_4 16), .ref (u_4 17), .ref (u_4 18), .ref (u_4 19), .int 0, .int 0, .int 0, .int (-1), .ref (u_4 20), .ref (u_4 21), .ref (u_4 22), .ref (u_4 23), .ref (u_4 24), .ref (u_4 25), .long 0, .long 0, .long 0, .ref (u_4 26), .ref (u_4 27)])), ((u_4 7), .inl (cZ, 2, .inl (fun _ => 0))), ((u_4 8), .inl (cJ, 12, .inr (.inl (fun _ => 0)))), ((u_4 9), .inl (cJ, 12, .inr (.inl (fun _ => 0)))), ((u_4 10), .inl (cJ, 12, .inr (.inl (fun _ => 0)))), ((u_4 11), .inl (cZ, 12, .inl (fun _ => 0))), ((u_4 12), .inl (cZ, 80, .inl (fun _ => 0))), ((u_4 18), .inl (cZ, 40, .inl (fun _ => 0))), ((u_4 19), .inl (cI, 40, .inl (fun _ => 0)))]) hD hS hA [0, 1, 2, 3, 4, 5, 6, 7, 8] rfl
        refine va_calli (va_runV (As := []) (rest := [.int 1]) ⟨hx, hb, hml, hown, hts⟩ (c_X5_ends l dC dI cI cJ cZ q_3 (.ref (u_4 0)) (.ref (u_4 1)) (.ref (u_4 2)) (.ref (u_4 3)) (.ref (u_4 4)) (.ref (u_4 5)) (.ref (u_4 6)) (.ref (u_4 13)) (.ref (u_4 14)) (.ref (u_4 15)) (.ref (u_4 16)) (.ref (u_4 17)) (.int 0) (.int 0) (.int 0) (.int (-1)) (.ref (u_4 20)) (.ref (u_4 21)) (.ref (u_4 22)) (.ref (u_4 23)) (.ref (u_4 24)) (.ref (u_4 25)) (.long 0) (.long 0) (.long 0) (.ref (u_4 26)) (.ref (u_4 27)) (u_4 7) (u_4 8) (u_4 9) (u_4 10) (u_4 11) (u_4 12) (u_4 18) (u_4 19) (fun _ => 0) (fun _ => 0) (fun _ => 0) (fun _ => 0) (fun _ => 0) (fun _ => 0) (fun _ => 0) (fun _ => 0) H_21.size) (cwV 0 hts g_L_law_X5_ends_39 rfl rfl rfl (by decide +kernel) ⟨Nat.le_of_ble_eq_true rfl, Nat.le_of_ble_eq_true rfl⟩) ⟨cPre_blind, va_recv hK hPc (ci := 5) (q0 := 0) rfl rfl, cPre_of hK hN hPc hDc⟩ rfl rfl hl.1 rfl (lv_room (Nat.le_of_ble_eq_true rfl)) dL_law_290 ⟨Nat.le_of_ble_eq_true rfl, Nat.le_of_ble_eq_true rfl⟩) hS (fun q _ h => hFc q h) hFc (fun r_22 u_22 t_22 H_22 locs_22 ht hvm hw_22 hB hz1 hk1 hS1 => ?_)
        obtain ⟨hP1, hK1, hD1⟩ := hB
        rw [ht] at hP1
        obtain ⟨hP2, hD2⟩ := va_join (wr := []) (w1 := []) hP hD [0, 1, 2, 3, 4, 5, 6, 7, 8] [] rfl rfl (by decide) (by decide) hk1 hFc hP1 hD1
        clear hPc hDc hFc hP1 hD1 hK1 hk1 hz1 hvm ht
        replace hP : va_P (dC, dI) vwCl [] H_22 := hP2
        replace hD : va_D (fun q : Nat => s.heap.size ≤ q) [] := hD2
        replace hS := hS1
        clear hP2 hD2 hS1
        refine my_topi (y := 1) hw_22 ?_
        refine lv_icmp_eq (tgt := 730) hx hb dL_law_293 (by decide) (fun c_23 => ?_) (fun c_23 => ?_)
        · -- on
          refine lv_iinc (v := 7) (lv' := [(3, .int 7), (2, .ref q_3), (1, .ref q_1), (0, .ref b)]) hx hb dL_law_730 hl (k := 0) rfl (by decide) (by decide) rfl (fun ls1 hl1 => ?_)
          replace hl := hl1; clear hl1
          refine lv_goto (tgt := 18) hx hb dL_law_733 (by decide) ?_
          refine lv_iload_n hx hb dL_law_18 rfl (lv_at hl 0 rfl) ?_
          refine lv_aload_n hx hb dL_law_19 rfl (lv_at hl 3 rfl) ?_
          refine va_slen hx hb hX hbl hbA hS dL_law_20 ?_
          refine lv_bipush (v := 7) hx hb dL_law_21 (by decide) ?_
          refine lv_isub hx hb dL_law_23 ?_
          refine my_topi (y := 0) (by decide) ?_
          refine lv_icmp_gt (tgt := 736) hx hb dL_law_24 (by decide) (fun c_0 => ?_) (fun c_0 => ?_)
          · -- end
            refine lv_iconst (v := 1) hx hb dL_law_736 (by decide) ?_
            refine va_forget (fun q hq => hS.2.2 q hq) ?_
            refine W.widen (k := 64) (n := 6560) (Nat.le_of_ble_eq_true rfl) (Nat.le_of_ble_eq_true rfl) ?_
            exact lw_ret hx hb hr hlocks dL_law_737
          · exact absurd (by decide) c_0
        · exact absurd (by decide) c_23
      · -- case 6
        refine lv_tableIn (tgt := 298) (off := 265) hx hb dL_law_33 (by omega) (by omega) (by rw [sv_5]; rfl) (by decide) ?_
        replace hP := hP.sub (ws' := [(q_1, .inr (4, [.ref (u_2 0), .ref (u_2 3), .ref (u_2 28), .int 0])), ((u_2 0), .inr (3, [.ref (u_2 1), .ref (u_2 2), .int 0])), ((u_2 3), .inr (1, [.ref (u_2 4), .ref (u_2 15), .int 1, .ref (u_2 26), .ref (u_2 27), .int 0, .int 0, .int 0])), ((u_2 4), .inr (0, [.int 0, .ref (u_2 5), .ref (u_2 6), .ref (u_2 7), .ref (u_2 8), .ref (u_2 9), .ref (u_2 10), .ref (u_2 11), .ref (u_2 12), .ref (u_2 13), .ref (u_2 14)])), ((u_2 5), .inl (cI, 6, .inl (fun _ => 0))), ((u_2 6), .inl (cI, 6, .inl (fun _ => 0))), ((u_2 7), .inl (cJ, 6, .inr (.inl (fun _ => 0)))), ((u_2 8), .inl (cZ, 6, .inl (fun _ => 0))), ((u_2 9), .inl (cZ, 40, .inl (fun _ => 0))), ((u_2 26), .inl (cZ, 40, .inl (fun _ => 0))), ((u_2 27), .inl (cI, 40, .inl (fun _ => 0))), (q_3, .inr (5, [.int 0, .ref (u_4 0), .ref (u_4 1), .ref (u_4 2), .ref (u_4 3), .ref (u_4 4), .ref (u_4 5), .ref (u_4 6), .ref (u_4 7), .ref (u_4 8), .ref (u_4 9), .ref (u_4 10), .ref (u_4 11), .ref (u_4 12), .ref (u_4 13), .ref (u_4 14), .ref (u_4 15), .ref (u_4 16), .ref (u_4 17), .ref (u_4 18), .ref (u_4 19), .int 0, .int 0, .int 0, .int (-1), .ref (u_4 20), .ref (u_4 21), .ref (u_4 22), .ref (u_4 23), .ref (u_4 24), .ref (u_4 25), .long 0, .long 0, .long 0, .ref (u_4 26), .ref (u_4 27)])), ((u_4 7), .inl (cZ, 2, .inl (fun _ => 0))), ((u_4 8), .inl (cJ, 12, .inr (.inl (fun _ => 0)))), ((u_4 9), .inl (cJ, 12, .inr (.inl (fun _ => 0)))), ((u_4 10), .inl (cJ, 12, .inr (.inl (fun _ => 0)))), ((u_4 11), .inl (cZ, 12, .inl (fun _ => 0))), ((u_4 12), .inl (cZ, 80, .inl (fun _ => 0))), ((u_4 18), .inl (cZ, 40, .inl (fun _ => 0))), ((u_4 19), .inl (cI, 40, .inl (fun _ => 0)))]) [0, 1, 4, 5, 6, 7, 8, 9, 10, 27, 28, 35, 43, 44, 45, 46, 47, 48, 54, 55] rfl
        replace hD := hD.sub (ws' := [(q_1, .inr (4, [.ref (u_2 0), .ref (u_2 3), .ref (u_2 28), .int 0])), ((u_2 0), .inr (3, [.ref (u_2 1), .ref (u_2 2), .int 0])), ((u_2 3), .inr (1, [.ref (u_2 4), .ref (u_2 15), .int 1, .ref (u_2 26), .ref (u_2 27), .int 0, .int 0, .int 0])), ((u_2 4), .inr (0, [.int 0, .ref (u_2 5), .ref (u_2 6), .ref (u_2 7), .ref (u_2 8), .ref (u_2 9), .ref (u_2 10), .ref (u_2 11), .ref (u_2 12), .ref (u_2 13), .ref (u_2 14)])), ((u_2 5), .inl (cI, 6, .inl (fun _ => 0))), ((u_2 6), .inl (cI, 6, .inl (fun _ => 0))), ((u_2 7), .inl (cJ, 6, .inr (.inl (fun _ => 0)))), ((u_2 8), .inl (cZ, 6, .inl (fun _ => 0))), ((u_2 9), .inl (cZ, 40, .inl (fun _ => 0))), ((u_2 26), .inl (cZ, 40, .inl (fun _ => 0))), ((u_2 27), .inl (cI, 40, .inl (fun _ => 0))), (q_3, .inr (5, [.int 0, .ref (u_4 0), .ref (u_4 1), .ref (u_4 2), .ref (u_4 3), .ref (u_4 4), .ref (u_4 5), .ref (u_4 6), .ref (u_4 7), .ref (u_4 8), .ref (u_4 9), .ref (u_4 10), .ref (u_4 11), .ref (u_4 12), .ref (u_4 13), .ref (u_4 14), .ref (u_4 15), .ref (u_4 16), .ref (u_4 17), .ref (u_4 18), .ref (u_4 19), .int 0, .int 0, .int 0, .int (-1), .ref (u_4 20), .ref (u_4 21), .ref (u_4 22), .ref (u_4 23), .ref (u_4 24), .ref (u_4 25), .long 0, .long 0, .long 0, .ref (u_4 26), .ref (u_4 27)])), ((u_4 7), .inl (cZ, 2, .inl (fun _ => 0))), ((u_4 8), .inl (cJ, 12, .inr (.inl (fun _ => 0)))), ((u_4 9), .inl (cJ, 12, .inr (.inl (fun _ => 0)))), ((u_4 10), .inl (cJ, 12, .inr (.inl (fun _ => 0)))), ((u_4 11), .inl (cZ, 12, .inl (fun _ => 0))), ((u_4 12), .inl (cZ, 80, .inl (fun _ => 0))), ((u_4 18), .inl (cZ, 40, .inl (fun _ => 0))), ((u_4 19), .inl (cI, 40, .inl (fun _ => 0)))]) [0, 1, 4, 5, 6, 7, 8, 9, 10, 27, 28, 35, 43, 44, 45, 46, 47, 48, 54, 55] (by decide) rfl
        refine lv_aload_n hx hb dL_law_298 rfl (lv_at hl 2 rfl) ?_
        refine lv_aload_n hx hb dL_law_299 rfl (lv_at hl 3 rfl) ?_
        refine lv_iload_n hx hb dL_law_300 rfl (lv_at hl 0 rfl) ?_
        refine lv_iconst (v := 1) hx hb dL_law_301 (by decide) ?_
        refine lv_iadd hx hb dL_law_302 ?_
        refine my_topi (y := 1) (by decide) ?_
        refine va_sld hx hb hX hbl hbA hS (vp_in_iff.mpr (by decide)) dL_law_303 ?_
        refine lv_aload_n hx hb dL_law_304 rfl (lv_at hl 3 rfl) ?_
        refine lv_iload_n hx hb dL_law_305 rfl (lv_at hl 0 rfl) ?_
        refine lv_iconst (v := 2) hx hb dL_law_306 (by decide) ?_
        refine lv_iadd hx hb dL_law_307 ?_
        refine my_topi (y := 2) (by decide) ?_
        refine va_sld hx hb hX hbl hbA hS (vp_in_iff.mpr (by decide)) dL_law_308 ?_
        have hPc := hP.sub (ws' := [(q_1, .inr (4, [.ref (u_2 0), .ref (u_2 3), .ref (u_2 28), .int 0])), ((u_2 3), .inr (1, [.ref (u_2 4), .ref (u_2 15), .int 1, .ref (u_2 26), .ref (u_2 27), .int 0, .int 0, .int 0])), ((u_2 4), .inr (0, [.int 0, .ref (u_2 5), .ref (u_2 6), .ref (u_2 7), .ref (u_2 8), .ref (u_2 9), .ref (u_2 10), .ref (u_2 11), .ref (u_2 12), .ref (u_2 13), .ref (u_2 14)])), ((u_2 5), .inl (cI, 6, .inl (fun _ => 0))), ((u_2 6), .inl (cI, 6, .inl (fun _ => 0))), ((u_2 7), .inl (cJ, 6, .inr (.inl (fun _ => 0)))), ((u_2 8), .inl (cZ, 6, .inl (fun _ => 0))), ((u_2 9), .inl (cZ, 40, .inl (fun _ => 0))), ((u_2 26), .inl (cZ, 40, .inl (fun _ => 0))), ((u_2 27), .inl (cI, 40, .inl (fun _ => 0))), ((u_2 0), .inr (3, [.ref (u_2 1), .ref (u_2 2), .int 0]))]) [0, 2, 3, 4, 5, 6, 7, 8, 9, 10, 1] rfl
        have hDc := hD.sub (ws' := [(q_1, .inr (4, [.ref (u_2 0), .ref (u_2 3), .ref (u_2 28), .int 0])), ((u_2 3), .inr (1, [.ref (u_2 4), .ref (u_2 15), .int 1, .ref (u_2 26), .ref (u_2 27), .int 0, .int 0, .int 0])), ((u_2 4), .inr (0, [.int 0, .ref (u_2 5), .ref (u_2 6), .ref (u_2 7), .ref (u_2 8), .ref (u_2 9), .ref (u_2 10), .ref (u_2 11), .ref (u_2 12), .ref (u_2 13), .ref (u_2 14)])), ((u_2 5), .inl (cI, 6, .inl (fun _ => 0))), ((u_2 6), .inl (cI, 6, .inl (fun _ => 0))), ((u_2 7), .inl (cJ, 6, .inr (.inl (fun _ => 0)))), ((u_2 8), .inl (cZ, 6, .inl (fun _ => 0))), ((u_2 9), .inl (cZ, 40, .inl (fun _ => 0))), ((u_2 26), .inl (cZ, 40, .inl (fun _ => 0))), ((u_2 27), .inl (cI, 40, .inl (fun _ => 0))), ((u_2 0), .inr (3, [.ref (u_2 1), .ref (u_2 2), .int 0]))]) [0, 2, 3, 4, 5, 6, 7, 8, 9, 10, 1] (by decide) rfl
        have hFc := va_free (wc := [(q_1, .inr (4, [.ref (u_2 0), .ref (u_2 3), .ref (u_2 28), .int 0])), ((u_2 3), .inr (1, [.ref (u_2 4), .ref (u_2 15), .int 1, .ref (u_2 26), .ref (u_2 27), .int 0, .int 0, .int 0])), ((u_2 4), .inr (0, [.int 0, .ref (u_2 5), .ref (u_2 6), .ref (u_2 7), .ref (u_2 8), .ref (u_2 9), .ref (u_2 10), .ref (u_2 11), .ref (u_2 12), .ref (u_2 13), .ref (u_2 14)])), ((u_2 5), .inl (cI, 6, .inl (fun _ => 0))), ((u_2 6), .inl (cI, 6, .inl (fun _ => 0))), ((u_2 7), .inl (cJ, 6, .inr (.inl (fun _ => 0)))), ((u_2 8), .inl (cZ, 6, .inl (fun _ => 0))), ((u_2 9), .inl (cZ, 40, .inl (fun _ => 0))), ((u_2 26), .inl (cZ, 40, .inl (fun _ => 0))), ((u_2 27), .inl (cI, 40, .inl (fun _ => 0))), ((u_2 0), .inr (3, [.ref (u_2 1), .ref (u_2 2), .int 0]))]) hD hS hA [0, 2, 3, 4, 5, 6, 7, 8, 9, 10, 1] rfl
        refine va_calli (va_runV (As := [.int (xs (1 : Int32).toNatClampNeg), .int (xs (2 : Int32).toNatClampNeg)]) (rest := []) ⟨hx, hb, hml, hown, hts⟩ (c_X4_variable l dC dI cI cJ cZ q_1 (u_2 0) (.ref (u_2 28)) (.int 0) (u_2 3) (u_2 26) (u_2 27) (.ref (u_2 15)) (.int 0) (.int 0) (.int 0) (u_2 4) (u_2 5) (u_2 6) (u_2 7) (u_2 8) (u_2 9) 0 (.ref (u_2 10)) (.ref (u_2 11)) (.ref (u_2 12)) (.ref (u_2 13)) (.ref (u_2 14)) (fun _ => 0) (fun _ => 0) (fun _ => 0) (fun _ => 0) (fun _ => 0) (fun _ => 0) (fun _ => 0) (.ref (u_2 1)) (.ref (u_2 2)) (xs (1 : Int32).toNatClampNeg) (xs (2 : Int32).toNatClampNeg) H_4.size) (cwV 2 hts g_L_law_X4_variable_40 rfl rfl rfl (by decide +kernel) ⟨Nat.le_of_ble_eq_true rfl, Nat.le_of_ble_eq_true rfl⟩) ⟨cPre_blind, va_recv hK hPc (ci := 4) (q0 := 0) rfl rfl, cPre_of hK hN hPc hDc⟩ rfl rfl hl.1 rfl (lv_room (Nat.le_of_ble_eq_true rfl)) dL_law_309 ⟨Nat.le_of_ble_eq_true rfl, Nat.le_of_ble_eq_true rfl⟩) hS (fun q _ h => hFc q h) hFc (fun r_24 u_24 t_24 H_24 locs_24 ht hvm hw_24 hB hz1 hk1 hS1 => ?_)
        obtain ⟨hP1, hK1, hD1⟩ := hB
        rw [ht] at hP1
        obtain ⟨hP2, hD2⟩ := va_join (wr := [(q_3, .inr (5, [.int 0, .ref (u_4 0), .ref (u_4 1), .ref (u_4 2), .ref (u_4 3), .ref (u_4 4), .ref (u_4 5), .ref (u_4 6), .ref (u_4 7), .ref (u_4 8), .ref (u_4 9), .ref (u_4 10), .ref (u_4 11), .ref (u_4 12), .ref (u_4 13), .ref (u_4 14), .ref (u_4 15), .ref (u_4 16), .ref (u_4 17), .ref (u_4 18), .ref (u_4 19), .int 0, .int 0, .int 0, .int (-1), .ref (u_4 20), .ref (u_4 21), .ref (u_4 22), .ref (u_4 23), .ref (u_4 24), .ref (u_4 25), .long 0, .long 0, .long 0, .ref (u_4 26), .ref (u_4 27)])), ((u_4 7), .inl (cZ, 2, .inl (fun _ => 0))), ((u_4 8), .inl (cJ, 12, .inr (.inl (fun _ => 0)))), ((u_4 9), .inl (cJ, 12, .inr (.inl (fun _ => 0)))), ((u_4 10), .inl (cJ, 12, .inr (.inl (fun _ => 0)))), ((u_4 11), .inl (cZ, 12, .inl (fun _ => 0))), ((u_4 12), .inl (cZ, 80, .inl (fun _ => 0))), ((u_4 18), .inl (cZ, 40, .inl (fun _ => 0))), ((u_4 19), .inl (cI, 40, .inl (fun _ => 0)))]) (w1 := []) hP hD [0, 2, 3, 4, 5, 6, 7, 8, 9, 10, 1] [11, 12, 13, 14, 15, 16, 17, 18, 19] rfl rfl (by decide) (by decide) hk1 hFc hP1 hD1
        clear hPc hDc hFc hP1 hD1 hK1 hk1 hz1 hvm ht
        replace hP : va_P (dC, dI) vwCl [(q_3, .inr (5, [.int 0, .ref (u_4 0), .ref (u_4 1), .ref (u_4 2), .ref (u_4 3), .ref (u_4 4), .ref (u_4 5), .ref (u_4 6), .ref (u_4 7), .ref (u_4 8), .ref (u_4 9), .ref (u_4 10), .ref (u_4 11), .ref (u_4 12), .ref (u_4 13), .ref (u_4 14), .ref (u_4 15), .ref (u_4 16), .ref (u_4 17), .ref (u_4 18), .ref (u_4 19), .int 0, .int 0, .int 0, .int (-1), .ref (u_4 20), .ref (u_4 21), .ref (u_4 22), .ref (u_4 23), .ref (u_4 24), .ref (u_4 25), .long 0, .long 0, .long 0, .ref (u_4 26), .ref (u_4 27)])), ((u_4 7), .inl (cZ, 2, .inl (fun _ => 0))), ((u_4 8), .inl (cJ, 12, .inr (.inl (fun _ => 0)))), ((u_4 9), .inl (cJ, 12, .inr (.inl (fun _ => 0)))), ((u_4 10), .inl (cJ, 12, .inr (.inl (fun _ => 0)))), ((u_4 11), .inl (cZ, 12, .inl (fun _ => 0))), ((u_4 12), .inl (cZ, 80, .inl (fun _ => 0))), ((u_4 18), .inl (cZ, 40, .inl (fun _ => 0))), ((u_4 19), .inl (cI, 40, .inl (fun _ => 0)))] H_24 := hP2
        replace hD : va_D (fun q : Nat => s.heap.size ≤ q) [(q_3, .inr (5, [.int 0, .ref (u_4 0), .ref (u_4 1), .ref (u_4 2), .ref (u_4 3), .ref (u_4 4), .ref (u_4 5), .ref (u_4 6), .ref (u_4 7), .ref (u_4 8), .ref (u_4 9), .ref (u_4 10), .ref (u_4 11), .ref (u_4 12), .ref (u_4 13), .ref (u_4 14), .ref (u_4 15), .ref (u_4 16), .ref (u_4 17), .ref (u_4 18), .ref (u_4 19), .int 0, .int 0, .int 0, .int (-1), .ref (u_4 20), .ref (u_4 21), .ref (u_4 22), .ref (u_4 23), .ref (u_4 24), .ref (u_4 25), .long 0, .long 0, .long 0, .ref (u_4 26), .ref (u_4 27)])), ((u_4 7), .inl (cZ, 2, .inl (fun _ => 0))), ((u_4 8), .inl (cJ, 12, .inr (.inl (fun _ => 0)))), ((u_4 9), .inl (cJ, 12, .inr (.inl (fun _ => 0)))), ((u_4 10), .inl (cJ, 12, .inr (.inl (fun _ => 0)))), ((u_4 11), .inl (cZ, 12, .inl (fun _ => 0))), ((u_4 12), .inl (cZ, 80, .inl (fun _ => 0))), ((u_4 18), .inl (cZ, 40, .inl (fun _ => 0))), ((u_4 19), .inl (cI, 40, .inl (fun _ => 0)))] := hD2
        replace hS := hS1
        clear hP2 hD2 hS1
        refine lv_aload_n hx hb dL_law_312 rfl (lv_at hl 1 rfl) ?_
        refine lv_aload_n hx hb dL_law_313 rfl (lv_at hl 3 rfl) ?_
        refine lv_iload_n hx hb dL_law_314 rfl (lv_at hl 0 rfl) ?_
        refine lv_iconst (v := 1) hx hb dL_law_315 (by decide) ?_
        refine lv_iadd hx hb dL_law_316 ?_
        refine my_topi (y := 1) (by decide) ?_
        refine va_sld hx hb hX hbl hbA hS (vp_in_iff.mpr (by decide)) dL_law_317 ?_
        refine lv_aload_n hx hb dL_law_318 rfl (lv_at hl 3 rfl) ?_
        refine lv_iload_n hx hb dL_law_319 rfl (lv_at hl 0 rfl) ?_
        refine lv_iconst (v := 2) hx hb dL_law_320 (by decide) ?_
        refine lv_iadd hx hb dL_law_321 ?_
        refine my_topi (y := 2) (by decide) ?_
        refine va_sld hx hb hX hbl hbA hS (vp_in_iff.mpr (by decide)) dL_law_322 ?_
        have hPc := hP.sub (ws' := [(q_3, .inr (5, [.int 0, .ref (u_4 0), .ref (u_4 1), .ref (u_4 2), .ref (u_4 3), .ref (u_4 4), .ref (u_4 5), .ref (u_4 6), .ref (u_4 7), .ref (u_4 8), .ref (u_4 9), .ref (u_4 10), .ref (u_4 11), .ref (u_4 12), .ref (u_4 13), .ref (u_4 14), .ref (u_4 15), .ref (u_4 16), .ref (u_4 17), .ref (u_4 18), .ref (u_4 19), .int 0, .int 0, .int 0, .int (-1), .ref (u_4 20), .ref (u_4 21), .ref (u_4 22), .ref (u_4 23), .ref (u_4 24), .ref (u_4 25), .long 0, .long 0, .long 0, .ref (u_4 26), .ref (u_4 27)])), ((u_4 7), .inl (cZ, 2, .inl (fun _ => 0))), ((u_4 8), .inl (cJ, 12, .inr (.inl (fun _ => 0)))), ((u_4 9), .inl (cJ, 12, .inr (.inl (fun _ => 0)))), ((u_4 10), .inl (cJ, 12, .inr (.inl (fun _ => 0)))), ((u_4 11), .inl (cZ, 12, .inl (fun _ => 0))), ((u_4 12), .inl (cZ, 80, .inl (fun _ => 0))), ((u_4 18), .inl (cZ, 40, .inl (fun _ => 0))), ((u_4 19), .inl (cI, 40, .inl (fun _ => 0)))]) [0, 1, 2, 3, 4, 5, 6, 7, 8] rfl
        have hDc := hD.sub (ws' := [(q_3, .inr (5, [.int 0, .ref (u_4 0), .ref (u_4 1), .ref (u_4 2), .ref (u_4 3), .ref (u_4 4), .ref (u_4 5), .ref (u_4 6), .ref (u_4 7), .ref (u_4 8), .ref (u_4 9), .ref (u_4 10), .ref (u_4 11), .ref (u_4 12), .ref (u_4 13), .ref (u_4 14), .ref (u_4 15), .ref (u_4 16), .ref (u_4 17), .ref (u_4 18), .ref (u_4 19), .int 0, .int 0, .int 0, .int (-1), .ref (u_4 20), .ref (u_4 21), .ref (u_4 22), .ref (u_4 23), .ref (u_4 24), .ref (u_4 25), .long 0, .long 0, .long 0, .ref (u_4 26), .ref (u_4 27)])), ((u_4 7), .inl (cZ, 2, .inl (fun _ => 0))), ((u_4 8), .inl (cJ, 12, .inr (.inl (fun _ => 0)))), ((u_4 9), .inl (cJ, 12, .inr (.inl (fun _ => 0)))), ((u_4 10), .inl (cJ, 12, .inr (.inl (fun _ => 0)))), ((u_4 11), .inl (cZ, 12, .inl (fun _ => 0))), ((u_4 12), .inl (cZ, 80, .inl (fun _ => 0))), ((u_4 18), .inl (cZ, 40, .inl (fun _ => 0))), ((u_4 19), .inl (cI, 40, .inl (fun _ => 0)))]) [0, 1, 2, 3, 4, 5, 6, 7, 8] (by decide) rfl
        have hFc := va_free (wc := [(q_3, .inr (5, [.int 0, .ref (u_4 0), .ref (u_4 1), .ref (u_4 2), .ref (u_4 3), .ref (u_4 4), .ref (u_4 5), .ref (u_4 6), .ref (u_4 7), .ref (u_4 8), .ref (u_4 9), .ref (u_4 10), .ref (u_4 11), .ref (u_4 12), .ref (u_4 13), .ref (u_4 14), .ref (u_4 15), .ref (u_4 16), .ref (u_4 17), .ref (u_4 18), .ref (u_4 19), .int 0, .int 0, .int 0, .int (-1), .ref (u_4 20), .ref (u_4 21), .ref (u_4 22), .ref (u_4 23), .ref (u_4 24), .ref (u_4 25), .long 0, .long 0, .long 0, .ref (u_4 26), .ref (u_4 27)])), ((u_4 7), .inl (cZ, 2, .inl (fun _ => 0))), ((u_4 8), .inl (cJ, 12, .inr (.inl (fun _ => 0)))), ((u_4 9), .inl (cJ, 12, .inr (.inl (fun _ => 0)))), ((u_4 10), .inl (cJ, 12, .inr (.inl (fun _ => 0)))), ((u_4 11), .inl (cZ, 12, .inl (fun _ => 0))), ((u_4 12), .inl (cZ, 80, .inl (fun _ => 0))), ((u_4 18), .inl (cZ, 40, .inl (fun _ => 0))), ((u_4 19), .inl (cI, 40, .inl (fun _ => 0)))]) hD hS hA [0, 1, 2, 3, 4, 5, 6, 7, 8] rfl
        refine va_calli (va_runV (As := [.int (xs (1 : Int32).toNatClampNeg), .int (xs (2 : Int32).toNatClampNeg)]) (rest := [.int r_24]) ⟨hx, hb, hml, hown, hts⟩ (c_X5_variable l dC dI cI cJ cZ q_3 (.ref (u_4 0)) (.ref (u_4 1)) (.ref (u_4 2)) (.ref (u_4 3)) (.ref (u_4 4)) (.ref (u_4 5)) (.ref (u_4 6)) (.ref (u_4 13)) (.ref (u_4 14)) (.ref (u_4 15)) (.ref (u_4 16)) (.ref (u_4 17)) (.int 0) (.int 0) (.int 0) (.int (-1)) (.ref (u_4 20)) (.ref (u_4 21)) (.ref (u_4 22)) (.ref (u_4 23)) (.ref (u_4 24)) (.ref (u_4 25)) (.long 0) (.long 0) (.long 0) (.ref (u_4 26)) (.ref (u_4 27)) (u_4 7) (u_4 8) (u_4 9) (u_4 10) (u_4 11) (u_4 12) (u_4 18) (u_4 19) (fun _ => 0) (fun _ => 0) (fun _ => 0) (fun _ => 0) (fun _ => 0) (fun _ => 0) (fun _ => 0) (fun _ => 0) (xs (1 : Int32).toNatClampNeg) (xs (2 : Int32).toNatClampNeg) H_24.size) (cwV 2 hts g_L_law_X5_variable_44 rfl rfl rfl (by decide +kernel) ⟨Nat.le_of_ble_eq_true rfl, Nat.le_of_ble_eq_true rfl⟩) ⟨cPre_blind, va_recv hK hPc (ci := 5) (q0 := 0) rfl rfl, cPre_of hK hN hPc hDc⟩ rfl rfl hl.1 rfl (lv_room (Nat.le_of_ble_eq_true rfl)) dL_law_323 ⟨Nat.le_of_ble_eq_true rfl, Nat.le_of_ble_eq_true rfl⟩) hS (fun q _ h => hFc q h) hFc (fun r_25 u_25 t_25 H_25 locs_25 ht hvm hw_25 hB hz1 hk1 hS1 => ?_)
        obtain ⟨hP1, hK1, hD1⟩ := hB
        rw [ht] at hP1
        obtain ⟨hP2, hD2⟩ := va_join (wr := []) (w1 := []) hP hD [0, 1, 2, 3, 4, 5, 6, 7, 8] [] rfl rfl (by decide) (by decide) hk1 hFc hP1 hD1
        clear hPc hDc hFc hP1 hD1 hK1 hk1 hz1 hvm ht
        replace hP : va_P (dC, dI) vwCl [] H_25 := hP2
        replace hD : va_D (fun q : Nat => s.heap.size ≤ q) [] := hD2
        replace hS := hS1
        clear hP2 hD2 hS1
        refine lv_icmp_eq (tgt := 730) hx hb dL_law_326 (by decide) (fun c_26 => ?_) (fun c_26 => ?_)
        · -- on
          refine lv_iinc (v := 7) (lv' := [(3, .int 7), (2, .ref q_3), (1, .ref q_1), (0, .ref b)]) hx hb dL_law_730 hl (k := 0) rfl (by decide) (by decide) rfl (fun ls1 hl1 => ?_)
          replace hl := hl1; clear hl1
          refine lv_goto (tgt := 18) hx hb dL_law_733 (by decide) ?_
          refine lv_iload_n hx hb dL_law_18 rfl (lv_at hl 0 rfl) ?_
          refine lv_aload_n hx hb dL_law_19 rfl (lv_at hl 3 rfl) ?_
          refine va_slen hx hb hX hbl hbA hS dL_law_20 ?_
          refine lv_bipush (v := 7) hx hb dL_law_21 (by decide) ?_
          refine lv_isub hx hb dL_law_23 ?_
          refine my_topi (y := 0) (by decide) ?_
          refine lv_icmp_gt (tgt := 736) hx hb dL_law_24 (by decide) (fun c_0 => ?_) (fun c_0 => ?_)
          · -- end
            refine lv_iconst (v := 1) hx hb dL_law_736 (by decide) ?_
            refine va_forget (fun q hq => hS.2.2 q hq) ?_
            refine W.widen (k := 64) (n := 6560) (Nat.le_of_ble_eq_true rfl) (Nat.le_of_ble_eq_true rfl) ?_
            exact lw_ret hx hb hr hlocks dL_law_737
          · exact absurd (by decide) c_0
        · exact absurd (two_eq hw_24 hw_25) c_26
      · -- case 7
        refine lv_tableIn (tgt := 331) (off := 298) hx hb dL_law_33 (by omega) (by omega) (by rw [sv_5]; rfl) (by decide) ?_
        replace hP := hP.sub (ws' := [(q_1, .inr (4, [.ref (u_2 0), .ref (u_2 3), .ref (u_2 28), .int 0])), ((u_2 0), .inr (3, [.ref (u_2 1), .ref (u_2 2), .int 0])), ((u_2 3), .inr (1, [.ref (u_2 4), .ref (u_2 15), .int 1, .ref (u_2 26), .ref (u_2 27), .int 0, .int 0, .int 0])), ((u_2 4), .inr (0, [.int 0, .ref (u_2 5), .ref (u_2 6), .ref (u_2 7), .ref (u_2 8), .ref (u_2 9), .ref (u_2 10), .ref (u_2 11), .ref (u_2 12), .ref (u_2 13), .ref (u_2 14)])), ((u_2 5), .inl (cI, 6, .inl (fun _ => 0))), ((u_2 6), .inl (cI, 6, .inl (fun _ => 0))), ((u_2 7), .inl (cJ, 6, .inr (.inl (fun _ => 0)))), ((u_2 8), .inl (cZ, 6, .inl (fun _ => 0))), ((u_2 9), .inl (cZ, 40, .inl (fun _ => 0))), ((u_2 26), .inl (cZ, 40, .inl (fun _ => 0))), ((u_2 27), .inl (cI, 40, .inl (fun _ => 0))), (q_3, .inr (5, [.int 0, .ref (u_4 0), .ref (u_4 1), .ref (u_4 2), .ref (u_4 3), .ref (u_4 4), .ref (u_4 5), .ref (u_4 6), .ref (u_4 7), .ref (u_4 8), .ref (u_4 9), .ref (u_4 10), .ref (u_4 11), .ref (u_4 12), .ref (u_4 13), .ref (u_4 14), .ref (u_4 15), .ref (u_4 16), .ref (u_4 17), .ref (u_4 18), .ref (u_4 19), .int 0, .int 0, .int 0, .int (-1), .ref (u_4 20), .ref (u_4 21), .ref (u_4 22), .ref (u_4 23), .ref (u_4 24), .ref (u_4 25), .long 0, .long 0, .long 0, .ref (u_4 26), .ref (u_4 27)])), ((u_4 7), .inl (cZ, 2, .inl (fun _ => 0))), ((u_4 8), .inl (cJ, 12, .inr (.inl (fun _ => 0)))), ((u_4 9), .inl (cJ, 12, .inr (.inl (fun _ => 0)))), ((u_4 10), .inl (cJ, 12, .inr (.inl (fun _ => 0)))), ((u_4 11), .inl (cZ, 12, .inl (fun _ => 0))), ((u_4 12), .inl (cZ, 80, .inl (fun _ => 0))), ((u_4 18), .inl (cZ, 40, .inl (fun _ => 0))), ((u_4 19), .inl (cI, 40, .inl (fun _ => 0)))]) [0, 1, 4, 5, 6, 7, 8, 9, 10, 27, 28, 35, 43, 44, 45, 46, 47, 48, 54, 55] rfl
        replace hD := hD.sub (ws' := [(q_1, .inr (4, [.ref (u_2 0), .ref (u_2 3), .ref (u_2 28), .int 0])), ((u_2 0), .inr (3, [.ref (u_2 1), .ref (u_2 2), .int 0])), ((u_2 3), .inr (1, [.ref (u_2 4), .ref (u_2 15), .int 1, .ref (u_2 26), .ref (u_2 27), .int 0, .int 0, .int 0])), ((u_2 4), .inr (0, [.int 0, .ref (u_2 5), .ref (u_2 6), .ref (u_2 7), .ref (u_2 8), .ref (u_2 9), .ref (u_2 10), .ref (u_2 11), .ref (u_2 12), .ref (u_2 13), .ref (u_2 14)])), ((u_2 5), .inl (cI, 6, .inl (fun _ => 0))), ((u_2 6), .inl (cI, 6, .inl (fun _ => 0))), ((u_2 7), .inl (cJ, 6, .inr (.inl (fun _ => 0)))), ((u_2 8), .inl (cZ, 6, .inl (fun _ => 0))), ((u_2 9), .inl (cZ, 40, .inl (fun _ => 0))), ((u_2 26), .inl (cZ, 40, .inl (fun _ => 0))), ((u_2 27), .inl (cI, 40, .inl (fun _ => 0))), (q_3, .inr (5, [.int 0, .ref (u_4 0), .ref (u_4 1), .ref (u_4 2), .ref (u_4 3), .ref (u_4 4), .ref (u_4 5), .ref (u_4 6), .ref (u_4 7), .ref (u_4 8), .ref (u_4 9), .ref (u_4 10), .ref (u_4 11), .ref (u_4 12), .ref (u_4 13), .ref (u_4 14), .ref (u_4 15), .ref (u_4 16), .ref (u_4 17), .ref (u_4 18), .ref (u_4 19), .int 0, .int 0, .int 0, .int (-1), .ref (u_4 20), .ref (u_4 21), .ref (u_4 22), .ref (u_4 23), .ref (u_4 24), .ref (u_4 25), .long 0, .long 0, .long 0, .ref (u_4 26), .ref (u_4 27)])), ((u_4 7), .inl (cZ, 2, .inl (fun _ => 0))), ((u_4 8), .inl (cJ, 12, .inr (.inl (fun _ => 0)))), ((u_4 9), .inl (cJ, 12, .inr (.inl (fun _ => 0)))), ((u_4 10), .inl (cJ, 12, .inr (.inl (fun _ => 0)))), ((u_4 11), .inl (cZ, 12, .inl (fun _ => 0))), ((u_4 12), .inl (cZ, 80, .inl (fun _ => 0))), ((u_4 18), .inl (cZ, 40, .inl (fun _ => 0))), ((u_4 19), .inl (cI, 40, .inl (fun _ => 0)))]) [0, 1, 4, 5, 6, 7, 8, 9, 10, 27, 28, 35, 43, 44, 45, 46, 47, 48, 54, 55] (by decide) rfl
        refine lv_aload_n hx hb dL_law_331 rfl (lv_at hl 2 rfl) ?_
        refine lv_aload_n hx hb dL_law_332 rfl (lv_at hl 3 rfl) ?_
        refine lv_iload_n hx hb dL_law_333 rfl (lv_at hl 0 rfl) ?_
        refine lv_iconst (v := 1) hx hb dL_law_334 (by decide) ?_
        refine lv_iadd hx hb dL_law_335 ?_
        refine my_topi (y := 1) (by decide) ?_
        refine va_sld hx hb hX hbl hbA hS (vp_in_iff.mpr (by decide)) dL_law_336 ?_
        have hPc := hP.sub (ws' := [(q_1, .inr (4, [.ref (u_2 0), .ref (u_2 3), .ref (u_2 28), .int 0])), ((u_2 3), .inr (1, [.ref (u_2 4), .ref (u_2 15), .int 1, .ref (u_2 26), .ref (u_2 27), .int 0, .int 0, .int 0])), ((u_2 4), .inr (0, [.int 0, .ref (u_2 5), .ref (u_2 6), .ref (u_2 7), .ref (u_2 8), .ref (u_2 9), .ref (u_2 10), .ref (u_2 11), .ref (u_2 12), .ref (u_2 13), .ref (u_2 14)])), ((u_2 5), .inl (cI, 6, .inl (fun _ => 0))), ((u_2 6), .inl (cI, 6, .inl (fun _ => 0))), ((u_2 7), .inl (cJ, 6, .inr (.inl (fun _ => 0)))), ((u_2 8), .inl (cZ, 6, .inl (fun _ => 0))), ((u_2 9), .inl (cZ, 40, .inl (fun _ => 0))), ((u_2 26), .inl (cZ, 40, .inl (fun _ => 0))), ((u_2 27), .inl (cI, 40, .inl (fun _ => 0))), ((u_2 0), .inr (3, [.ref (u_2 1), .ref (u_2 2), .int 0]))]) [0, 2, 3, 4, 5, 6, 7, 8, 9, 10, 1] rfl
        have hDc := hD.sub (ws' := [(q_1, .inr (4, [.ref (u_2 0), .ref (u_2 3), .ref (u_2 28), .int 0])), ((u_2 3), .inr (1, [.ref (u_2 4), .ref (u_2 15), .int 1, .ref (u_2 26), .ref (u_2 27), .int 0, .int 0, .int 0])), ((u_2 4), .inr (0, [.int 0, .ref (u_2 5), .ref (u_2 6), .ref (u_2 7), .ref (u_2 8), .ref (u_2 9), .ref (u_2 10), .ref (u_2 11), .ref (u_2 12), .ref (u_2 13), .ref (u_2 14)])), ((u_2 5), .inl (cI, 6, .inl (fun _ => 0))), ((u_2 6), .inl (cI, 6, .inl (fun _ => 0))), ((u_2 7), .inl (cJ, 6, .inr (.inl (fun _ => 0)))), ((u_2 8), .inl (cZ, 6, .inl (fun _ => 0))), ((u_2 9), .inl (cZ, 40, .inl (fun _ => 0))), ((u_2 26), .inl (cZ, 40, .inl (fun _ => 0))), ((u_2 27), .inl (cI, 40, .inl (fun _ => 0))), ((u_2 0), .inr (3, [.ref (u_2 1), .ref (u_2 2), .int 0]))]) [0, 2, 3, 4, 5, 6, 7, 8, 9, 10, 1] (by decide) rfl
        have hFc := va_free (wc := [(q_1, .inr (4, [.ref (u_2 0), .ref (u_2 3), .ref (u_2 28), .int 0])), ((u_2 3), .inr (1, [.ref (u_2 4), .ref (u_2 15), .int 1, .ref (u_2 26), .ref (u_2 27), .int 0, .int 0, .int 0])), ((u_2 4), .inr (0, [.int 0, .ref (u_2 5), .ref (u_2 6), .ref (u_2 7), .ref (u_2 8), .ref (u_2 9), .ref (u_2 10), .ref (u_2 11), .ref (u_2 12), .ref (u_2 13), .ref (u_2 14)])), ((u_2 5), .inl (cI, 6, .inl (fun _ => 0))), ((u_2 6), .inl (cI, 6, .inl (fun _ => 0))), ((u_2 7), .inl (cJ, 6, .inr (.inl (fun _ => 0)))), ((u_2 8), .inl (cZ, 6, .inl (fun _ => 0))), ((u_2 9), .inl (cZ, 40, .inl (fun _ => 0))), ((u_2 26), .inl (cZ, 40, .inl (fun _ => 0))), ((u_2 27), .inl (cI, 40, .inl (fun _ => 0))), ((u_2 0), .inr (3, [.ref (u_2 1), .ref (u_2 2), .int 0]))]) hD hS hA [0, 2, 3, 4, 5, 6, 7, 8, 9, 10, 1] rfl
        refine va_calli (va_runV (As := [.int (xs (1 : Int32).toNatClampNeg)]) (rest := []) ⟨hx, hb, hml, hown, hts⟩ (c_X4_reference l dC dI cI cJ cZ q_1 (u_2 0) (.ref (u_2 28)) (.int 0) (u_2 3) (u_2 26) (u_2 27) (.ref (u_2 15)) (.int 0) (.int 0) (.int 0) (u_2 4) (u_2 5) (u_2 6) (u_2 7) (u_2 8) (u_2 9) 0 (.ref (u_2 10)) (.ref (u_2 11)) (.ref (u_2 12)) (.ref (u_2 13)) (.ref (u_2 14)) (fun _ => 0) (fun _ => 0) (fun _ => 0) (fun _ => 0) (fun _ => 0) (fun _ => 0) (fun _ => 0) (.ref (u_2 1)) (.ref (u_2 2)) (xs (1 : Int32).toNatClampNeg) H_4.size) (cwV 1 hts g_L_law_X4_reference_45 rfl rfl rfl (by decide +kernel) ⟨Nat.le_of_ble_eq_true rfl, Nat.le_of_ble_eq_true rfl⟩) ⟨cPre_blind, va_recv hK hPc (ci := 4) (q0 := 0) rfl rfl, cPre_of hK hN hPc hDc⟩ rfl rfl hl.1 rfl (lv_room (Nat.le_of_ble_eq_true rfl)) dL_law_337 ⟨Nat.le_of_ble_eq_true rfl, Nat.le_of_ble_eq_true rfl⟩) hS (fun q _ h => hFc q h) hFc (fun r_27 u_27 t_27 H_27 locs_27 ht hvm hw_27 hB hz1 hk1 hS1 => ?_)
        obtain ⟨hP1, hK1, hD1⟩ := hB
        rw [ht] at hP1
        obtain ⟨hP2, hD2⟩ := va_join (wr := [(q_3, .inr (5, [.int 0, .ref (u_4 0), .ref (u_4 1), .ref (u_4 2), .ref (u_4 3), .ref (u_4 4), .ref (u_4 5), .ref (u_4 6), .ref (u_4 7), .ref (u_4 8), .ref (u_4 9), .ref (u_4 10), .ref (u_4 11), .ref (u_4 12), .ref (u_4 13), .ref (u_4 14), .ref (u_4 15), .ref (u_4 16), .ref (u_4 17), .ref (u_4 18), .ref (u_4 19), .int 0, .int 0, .int 0, .int (-1), .ref (u_4 20), .ref (u_4 21), .ref (u_4 22), .ref (u_4 23), .ref (u_4 24), .ref (u_4 25), .long 0, .long 0, .long 0, .ref (u_4 26), .ref (u_4 27)])), ((u_4 7), .inl (cZ, 2, .inl (fun _ => 0))), ((u_4 8), .inl (cJ, 12, .inr (.inl (fun _ => 0)))), ((u_4 9), .inl (cJ, 12, .inr (.inl (fun _ => 0)))), ((u_4 10), .inl (cJ, 12, .inr (.inl (fun _ => 0)))), ((u_4 11), .inl (cZ, 12, .inl (fun _ => 0))), ((u_4 12), .inl (cZ, 80, .inl (fun _ => 0))), ((u_4 18), .inl (cZ, 40, .inl (fun _ => 0))), ((u_4 19), .inl (cI, 40, .inl (fun _ => 0)))]) (w1 := []) hP hD [0, 2, 3, 4, 5, 6, 7, 8, 9, 10, 1] [11, 12, 13, 14, 15, 16, 17, 18, 19] rfl rfl (by decide) (by decide) hk1 hFc hP1 hD1
        clear hPc hDc hFc hP1 hD1 hK1 hk1 hz1 hvm ht
        replace hP : va_P (dC, dI) vwCl [(q_3, .inr (5, [.int 0, .ref (u_4 0), .ref (u_4 1), .ref (u_4 2), .ref (u_4 3), .ref (u_4 4), .ref (u_4 5), .ref (u_4 6), .ref (u_4 7), .ref (u_4 8), .ref (u_4 9), .ref (u_4 10), .ref (u_4 11), .ref (u_4 12), .ref (u_4 13), .ref (u_4 14), .ref (u_4 15), .ref (u_4 16), .ref (u_4 17), .ref (u_4 18), .ref (u_4 19), .int 0, .int 0, .int 0, .int (-1), .ref (u_4 20), .ref (u_4 21), .ref (u_4 22), .ref (u_4 23), .ref (u_4 24), .ref (u_4 25), .long 0, .long 0, .long 0, .ref (u_4 26), .ref (u_4 27)])), ((u_4 7), .inl (cZ, 2, .inl (fun _ => 0))), ((u_4 8), .inl (cJ, 12, .inr (.inl (fun _ => 0)))), ((u_4 9), .inl (cJ, 12, .inr (.inl (fun _ => 0)))), ((u_4 10), .inl (cJ, 12, .inr (.inl (fun _ => 0)))), ((u_4 11), .inl (cZ, 12, .inl (fun _ => 0))), ((u_4 12), .inl (cZ, 80, .inl (fun _ => 0))), ((u_4 18), .inl (cZ, 40, .inl (fun _ => 0))), ((u_4 19), .inl (cI, 40, .inl (fun _ => 0)))] H_27 := hP2
        replace hD : va_D (fun q : Nat => s.heap.size ≤ q) [(q_3, .inr (5, [.int 0, .ref (u_4 0), .ref (u_4 1), .ref (u_4 2), .ref (u_4 3), .ref (u_4 4), .ref (u_4 5), .ref (u_4 6), .ref (u_4 7), .ref (u_4 8), .ref (u_4 9), .ref (u_4 10), .ref (u_4 11), .ref (u_4 12), .ref (u_4 13), .ref (u_4 14), .ref (u_4 15), .ref (u_4 16), .ref (u_4 17), .ref (u_4 18), .ref (u_4 19), .int 0, .int 0, .int 0, .int (-1), .ref (u_4 20), .ref (u_4 21), .ref (u_4 22), .ref (u_4 23), .ref (u_4 24), .ref (u_4 25), .long 0, .long 0, .long 0, .ref (u_4 26), .ref (u_4 27)])), ((u_4 7), .inl (cZ, 2, .inl (fun _ => 0))), ((u_4 8), .inl (cJ, 12, .inr (.inl (fun _ => 0)))), ((u_4 9), .inl (cJ, 12, .inr (.inl (fun _ => 0)))), ((u_4 10), .inl (cJ, 12, .inr (.inl (fun _ => 0)))), ((u_4 11), .inl (cZ, 12, .inl (fun _ => 0))), ((u_4 12), .inl (cZ, 80, .inl (fun _ => 0))), ((u_4 18), .inl (cZ, 40, .inl (fun _ => 0))), ((u_4 19), .inl (cI, 40, .inl (fun _ => 0)))] := hD2
        replace hS := hS1
        clear hP2 hD2 hS1
        refine lv_aload_n hx hb dL_law_340 rfl (lv_at hl 1 rfl) ?_
        refine lv_aload_n hx hb dL_law_341 rfl (lv_at hl 3 rfl) ?_
        refine lv_iload_n hx hb dL_law_342 rfl (lv_at hl 0 rfl) ?_
        refine lv_iconst (v := 1) hx hb dL_law_343 (by decide) ?_
        refine lv_iadd hx hb dL_law_344 ?_
        refine my_topi (y := 1) (by decide) ?_
        refine va_sld hx hb hX hbl hbA hS (vp_in_iff.mpr (by decide)) dL_law_345 ?_
        have hPc := hP.sub (ws' := [(q_3, .inr (5, [.int 0, .ref (u_4 0), .ref (u_4 1), .ref (u_4 2), .ref (u_4 3), .ref (u_4 4), .ref (u_4 5), .ref (u_4 6), .ref (u_4 7), .ref (u_4 8), .ref (u_4 9), .ref (u_4 10), .ref (u_4 11), .ref (u_4 12), .ref (u_4 13), .ref (u_4 14), .ref (u_4 15), .ref (u_4 16), .ref (u_4 17), .ref (u_4 18), .ref (u_4 19), .int 0, .int 0, .int 0, .int (-1), .ref (u_4 20), .ref (u_4 21), .ref (u_4 22), .ref (u_4 23), .ref (u_4 24), .ref (u_4 25), .long 0, .long 0, .long 0, .ref (u_4 26), .ref (u_4 27)])), ((u_4 7), .inl (cZ, 2, .inl (fun _ => 0))), ((u_4 8), .inl (cJ, 12, .inr (.inl (fun _ => 0)))), ((u_4 9), .inl (cJ, 12, .inr (.inl (fun _ => 0)))), ((u_4 10), .inl (cJ, 12, .inr (.inl (fun _ => 0)))), ((u_4 11), .inl (cZ, 12, .inl (fun _ => 0))), ((u_4 12), .inl (cZ, 80, .inl (fun _ => 0))), ((u_4 18), .inl (cZ, 40, .inl (fun _ => 0))), ((u_4 19), .inl (cI, 40, .inl (fun _ => 0)))]) [0, 1, 2, 3, 4, 5, 6, 7, 8] rfl
        have hDc := hD.sub (ws' := [(q_3, .inr (5, [.int 0, .ref (u_4 0), .ref (u_4 1), .ref (u_4 2), .ref (u_4 3), .ref (u_4 4), .ref (u_4 5), .ref (u_4 6), .ref (u_4 7), .ref (u_4 8), .ref (u_4 9), .ref (u_4 10), .ref (u_4 11), .ref (u_4 12), .ref (u_4 13), .ref (u_4 14), .ref (u_4 15), .ref (u_4 16), .ref (u_4 17), .ref (u_4 18), .ref (u_4 19), .int 0, .int 0, .int 0, .int (-1), .ref (u_4 20), .ref (u_4 21), .ref (u_4 22), .ref (u_4 23), .ref (u_4 24), .ref (u_4 25), .long 0, .long 0, .long 0, .ref (u_4 26), .ref (u_4 27)])), ((u_4 7), .inl (cZ, 2, .inl (fun _ => 0))), ((u_4 8), .inl (cJ, 12, .inr (.inl (fun _ => 0)))), ((u_4 9), .inl (cJ, 12, .inr (.inl (fun _ => 0)))), ((u_4 10), .inl (cJ, 12, .inr (.inl (fun _ => 0)))), ((u_4 11), .inl (cZ, 12, .inl (fun _ => 0))), ((u_4 12), .inl (cZ, 80, .inl (fun _ => 0))), ((u_4 18), .inl (cZ, 40, .inl (fun _ => 0))), ((u_4 19), .inl (cI, 40, .inl (fun _ => 0)))]) [0, 1, 2, 3, 4, 5, 6, 7, 8] (by decide) rfl
        have hFc := va_free (wc := [(q_3, .inr (5, [.int 0, .ref (u_4 0), .ref (u_4 1), .ref (u_4 2), .ref (u_4 3), .ref (u_4 4), .ref (u_4 5), .ref (u_4 6), .ref (u_4 7), .ref (u_4 8), .ref (u_4 9), .ref (u_4 10), .ref (u_4 11), .ref (u_4 12), .ref (u_4 13), .ref (u_4 14), .ref (u_4 15), .ref (u_4 16), .ref (u_4 17), .ref (u_4 18), .ref (u_4 19), .int 0, .int 0, .int 0, .int (-1), .ref (u_4 20), .ref (u_4 21), .ref (u_4 22), .ref (u_4 23), .ref (u_4 24), .ref (u_4 25), .long 0, .long 0, .long 0, .ref (u_4 26), .ref (u_4 27)])), ((u_4 7), .inl (cZ, 2, .inl (fun _ => 0))), ((u_4 8), .inl (cJ, 12, .inr (.inl (fun _ => 0)))), ((u_4 9), .inl (cJ, 12, .inr (.inl (fun _ => 0)))), ((u_4 10), .inl (cJ, 12, .inr (.inl (fun _ => 0)))), ((u_4 11), .inl (cZ, 12, .inl (fun _ => 0))), ((u_4 12), .inl (cZ, 80, .inl (fun _ => 0))), ((u_4 18), .inl (cZ, 40, .inl (fun _ => 0))), ((u_4 19), .inl (cI, 40, .inl (fun _ => 0)))]) hD hS hA [0, 1, 2, 3, 4, 5, 6, 7, 8] rfl
        refine va_calli (va_runV (As := [.int (xs (1 : Int32).toNatClampNeg)]) (rest := [.int r_27]) ⟨hx, hb, hml, hown, hts⟩ (c_X5_reference l dC dI cI cJ cZ q_3 (.ref (u_4 0)) (.ref (u_4 1)) (.ref (u_4 2)) (.ref (u_4 3)) (.ref (u_4 4)) (.ref (u_4 5)) (.ref (u_4 6)) (.ref (u_4 13)) (.ref (u_4 14)) (.ref (u_4 15)) (.ref (u_4 16)) (.ref (u_4 17)) (.int 0) (.int 0) (.int 0) (.int (-1)) (.ref (u_4 20)) (.ref (u_4 21)) (.ref (u_4 22)) (.ref (u_4 23)) (.ref (u_4 24)) (.ref (u_4 25)) (.long 0) (.long 0) (.long 0) (.ref (u_4 26)) (.ref (u_4 27)) (u_4 7) (u_4 8) (u_4 9) (u_4 10) (u_4 11) (u_4 12) (u_4 18) (u_4 19) (fun _ => 0) (fun _ => 0) (fun _ => 0) (fun _ => 0) (fun _ => 0) (fun _ => 0) (fun _ => 0) (fun _ => 0) (xs (1 : Int32).toNatClampNeg) H_27.size) (cwV 1 hts g_L_law_X5_reference_48 rfl rfl rfl (by decide +kernel) ⟨Nat.le_of_ble_eq_true rfl, Nat.le_of_ble_eq_true rfl⟩) ⟨cPre_blind, va_recv hK hPc (ci := 5) (q0 := 0) rfl rfl, cPre_of hK hN hPc hDc⟩ rfl rfl hl.1 rfl (lv_room (Nat.le_of_ble_eq_true rfl)) dL_law_346 ⟨Nat.le_of_ble_eq_true rfl, Nat.le_of_ble_eq_true rfl⟩) hS (fun q _ h => hFc q h) hFc (fun r_28 u_28 t_28 H_28 locs_28 ht hvm hw_28 hB hz1 hk1 hS1 => ?_)
        obtain ⟨hP1, hK1, hD1⟩ := hB
        rw [ht] at hP1
        obtain ⟨hP2, hD2⟩ := va_join (wr := []) (w1 := []) hP hD [0, 1, 2, 3, 4, 5, 6, 7, 8] [] rfl rfl (by decide) (by decide) hk1 hFc hP1 hD1
        clear hPc hDc hFc hP1 hD1 hK1 hk1 hz1 hvm ht
        replace hP : va_P (dC, dI) vwCl [] H_28 := hP2
        replace hD : va_D (fun q : Nat => s.heap.size ≤ q) [] := hD2
        replace hS := hS1
        clear hP2 hD2 hS1
        refine lv_icmp_eq (tgt := 730) hx hb dL_law_349 (by decide) (fun c_29 => ?_) (fun c_29 => ?_)
        · -- on
          refine lv_iinc (v := 7) (lv' := [(3, .int 7), (2, .ref q_3), (1, .ref q_1), (0, .ref b)]) hx hb dL_law_730 hl (k := 0) rfl (by decide) (by decide) rfl (fun ls1 hl1 => ?_)
          replace hl := hl1; clear hl1
          refine lv_goto (tgt := 18) hx hb dL_law_733 (by decide) ?_
          refine lv_iload_n hx hb dL_law_18 rfl (lv_at hl 0 rfl) ?_
          refine lv_aload_n hx hb dL_law_19 rfl (lv_at hl 3 rfl) ?_
          refine va_slen hx hb hX hbl hbA hS dL_law_20 ?_
          refine lv_bipush (v := 7) hx hb dL_law_21 (by decide) ?_
          refine lv_isub hx hb dL_law_23 ?_
          refine my_topi (y := 0) (by decide) ?_
          refine lv_icmp_gt (tgt := 736) hx hb dL_law_24 (by decide) (fun c_0 => ?_) (fun c_0 => ?_)
          · -- end
            refine lv_iconst (v := 1) hx hb dL_law_736 (by decide) ?_
            refine va_forget (fun q hq => hS.2.2 q hq) ?_
            refine W.widen (k := 64) (n := 6560) (Nat.le_of_ble_eq_true rfl) (Nat.le_of_ble_eq_true rfl) ?_
            exact lw_ret hx hb hr hlocks dL_law_737
          · exact absurd (by decide) c_0
        · exact absurd (two_eq hw_27 hw_28) c_29
      · -- case 8
        refine lv_tableIn (tgt := 354) (off := 321) hx hb dL_law_33 (by omega) (by omega) (by rw [sv_5]; rfl) (by decide) ?_
        replace hP := hP.sub (ws' := [(q_1, .inr (4, [.ref (u_2 0), .ref (u_2 3), .ref (u_2 28), .int 0])), ((u_2 0), .inr (3, [.ref (u_2 1), .ref (u_2 2), .int 0])), (q_3, .inr (5, [.int 0, .ref (u_4 0), .ref (u_4 1), .ref (u_4 2), .ref (u_4 3), .ref (u_4 4), .ref (u_4 5), .ref (u_4 6), .ref (u_4 7), .ref (u_4 8), .ref (u_4 9), .ref (u_4 10), .ref (u_4 11), .ref (u_4 12), .ref (u_4 13), .ref (u_4 14), .ref (u_4 15), .ref (u_4 16), .ref (u_4 17), .ref (u_4 18), .ref (u_4 19), .int 0, .int 0, .int 0, .int (-1), .ref (u_4 20), .ref (u_4 21), .ref (u_4 22), .ref (u_4 23), .ref (u_4 24), .ref (u_4 25), .long 0, .long 0, .long 0, .ref (u_4 26), .ref (u_4 27)]))]) [0, 1, 35] rfl
        replace hD := hD.sub (ws' := [(q_1, .inr (4, [.ref (u_2 0), .ref (u_2 3), .ref (u_2 28), .int 0])), ((u_2 0), .inr (3, [.ref (u_2 1), .ref (u_2 2), .int 0])), (q_3, .inr (5, [.int 0, .ref (u_4 0), .ref (u_4 1), .ref (u_4 2), .ref (u_4 3), .ref (u_4 4), .ref (u_4 5), .ref (u_4 6), .ref (u_4 7), .ref (u_4 8), .ref (u_4 9), .ref (u_4 10), .ref (u_4 11), .ref (u_4 12), .ref (u_4 13), .ref (u_4 14), .ref (u_4 15), .ref (u_4 16), .ref (u_4 17), .ref (u_4 18), .ref (u_4 19), .int 0, .int 0, .int 0, .int (-1), .ref (u_4 20), .ref (u_4 21), .ref (u_4 22), .ref (u_4 23), .ref (u_4 24), .ref (u_4 25), .long 0, .long 0, .long 0, .ref (u_4 26), .ref (u_4 27)]))]) [0, 1, 35] (by decide) rfl
        refine lv_aload_n hx hb dL_law_354 rfl (lv_at hl 2 rfl) ?_
        refine lv_aload_n hx hb dL_law_355 rfl (lv_at hl 3 rfl) ?_
        refine lv_iload_n hx hb dL_law_356 rfl (lv_at hl 0 rfl) ?_
        refine lv_iconst (v := 1) hx hb dL_law_357 (by decide) ?_
        refine lv_iadd hx hb dL_law_358 ?_
        refine my_topi (y := 1) (by decide) ?_
        refine va_sld hx hb hX hbl hbA hS (vp_in_iff.mpr (by decide)) dL_law_359 ?_
        refine lv_aload_n hx hb dL_law_360 rfl (lv_at hl 3 rfl) ?_
        refine lv_iload_n hx hb dL_law_361 rfl (lv_at hl 0 rfl) ?_
        refine lv_iconst (v := 2) hx hb dL_law_362 (by decide) ?_
        refine lv_iadd hx hb dL_law_363 ?_
        refine my_topi (y := 2) (by decide) ?_
        refine va_sld hx hb hX hbl hbA hS (vp_in_iff.mpr (by decide)) dL_law_364 ?_
        have hPc := hP.sub (ws' := [(q_1, .inr (4, [.ref (u_2 0), .ref (u_2 3), .ref (u_2 28), .int 0])), ((u_2 0), .inr (3, [.ref (u_2 1), .ref (u_2 2), .int 0]))]) [0, 1] rfl
        have hDc := hD.sub (ws' := [(q_1, .inr (4, [.ref (u_2 0), .ref (u_2 3), .ref (u_2 28), .int 0])), ((u_2 0), .inr (3, [.ref (u_2 1), .ref (u_2 2), .int 0]))]) [0, 1] (by decide) rfl
        have hFc := va_free (wc := [(q_1, .inr (4, [.ref (u_2 0), .ref (u_2 3), .ref (u_2 28), .int 0])), ((u_2 0), .inr (3, [.ref (u_2 1), .ref (u_2 2), .int 0]))]) hD hS hA [0, 1] rfl
        refine va_calli (va_runV (As := [.int (xs (1 : Int32).toNatClampNeg), .int (xs (2 : Int32).toNatClampNeg)]) (rest := []) ⟨hx, hb, hml, hown, hts⟩ (c_X4_means l dC dI cI cJ cZ q_1 (.ref (u_2 3)) (.ref (u_2 28)) (.int 0) (u_2 0) (.ref (u_2 1)) (.ref (u_2 2)) (xs (1 : Int32).toNatClampNeg) (xs (2 : Int32).toNatClampNeg) H_4.size) (cwV 2 hts g_L_law_X4_means_49 rfl rfl rfl (by decide +kernel) ⟨Nat.le_of_ble_eq_true rfl, Nat.le_of_ble_eq_true rfl⟩) ⟨cPre_blind, va_recv hK hPc (ci := 4) (q0 := 0) rfl rfl, cPre_of hK hN hPc hDc⟩ rfl rfl hl.1 rfl (lv_room (Nat.le_of_ble_eq_true rfl)) dL_law_365 ⟨Nat.le_of_ble_eq_true rfl, Nat.le_of_ble_eq_true rfl⟩) hS (fun q _ h => hFc q h) hFc (fun r_30 u_30 t_30 H_30 locs_30 ht hvm hw_30 hB hz1 hk1 hS1 => ?_)
        obtain ⟨hP1, hK1, hD1⟩ := hB
        rw [ht] at hP1
        obtain ⟨hP2, hD2⟩ := va_join (wr := [(q_3, .inr (5, [.int 0, .ref (u_4 0), .ref (u_4 1), .ref (u_4 2), .ref (u_4 3), .ref (u_4 4), .ref (u_4 5), .ref (u_4 6), .ref (u_4 7), .ref (u_4 8), .ref (u_4 9), .ref (u_4 10), .ref (u_4 11), .ref (u_4 12), .ref (u_4 13), .ref (u_4 14), .ref (u_4 15), .ref (u_4 16), .ref (u_4 17), .ref (u_4 18), .ref (u_4 19), .int 0, .int 0, .int 0, .int (-1), .ref (u_4 20), .ref (u_4 21), .ref (u_4 22), .ref (u_4 23), .ref (u_4 24), .ref (u_4 25), .long 0, .long 0, .long 0, .ref (u_4 26), .ref (u_4 27)]))]) (w1 := []) hP hD [0, 1] [2] rfl rfl (by decide) (by decide) hk1 hFc hP1 hD1
        clear hPc hDc hFc hP1 hD1 hK1 hk1 hz1 hvm ht
        replace hP : va_P (dC, dI) vwCl [(q_3, .inr (5, [.int 0, .ref (u_4 0), .ref (u_4 1), .ref (u_4 2), .ref (u_4 3), .ref (u_4 4), .ref (u_4 5), .ref (u_4 6), .ref (u_4 7), .ref (u_4 8), .ref (u_4 9), .ref (u_4 10), .ref (u_4 11), .ref (u_4 12), .ref (u_4 13), .ref (u_4 14), .ref (u_4 15), .ref (u_4 16), .ref (u_4 17), .ref (u_4 18), .ref (u_4 19), .int 0, .int 0, .int 0, .int (-1), .ref (u_4 20), .ref (u_4 21), .ref (u_4 22), .ref (u_4 23), .ref (u_4 24), .ref (u_4 25), .long 0, .long 0, .long 0, .ref (u_4 26), .ref (u_4 27)]))] H_30 := hP2
        replace hD : va_D (fun q : Nat => s.heap.size ≤ q) [(q_3, .inr (5, [.int 0, .ref (u_4 0), .ref (u_4 1), .ref (u_4 2), .ref (u_4 3), .ref (u_4 4), .ref (u_4 5), .ref (u_4 6), .ref (u_4 7), .ref (u_4 8), .ref (u_4 9), .ref (u_4 10), .ref (u_4 11), .ref (u_4 12), .ref (u_4 13), .ref (u_4 14), .ref (u_4 15), .ref (u_4 16), .ref (u_4 17), .ref (u_4 18), .ref (u_4 19), .int 0, .int 0, .int 0, .int (-1), .ref (u_4 20), .ref (u_4 21), .ref (u_4 22), .ref (u_4 23), .ref (u_4 24), .ref (u_4 25), .long 0, .long 0, .long 0, .ref (u_4 26), .ref (u_4 27)]))] := hD2
        replace hS := hS1
        clear hP2 hD2 hS1
        refine my_topi (y := (-2)) hw_30 ?_
        refine lv_aload_n hx hb dL_law_368 rfl (lv_at hl 1 rfl) ?_
        refine lv_aload_n hx hb dL_law_369 rfl (lv_at hl 3 rfl) ?_
        refine lv_iload_n hx hb dL_law_370 rfl (lv_at hl 0 rfl) ?_
        refine lv_iconst (v := 1) hx hb dL_law_371 (by decide) ?_
        refine lv_iadd hx hb dL_law_372 ?_
        refine my_topi (y := 1) (by decide) ?_
        refine va_sld hx hb hX hbl hbA hS (vp_in_iff.mpr (by decide)) dL_law_373 ?_
        refine lv_aload_n hx hb dL_law_374 rfl (lv_at hl 3 rfl) ?_
        refine lv_iload_n hx hb dL_law_375 rfl (lv_at hl 0 rfl) ?_
        refine lv_iconst (v := 2) hx hb dL_law_376 (by decide) ?_
        refine lv_iadd hx hb dL_law_377 ?_
        refine my_topi (y := 2) (by decide) ?_
        refine va_sld hx hb hX hbl hbA hS (vp_in_iff.mpr (by decide)) dL_law_378 ?_
        have hPc := hP.sub (ws' := [(q_3, .inr (5, [.int 0, .ref (u_4 0), .ref (u_4 1), .ref (u_4 2), .ref (u_4 3), .ref (u_4 4), .ref (u_4 5), .ref (u_4 6), .ref (u_4 7), .ref (u_4 8), .ref (u_4 9), .ref (u_4 10), .ref (u_4 11), .ref (u_4 12), .ref (u_4 13), .ref (u_4 14), .ref (u_4 15), .ref (u_4 16), .ref (u_4 17), .ref (u_4 18), .ref (u_4 19), .int 0, .int 0, .int 0, .int (-1), .ref (u_4 20), .ref (u_4 21), .ref (u_4 22), .ref (u_4 23), .ref (u_4 24), .ref (u_4 25), .long 0, .long 0, .long 0, .ref (u_4 26), .ref (u_4 27)]))]) [0] rfl
        have hDc := hD.sub (ws' := [(q_3, .inr (5, [.int 0, .ref (u_4 0), .ref (u_4 1), .ref (u_4 2), .ref (u_4 3), .ref (u_4 4), .ref (u_4 5), .ref (u_4 6), .ref (u_4 7), .ref (u_4 8), .ref (u_4 9), .ref (u_4 10), .ref (u_4 11), .ref (u_4 12), .ref (u_4 13), .ref (u_4 14), .ref (u_4 15), .ref (u_4 16), .ref (u_4 17), .ref (u_4 18), .ref (u_4 19), .int 0, .int 0, .int 0, .int (-1), .ref (u_4 20), .ref (u_4 21), .ref (u_4 22), .ref (u_4 23), .ref (u_4 24), .ref (u_4 25), .long 0, .long 0, .long 0, .ref (u_4 26), .ref (u_4 27)]))]) [0] (by decide) rfl
        have hFc := va_free (wc := [(q_3, .inr (5, [.int 0, .ref (u_4 0), .ref (u_4 1), .ref (u_4 2), .ref (u_4 3), .ref (u_4 4), .ref (u_4 5), .ref (u_4 6), .ref (u_4 7), .ref (u_4 8), .ref (u_4 9), .ref (u_4 10), .ref (u_4 11), .ref (u_4 12), .ref (u_4 13), .ref (u_4 14), .ref (u_4 15), .ref (u_4 16), .ref (u_4 17), .ref (u_4 18), .ref (u_4 19), .int 0, .int 0, .int 0, .int (-1), .ref (u_4 20), .ref (u_4 21), .ref (u_4 22), .ref (u_4 23), .ref (u_4 24), .ref (u_4 25), .long 0, .long 0, .long 0, .ref (u_4 26), .ref (u_4 27)]))]) hD hS hA [0] rfl
        refine va_calli (va_runV (As := [.int (xs (1 : Int32).toNatClampNeg), .int (xs (2 : Int32).toNatClampNeg)]) (rest := [.int (-2)]) ⟨hx, hb, hml, hown, hts⟩ (c_X5_means l dC dI cI cJ cZ q_3 (.ref (u_4 0)) (.ref (u_4 1)) (.ref (u_4 2)) (.ref (u_4 3)) (.ref (u_4 4)) (.ref (u_4 5)) (.ref (u_4 6)) (.ref (u_4 7)) (.ref (u_4 8)) (.ref (u_4 9)) (.ref (u_4 10)) (.ref (u_4 11)) (.ref (u_4 12)) (.ref (u_4 13)) (.ref (u_4 14)) (.ref (u_4 15)) (.ref (u_4 16)) (.ref (u_4 17)) (.ref (u_4 18)) (.ref (u_4 19)) (.int 0) (.int 0) (.int 0) (.int (-1)) (.ref (u_4 20)) (.ref (u_4 21)) (.ref (u_4 22)) (.ref (u_4 23)) (.ref (u_4 24)) (.ref (u_4 25)) (.long 0) (.long 0) (.long 0) (.ref (u_4 26)) (.ref (u_4 27)) (xs (1 : Int32).toNatClampNeg) (xs (2 : Int32).toNatClampNeg) H_30.size) (cwV 2 hts g_L_law_X5_means_52 rfl rfl rfl (by decide +kernel) ⟨Nat.le_of_ble_eq_true rfl, Nat.le_of_ble_eq_true rfl⟩) ⟨cPre_blind, va_recv hK hPc (ci := 5) (q0 := 0) rfl rfl, cPre_of hK hN hPc hDc⟩ rfl rfl hl.1 rfl (lv_room (Nat.le_of_ble_eq_true rfl)) dL_law_379 ⟨Nat.le_of_ble_eq_true rfl, Nat.le_of_ble_eq_true rfl⟩) hS (fun q _ h => hFc q h) hFc (fun r_31 u_31 t_31 H_31 locs_31 ht hvm hw_31 hB hz1 hk1 hS1 => ?_)
        obtain ⟨hP1, hK1, hD1⟩ := hB
        rw [ht] at hP1
        obtain ⟨hP2, hD2⟩ := va_join (wr := []) (w1 := []) hP hD [0] [] rfl rfl (by decide) (by decide) hk1 hFc hP1 hD1
        clear hPc hDc hFc hP1 hD1 hK1 hk1 hz1 hvm ht
        replace hP : va_P (dC, dI) vwCl [] H_31 := hP2
        replace hD : va_D (fun q : Nat => s.heap.size ≤ q) [] := hD2
        replace hS := hS1
        clear hP2 hD2 hS1
        refine my_topi (y := (-2)) hw_31 ?_
        refine lv_icmp_eq (tgt := 730) hx hb dL_law_382 (by decide) (fun c_32 => ?_) (fun c_32 => ?_)
        · -- on
          refine lv_iinc (v := 7) (lv' := [(3, .int 7), (2, .ref q_3), (1, .ref q_1), (0, .ref b)]) hx hb dL_law_730 hl (k := 0) rfl (by decide) (by decide) rfl (fun ls1 hl1 => ?_)
          replace hl := hl1; clear hl1
          refine lv_goto (tgt := 18) hx hb dL_law_733 (by decide) ?_
          refine lv_iload_n hx hb dL_law_18 rfl (lv_at hl 0 rfl) ?_
          refine lv_aload_n hx hb dL_law_19 rfl (lv_at hl 3 rfl) ?_
          refine va_slen hx hb hX hbl hbA hS dL_law_20 ?_
          refine lv_bipush (v := 7) hx hb dL_law_21 (by decide) ?_
          refine lv_isub hx hb dL_law_23 ?_
          refine my_topi (y := 0) (by decide) ?_
          refine lv_icmp_gt (tgt := 736) hx hb dL_law_24 (by decide) (fun c_0 => ?_) (fun c_0 => ?_)
          · -- end
            refine lv_iconst (v := 1) hx hb dL_law_736 (by decide) ?_
            refine va_forget (fun q hq => hS.2.2 q hq) ?_
            refine W.widen (k := 64) (n := 6560) (Nat.le_of_ble_eq_true rfl) (Nat.le_of_ble_eq_true rfl) ?_
            exact lw_ret hx hb hr hlocks dL_law_737
          · exact absurd (by decide) c_0
        · exact absurd (by decide) c_32
      · -- case 9
        refine lv_tableIn (tgt := 387) (off := 354) hx hb dL_law_33 (by omega) (by omega) (by rw [sv_5]; rfl) (by decide) ?_
        replace hP := hP.sub (ws' := [(q_1, .inr (4, [.ref (u_2 0), .ref (u_2 3), .ref (u_2 28), .int 0])), ((u_2 0), .inr (3, [.ref (u_2 1), .ref (u_2 2), .int 0])), (q_3, .inr (5, [.int 0, .ref (u_4 0), .ref (u_4 1), .ref (u_4 2), .ref (u_4 3), .ref (u_4 4), .ref (u_4 5), .ref (u_4 6), .ref (u_4 7), .ref (u_4 8), .ref (u_4 9), .ref (u_4 10), .ref (u_4 11), .ref (u_4 12), .ref (u_4 13), .ref (u_4 14), .ref (u_4 15), .ref (u_4 16), .ref (u_4 17), .ref (u_4 18), .ref (u_4 19), .int 0, .int 0, .int 0, .int (-1), .ref (u_4 20), .ref (u_4 21), .ref (u_4 22), .ref (u_4 23), .ref (u_4 24), .ref (u_4 25), .long 0, .long 0, .long 0, .ref (u_4 26), .ref (u_4 27)]))]) [0, 1, 35] rfl
        replace hD := hD.sub (ws' := [(q_1, .inr (4, [.ref (u_2 0), .ref (u_2 3), .ref (u_2 28), .int 0])), ((u_2 0), .inr (3, [.ref (u_2 1), .ref (u_2 2), .int 0])), (q_3, .inr (5, [.int 0, .ref (u_4 0), .ref (u_4 1), .ref (u_4 2), .ref (u_4 3), .ref (u_4 4), .ref (u_4 5), .ref (u_4 6), .ref (u_4 7), .ref (u_4 8), .ref (u_4 9), .ref (u_4 10), .ref (u_4 11), .ref (u_4 12), .ref (u_4 13), .ref (u_4 14), .ref (u_4 15), .ref (u_4 16), .ref (u_4 17), .ref (u_4 18), .ref (u_4 19), .int 0, .int 0, .int 0, .int (-1), .ref (u_4 20), .ref (u_4 21), .ref (u_4 22), .ref (u_4 23), .ref (u_4 24), .ref (u_4 25), .long 0, .long 0, .long 0, .ref (u_4 26), .ref (u_4 27)]))]) [0, 1, 35] (by decide) rfl
        refine lv_aload_n hx hb dL_law_387 rfl (lv_at hl 2 rfl) ?_
        refine lv_aload_n hx hb dL_law_388 rfl (lv_at hl 3 rfl) ?_
        refine lv_iload_n hx hb dL_law_389 rfl (lv_at hl 0 rfl) ?_
        refine lv_iconst (v := 1) hx hb dL_law_390 (by decide) ?_
        refine lv_iadd hx hb dL_law_391 ?_
        refine my_topi (y := 1) (by decide) ?_
        refine va_sld hx hb hX hbl hbA hS (vp_in_iff.mpr (by decide)) dL_law_392 ?_
        refine lv_aload_n hx hb dL_law_393 rfl (lv_at hl 3 rfl) ?_
        refine lv_iload_n hx hb dL_law_394 rfl (lv_at hl 0 rfl) ?_
        refine lv_iconst (v := 2) hx hb dL_law_395 (by decide) ?_
        refine lv_iadd hx hb dL_law_396 ?_
        refine my_topi (y := 2) (by decide) ?_
        refine va_sld hx hb hX hbl hbA hS (vp_in_iff.mpr (by decide)) dL_law_397 ?_
        have hPc := hP.sub (ws' := [(q_1, .inr (4, [.ref (u_2 0), .ref (u_2 3), .ref (u_2 28), .int 0])), ((u_2 0), .inr (3, [.ref (u_2 1), .ref (u_2 2), .int 0]))]) [0, 1] rfl
        have hDc := hD.sub (ws' := [(q_1, .inr (4, [.ref (u_2 0), .ref (u_2 3), .ref (u_2 28), .int 0])), ((u_2 0), .inr (3, [.ref (u_2 1), .ref (u_2 2), .int 0]))]) [0, 1] (by decide) rfl
        have hFc := va_free (wc := [(q_1, .inr (4, [.ref (u_2 0), .ref (u_2 3), .ref (u_2 28), .int 0])), ((u_2 0), .inr (3, [.ref (u_2 1), .ref (u_2 2), .int 0]))]) hD hS hA [0, 1] rfl
        refine va_calli (va_runV (As := [.int (xs (1 : Int32).toNatClampNeg), .int (xs (2 : Int32).toNatClampNeg)]) (rest := []) ⟨hx, hb, hml, hown, hts⟩ (c_X4_array l dC dI cI cJ cZ q_1 (.ref (u_2 3)) (.ref (u_2 28)) (.int 0) (u_2 0) (.ref (u_2 1)) (.ref (u_2 2)) (xs (1 : Int32).toNatClampNeg) (xs (2 : Int32).toNatClampNeg) H_4.size) (cwV 2 hts g_L_law_X4_array_53 rfl rfl rfl (by decide +kernel) ⟨Nat.le_of_ble_eq_true rfl, Nat.le_of_ble_eq_true rfl⟩) ⟨cPre_blind, va_recv hK hPc (ci := 4) (q0 := 0) rfl rfl, cPre_of hK hN hPc hDc⟩ rfl rfl hl.1 rfl (lv_room (Nat.le_of_ble_eq_true rfl)) dL_law_398 ⟨Nat.le_of_ble_eq_true rfl, Nat.le_of_ble_eq_true rfl⟩) hS (fun q _ h => hFc q h) hFc (fun r_33 u_33 t_33 H_33 locs_33 ht hvm hw_33 hB hz1 hk1 hS1 => ?_)
        obtain ⟨hP1, hK1, hD1⟩ := hB
        rw [ht] at hP1
        obtain ⟨hP2, hD2⟩ := va_join (wr := [(q_3, .inr (5, [.int 0, .ref (u_4 0), .ref (u_4 1), .ref (u_4 2), .ref (u_4 3), .ref (u_4 4), .ref (u_4 5), .ref (u_4 6), .ref (u_4 7), .ref (u_4 8), .ref (u_4 9), .ref (u_4 10), .ref (u_4 11), .ref (u_4 12), .ref (u_4 13), .ref (u_4 14), .ref (u_4 15), .ref (u_4 16), .ref (u_4 17), .ref (u_4 18), .ref (u_4 19), .int 0, .int 0, .int 0, .int (-1), .ref (u_4 20), .ref (u_4 21), .ref (u_4 22), .ref (u_4 23), .ref (u_4 24), .ref (u_4 25), .long 0, .long 0, .long 0, .ref (u_4 26), .ref (u_4 27)]))]) (w1 := []) hP hD [0, 1] [2] rfl rfl (by decide) (by decide) hk1 hFc hP1 hD1
        clear hPc hDc hFc hP1 hD1 hK1 hk1 hz1 hvm ht
        replace hP : va_P (dC, dI) vwCl [(q_3, .inr (5, [.int 0, .ref (u_4 0), .ref (u_4 1), .ref (u_4 2), .ref (u_4 3), .ref (u_4 4), .ref (u_4 5), .ref (u_4 6), .ref (u_4 7), .ref (u_4 8), .ref (u_4 9), .ref (u_4 10), .ref (u_4 11), .ref (u_4 12), .ref (u_4 13), .ref (u_4 14), .ref (u_4 15), .ref (u_4 16), .ref (u_4 17), .ref (u_4 18), .ref (u_4 19), .int 0, .int 0, .int 0, .int (-1), .ref (u_4 20), .ref (u_4 21), .ref (u_4 22), .ref (u_4 23), .ref (u_4 24), .ref (u_4 25), .long 0, .long 0, .long 0, .ref (u_4 26), .ref (u_4 27)]))] H_33 := hP2
        replace hD : va_D (fun q : Nat => s.heap.size ≤ q) [(q_3, .inr (5, [.int 0, .ref (u_4 0), .ref (u_4 1), .ref (u_4 2), .ref (u_4 3), .ref (u_4 4), .ref (u_4 5), .ref (u_4 6), .ref (u_4 7), .ref (u_4 8), .ref (u_4 9), .ref (u_4 10), .ref (u_4 11), .ref (u_4 12), .ref (u_4 13), .ref (u_4 14), .ref (u_4 15), .ref (u_4 16), .ref (u_4 17), .ref (u_4 18), .ref (u_4 19), .int 0, .int 0, .int 0, .int (-1), .ref (u_4 20), .ref (u_4 21), .ref (u_4 22), .ref (u_4 23), .ref (u_4 24), .ref (u_4 25), .long 0, .long 0, .long 0, .ref (u_4 26), .ref (u_4 27)]))] := hD2
        replace hS := hS1
        clear hP2 hD2 hS1
        refine my_topi (y := (-2)) hw_33 ?_
        refine lv_aload_n hx hb dL_law_401 rfl (lv_at hl 1 rfl) ?_
        refine lv_aload_n hx hb dL_law_402 rfl (lv_at hl 3 rfl) ?_
        refine lv_iload_n hx hb dL_law_403 rfl (lv_at hl 0 rfl) ?_
        refine lv_iconst (v := 1) hx hb dL_law_404 (by decide) ?_
        refine lv_iadd hx hb dL_law_405 ?_
        refine my_topi (y := 1) (by decide) ?_
        refine va_sld hx hb hX hbl hbA hS (vp_in_iff.mpr (by decide)) dL_law_406 ?_
        refine lv_aload_n hx hb dL_law_407 rfl (lv_at hl 3 rfl) ?_
        refine lv_iload_n hx hb dL_law_408 rfl (lv_at hl 0 rfl) ?_
        refine lv_iconst (v := 2) hx hb dL_law_409 (by decide) ?_
        refine lv_iadd hx hb dL_law_410 ?_
        refine my_topi (y := 2) (by decide) ?_
        refine va_sld hx hb hX hbl hbA hS (vp_in_iff.mpr (by decide)) dL_law_411 ?_
        have hPc := hP.sub (ws' := [(q_3, .inr (5, [.int 0, .ref (u_4 0), .ref (u_4 1), .ref (u_4 2), .ref (u_4 3), .ref (u_4 4), .ref (u_4 5), .ref (u_4 6), .ref (u_4 7), .ref (u_4 8), .ref (u_4 9), .ref (u_4 10), .ref (u_4 11), .ref (u_4 12), .ref (u_4 13), .ref (u_4 14), .ref (u_4 15), .ref (u_4 16), .ref (u_4 17), .ref (u_4 18), .ref (u_4 19), .int 0, .int 0, .int 0, .int (-1), .ref (u_4 20), .ref (u_4 21), .ref (u_4 22), .ref (u_4 23), .ref (u_4 24), .ref (u_4 25), .long 0, .long 0, .long 0, .ref (u_4 26), .ref (u_4 27)]))]) [0] rfl
        have hDc := hD.sub (ws' := [(q_3, .inr (5, [.int 0, .ref (u_4 0), .ref (u_4 1), .ref (u_4 2), .ref (u_4 3), .ref (u_4 4), .ref (u_4 5), .ref (u_4 6), .ref (u_4 7), .ref (u_4 8), .ref (u_4 9), .ref (u_4 10), .ref (u_4 11), .ref (u_4 12), .ref (u_4 13), .ref (u_4 14), .ref (u_4 15), .ref (u_4 16), .ref (u_4 17), .ref (u_4 18), .ref (u_4 19), .int 0, .int 0, .int 0, .int (-1), .ref (u_4 20), .ref (u_4 21), .ref (u_4 22), .ref (u_4 23), .ref (u_4 24), .ref (u_4 25), .long 0, .long 0, .long 0, .ref (u_4 26), .ref (u_4 27)]))]) [0] (by decide) rfl
        have hFc := va_free (wc := [(q_3, .inr (5, [.int 0, .ref (u_4 0), .ref (u_4 1), .ref (u_4 2), .ref (u_4 3), .ref (u_4 4), .ref (u_4 5), .ref (u_4 6), .ref (u_4 7), .ref (u_4 8), .ref (u_4 9), .ref (u_4 10), .ref (u_4 11), .ref (u_4 12), .ref (u_4 13), .ref (u_4 14), .ref (u_4 15), .ref (u_4 16), .ref (u_4 17), .ref (u_4 18), .ref (u_4 19), .int 0, .int 0, .int 0, .int (-1), .ref (u_4 20), .ref (u_4 21), .ref (u_4 22), .ref (u_4 23), .ref (u_4 24), .ref (u_4 25), .long 0, .long 0, .long 0, .ref (u_4 26), .ref (u_4 27)]))]) hD hS hA [0] rfl
        refine va_calli (va_runV (As := [.int (xs (1 : Int32).toNatClampNeg), .int (xs (2 : Int32).toNatClampNeg)]) (rest := [.int (-2)]) ⟨hx, hb, hml, hown, hts⟩ (c_X5_array l dC dI cI cJ cZ q_3 (.ref (u_4 0)) (.ref (u_4 1)) (.ref (u_4 2)) (.ref (u_4 3)) (.ref (u_4 4)) (.ref (u_4 5)) (.ref (u_4 6)) (.ref (u_4 7)) (.ref (u_4 8)) (.ref (u_4 9)) (.ref (u_4 10)) (.ref (u_4 11)) (.ref (u_4 12)) (.ref (u_4 13)) (.ref (u_4 14)) (.ref (u_4 15)) (.ref (u_4 16)) (.ref (u_4 17)) (.ref (u_4 18)) (.ref (u_4 19)) (.int 0) (.int 0) (.int 0) (.int (-1)) (.ref (u_4 20)) (.ref (u_4 21)) (.ref (u_4 22)) (.ref (u_4 23)) (.ref (u_4 24)) (.ref (u_4 25)) (.long 0) (.long 0) (.long 0) (.ref (u_4 26)) (.ref (u_4 27)) (xs (1 : Int32).toNatClampNeg) (xs (2 : Int32).toNatClampNeg) H_33.size) (cwV 2 hts g_L_law_X5_array_56 rfl rfl rfl (by decide +kernel) ⟨Nat.le_of_ble_eq_true rfl, Nat.le_of_ble_eq_true rfl⟩) ⟨cPre_blind, va_recv hK hPc (ci := 5) (q0 := 0) rfl rfl, cPre_of hK hN hPc hDc⟩ rfl rfl hl.1 rfl (lv_room (Nat.le_of_ble_eq_true rfl)) dL_law_412 ⟨Nat.le_of_ble_eq_true rfl, Nat.le_of_ble_eq_true rfl⟩) hS (fun q _ h => hFc q h) hFc (fun r_34 u_34 t_34 H_34 locs_34 ht hvm hw_34 hB hz1 hk1 hS1 => ?_)
        obtain ⟨hP1, hK1, hD1⟩ := hB
        rw [ht] at hP1
        obtain ⟨hP2, hD2⟩ := va_join (wr := []) (w1 := []) hP hD [0] [] rfl rfl (by decide) (by decide) hk1 hFc hP1 hD1
        clear hPc hDc hFc hP1 hD1 hK1 hk1 hz1 hvm ht
        replace hP : va_P (dC, dI) vwCl [] H_34 := hP2
        replace hD : va_D (fun q : Nat => s.heap.size ≤ q) [] := hD2
        replace hS := hS1
        clear hP2 hD2 hS1
        refine my_topi (y := (-2)) hw_34 ?_
        refine lv_icmp_eq (tgt := 730) hx hb dL_law_415 (by decide) (fun c_35 => ?_) (fun c_35 => ?_)
        · -- on
          refine lv_iinc (v := 7) (lv' := [(3, .int 7), (2, .ref q_3), (1, .ref q_1), (0, .ref b)]) hx hb dL_law_730 hl (k := 0) rfl (by decide) (by decide) rfl (fun ls1 hl1 => ?_)
          replace hl := hl1; clear hl1
          refine lv_goto (tgt := 18) hx hb dL_law_733 (by decide) ?_
          refine lv_iload_n hx hb dL_law_18 rfl (lv_at hl 0 rfl) ?_
          refine lv_aload_n hx hb dL_law_19 rfl (lv_at hl 3 rfl) ?_
          refine va_slen hx hb hX hbl hbA hS dL_law_20 ?_
          refine lv_bipush (v := 7) hx hb dL_law_21 (by decide) ?_
          refine lv_isub hx hb dL_law_23 ?_
          refine my_topi (y := 0) (by decide) ?_
          refine lv_icmp_gt (tgt := 736) hx hb dL_law_24 (by decide) (fun c_0 => ?_) (fun c_0 => ?_)
          · -- end
            refine lv_iconst (v := 1) hx hb dL_law_736 (by decide) ?_
            refine va_forget (fun q hq => hS.2.2 q hq) ?_
            refine W.widen (k := 64) (n := 6560) (Nat.le_of_ble_eq_true rfl) (Nat.le_of_ble_eq_true rfl) ?_
            exact lw_ret hx hb hr hlocks dL_law_737
          · exact absurd (by decide) c_0
        · exact absurd (by decide) c_35
      · -- case 10
        refine lv_tableIn (tgt := 420) (off := 387) hx hb dL_law_33 (by omega) (by omega) (by rw [sv_5]; rfl) (by decide) ?_
        replace hP := hP.sub (ws' := [(q_1, .inr (4, [.ref (u_2 0), .ref (u_2 3), .ref (u_2 28), .int 0])), ((u_2 0), .inr (3, [.ref (u_2 1), .ref (u_2 2), .int 0])), (q_3, .inr (5, [.int 0, .ref (u_4 0), .ref (u_4 1), .ref (u_4 2), .ref (u_4 3), .ref (u_4 4), .ref (u_4 5), .ref (u_4 6), .ref (u_4 7), .ref (u_4 8), .ref (u_4 9), .ref (u_4 10), .ref (u_4 11), .ref (u_4 12), .ref (u_4 13), .ref (u_4 14), .ref (u_4 15), .ref (u_4 16), .ref (u_4 17), .ref (u_4 18), .ref (u_4 19), .int 0, .int 0, .int 0, .int (-1), .ref (u_4 20), .ref (u_4 21), .ref (u_4 22), .ref (u_4 23), .ref (u_4 24), .ref (u_4 25), .long 0, .long 0, .long 0, .ref (u_4 26), .ref (u_4 27)]))]) [0, 1, 35] rfl
        replace hD := hD.sub (ws' := [(q_1, .inr (4, [.ref (u_2 0), .ref (u_2 3), .ref (u_2 28), .int 0])), ((u_2 0), .inr (3, [.ref (u_2 1), .ref (u_2 2), .int 0])), (q_3, .inr (5, [.int 0, .ref (u_4 0), .ref (u_4 1), .ref (u_4 2), .ref (u_4 3), .ref (u_4 4), .ref (u_4 5), .ref (u_4 6), .ref (u_4 7), .ref (u_4 8), .ref (u_4 9), .ref (u_4 10), .ref (u_4 11), .ref (u_4 12), .ref (u_4 13), .ref (u_4 14), .ref (u_4 15), .ref (u_4 16), .ref (u_4 17), .ref (u_4 18), .ref (u_4 19), .int 0, .int 0, .int 0, .int (-1), .ref (u_4 20), .ref (u_4 21), .ref (u_4 22), .ref (u_4 23), .ref (u_4 24), .ref (u_4 25), .long 0, .long 0, .long 0, .ref (u_4 26), .ref (u_4 27)]))]) [0, 1, 35] (by decide) rfl
        refine lv_aload_n hx hb dL_law_420 rfl (lv_at hl 2 rfl) ?_
        refine lv_aload_n hx hb dL_law_421 rfl (lv_at hl 3 rfl) ?_
        refine lv_iload_n hx hb dL_law_422 rfl (lv_at hl 0 rfl) ?_
        refine lv_iconst (v := 1) hx hb dL_law_423 (by decide) ?_
        refine lv_iadd hx hb dL_law_424 ?_
        refine my_topi (y := 1) (by decide) ?_
        refine va_sld hx hb hX hbl hbA hS (vp_in_iff.mpr (by decide)) dL_law_425 ?_
        refine lv_aload_n hx hb dL_law_426 rfl (lv_at hl 3 rfl) ?_
        refine lv_iload_n hx hb dL_law_427 rfl (lv_at hl 0 rfl) ?_
        refine lv_iconst (v := 2) hx hb dL_law_428 (by decide) ?_
        refine lv_iadd hx hb dL_law_429 ?_
        refine my_topi (y := 2) (by decide) ?_
        refine va_sld hx hb hX hbl hbA hS (vp_in_iff.mpr (by decide)) dL_law_430 ?_
        refine lv_aload_n hx hb dL_law_431 rfl (lv_at hl 3 rfl) ?_
        refine lv_iload_n hx hb dL_law_432 rfl (lv_at hl 0 rfl) ?_
        refine lv_iconst (v := 3) hx hb dL_law_433 (by decide) ?_
        refine lv_iadd hx hb dL_law_434 ?_
        refine my_topi (y := 3) (by decide) ?_
        refine va_sld hx hb hX hbl hbA hS (vp_in_iff.mpr (by decide)) dL_law_435 ?_
        have hPc := hP.sub (ws' := [(q_1, .inr (4, [.ref (u_2 0), .ref (u_2 3), .ref (u_2 28), .int 0])), ((u_2 0), .inr (3, [.ref (u_2 1), .ref (u_2 2), .int 0]))]) [0, 1] rfl
        have hDc := hD.sub (ws' := [(q_1, .inr (4, [.ref (u_2 0), .ref (u_2 3), .ref (u_2 28), .int 0])), ((u_2 0), .inr (3, [.ref (u_2 1), .ref (u_2 2), .int 0]))]) [0, 1] (by decide) rfl
        have hFc := va_free (wc := [(q_1, .inr (4, [.ref (u_2 0), .ref (u_2 3), .ref (u_2 28), .int 0])), ((u_2 0), .inr (3, [.ref (u_2 1), .ref (u_2 2), .int 0]))]) hD hS hA [0, 1] rfl
        refine va_calli (va_runV (As := [.int (xs (1 : Int32).toNatClampNeg), .int (xs (2 : Int32).toNatClampNeg), .int (xs (3 : Int32).toNatClampNeg)]) (rest := []) ⟨hx, hb, hml, hown, hts⟩ (c_X4_segment l dC dI cI cJ cZ q_1 (.ref (u_2 3)) (.ref (u_2 28)) (.int 0) (u_2 0) (.ref (u_2 1)) (.ref (u_2 2)) (xs (1 : Int32).toNatClampNeg) (xs (2 : Int32).toNatClampNeg) (xs (3 : Int32).toNatClampNeg) H_4.size) (cwV 3 hts g_L_law_X4_segment_57 rfl rfl rfl (by decide +kernel) ⟨Nat.le_of_ble_eq_true rfl, Nat.le_of_ble_eq_true rfl⟩) ⟨cPre_blind, va_recv hK hPc (ci := 4) (q0 := 0) rfl rfl, cPre_of hK hN hPc hDc⟩ rfl rfl hl.1 rfl (lv_room (Nat.le_of_ble_eq_true rfl)) dL_law_436 ⟨Nat.le_of_ble_eq_true rfl, Nat.le_of_ble_eq_true rfl⟩) hS (fun q _ h => hFc q h) hFc (fun r_36 u_36 t_36 H_36 locs_36 ht hvm hw_36 hB hz1 hk1 hS1 => ?_)
        obtain ⟨hP1, hK1, hD1⟩ := hB
        rw [ht] at hP1
        obtain ⟨hP2, hD2⟩ := va_join (wr := [(q_3, .inr (5, [.int 0, .ref (u_4 0), .ref (u_4 1), .ref (u_4 2), .ref (u_4 3), .ref (u_4 4), .ref (u_4 5), .ref (u_4 6), .ref (u_4 7), .ref (u_4 8), .ref (u_4 9), .ref (u_4 10), .ref (u_4 11), .ref (u_4 12), .ref (u_4 13), .ref (u_4 14), .ref (u_4 15), .ref (u_4 16), .ref (u_4 17), .ref (u_4 18), .ref (u_4 19), .int 0, .int 0, .int 0, .int (-1), .ref (u_4 20), .ref (u_4 21), .ref (u_4 22), .ref (u_4 23), .ref (u_4 24), .ref (u_4 25), .long 0, .long 0, .long 0, .ref (u_4 26), .ref (u_4 27)]))]) (w1 := []) hP hD [0, 1] [2] rfl rfl (by decide) (by decide) hk1 hFc hP1 hD1
        clear hPc hDc hFc hP1 hD1 hK1 hk1 hz1 hvm ht
        replace hP : va_P (dC, dI) vwCl [(q_3, .inr (5, [.int 0, .ref (u_4 0), .ref (u_4 1), .ref (u_4 2), .ref (u_4 3), .ref (u_4 4), .ref (u_4 5), .ref (u_4 6), .ref (u_4 7), .ref (u_4 8), .ref (u_4 9), .ref (u_4 10), .ref (u_4 11), .ref (u_4 12), .ref (u_4 13), .ref (u_4 14), .ref (u_4 15), .ref (u_4 16), .ref (u_4 17), .ref (u_4 18), .ref (u_4 19), .int 0, .int 0, .int 0, .int (-1), .ref (u_4 20), .ref (u_4 21), .ref (u_4 22), .ref (u_4 23), .ref (u_4 24), .ref (u_4 25), .long 0, .long 0, .long 0, .ref (u_4 26), .ref (u_4 27)]))] H_36 := hP2
        replace hD : va_D (fun q : Nat => s.heap.size ≤ q) [(q_3, .inr (5, [.int 0, .ref (u_4 0), .ref (u_4 1), .ref (u_4 2), .ref (u_4 3), .ref (u_4 4), .ref (u_4 5), .ref (u_4 6), .ref (u_4 7), .ref (u_4 8), .ref (u_4 9), .ref (u_4 10), .ref (u_4 11), .ref (u_4 12), .ref (u_4 13), .ref (u_4 14), .ref (u_4 15), .ref (u_4 16), .ref (u_4 17), .ref (u_4 18), .ref (u_4 19), .int 0, .int 0, .int 0, .int (-1), .ref (u_4 20), .ref (u_4 21), .ref (u_4 22), .ref (u_4 23), .ref (u_4 24), .ref (u_4 25), .long 0, .long 0, .long 0, .ref (u_4 26), .ref (u_4 27)]))] := hD2
        replace hS := hS1
        clear hP2 hD2 hS1
        refine my_topi (y := (-2)) hw_36 ?_
        refine lv_aload_n hx hb dL_law_439 rfl (lv_at hl 1 rfl) ?_
        refine lv_aload_n hx hb dL_law_440 rfl (lv_at hl 3 rfl) ?_
        refine lv_iload_n hx hb dL_law_441 rfl (lv_at hl 0 rfl) ?_
        refine lv_iconst (v := 1) hx hb dL_law_442 (by decide) ?_
        refine lv_iadd hx hb dL_law_443 ?_
        refine my_topi (y := 1) (by decide) ?_
        refine va_sld hx hb hX hbl hbA hS (vp_in_iff.mpr (by decide)) dL_law_444 ?_
        refine lv_aload_n hx hb dL_law_445 rfl (lv_at hl 3 rfl) ?_
        refine lv_iload_n hx hb dL_law_446 rfl (lv_at hl 0 rfl) ?_
        refine lv_iconst (v := 2) hx hb dL_law_447 (by decide) ?_
        refine lv_iadd hx hb dL_law_448 ?_
        refine my_topi (y := 2) (by decide) ?_
        refine va_sld hx hb hX hbl hbA hS (vp_in_iff.mpr (by decide)) dL_law_449 ?_
        refine lv_aload_n hx hb dL_law_450 rfl (lv_at hl 3 rfl) ?_
        refine lv_iload_n hx hb dL_law_451 rfl (lv_at hl 0 rfl) ?_
        refine lv_iconst (v := 3) hx hb dL_law_452 (by decide) ?_
        refine lv_iadd hx hb dL_law_453 ?_
        refine my_topi (y := 3) (by decide) ?_
        refine va_sld hx hb hX hbl hbA hS (vp_in_iff.mpr (by decide)) dL_law_454 ?_
        have hPc := hP.sub (ws' := [(q_3, .inr (5, [.int 0, .ref (u_4 0), .ref (u_4 1), .ref (u_4 2), .ref (u_4 3), .ref (u_4 4), .ref (u_4 5), .ref (u_4 6), .ref (u_4 7), .ref (u_4 8), .ref (u_4 9), .ref (u_4 10), .ref (u_4 11), .ref (u_4 12), .ref (u_4 13), .ref (u_4 14), .ref (u_4 15), .ref (u_4 16), .ref (u_4 17), .ref (u_4 18), .ref (u_4 19), .int 0, .int 0, .int 0, .int (-1), .ref (u_4 20), .ref (u_4 21), .ref (u_4 22), .ref (u_4 23), .ref (u_4 24), .ref (u_4 25), .long 0, .long 0, .long 0, .ref (u_4 26), .ref (u_4 27)]))]) [0] rfl
        have hDc := hD.sub (ws' := [(q_3, .inr (5, [.int 0, .ref (u_4 0), .ref (u_4 1), .ref (u_4 2), .ref (u_4 3), .ref (u_4 4), .ref (u_4 5), .ref (u_4 6), .ref (u_4 7), .ref (u_4 8), .ref (u_4 9), .ref (u_4 10), .ref (u_4 11), .ref (u_4 12), .ref (u_4 13), .ref (u_4 14), .ref (u_4 15), .ref (u_4 16), .ref (u_4 17), .ref (u_4 18), .ref (u_4 19), .int 0, .int 0, .int 0, .int (-1), .ref (u_4 20), .ref (u_4 21), .ref (u_4 22), .ref (u_4 23), .ref (u_4 24), .ref (u_4 25), .long 0, .long 0, .long 0, .ref (u_4 26), .ref (u_4 27)]))]) [0] (by decide) rfl
        have hFc := va_free (wc := [(q_3, .inr (5, [.int 0, .ref (u_4 0), .ref (u_4 1), .ref (u_4 2), .ref (u_4 3), .ref (u_4 4), .ref (u_4 5), .ref (u_4 6), .ref (u_4 7), .ref (u_4 8), .ref (u_4 9), .ref (u_4 10), .ref (u_4 11), .ref (u_4 12), .ref (u_4 13), .ref (u_4 14), .ref (u_4 15), .ref (u_4 16), .ref (u_4 17), .ref (u_4 18), .ref (u_4 19), .int 0, .int 0, .int 0, .int (-1), .ref (u_4 20), .ref (u_4 21), .ref (u_4 22), .ref (u_4 23), .ref (u_4 24), .ref (u_4 25), .long 0, .long 0, .long 0, .ref (u_4 26), .ref (u_4 27)]))]) hD hS hA [0] rfl
        refine va_calli (va_runV (As := [.int (xs (1 : Int32).toNatClampNeg), .int (xs (2 : Int32).toNatClampNeg), .int (xs (3 : Int32).toNatClampNeg)]) (rest := [.int (-2)]) ⟨hx, hb, hml, hown, hts⟩ (c_X5_segment l dC dI cI cJ cZ q_3 (.ref (u_4 0)) (.ref (u_4 1)) (.ref (u_4 2)) (.ref (u_4 3)) (.ref (u_4 4)) (.ref (u_4 5)) (.ref (u_4 6)) (.ref (u_4 7)) (.ref (u_4 8)) (.ref (u_4 9)) (.ref (u_4 10)) (.ref (u_4 11)) (.ref (u_4 12)) (.ref (u_4 13)) (.ref (u_4 14)) (.ref (u_4 15)) (.ref (u_4 16)) (.ref (u_4 17)) (.ref (u_4 18)) (.ref (u_4 19)) (.int 0) (.int 0) (.int 0) (.int (-1)) (.ref (u_4 20)) (.ref (u_4 21)) (.ref (u_4 22)) (.ref (u_4 23)) (.ref (u_4 24)) (.ref (u_4 25)) (.long 0) (.long 0) (.long 0) (.ref (u_4 26)) (.ref (u_4 27)) (xs (1 : Int32).toNatClampNeg) (xs (2 : Int32).toNatClampNeg) (xs (3 : Int32).toNatClampNeg) H_36.size) (cwV 3 hts g_L_law_X5_segment_61 rfl rfl rfl (by decide +kernel) ⟨Nat.le_of_ble_eq_true rfl, Nat.le_of_ble_eq_true rfl⟩) ⟨cPre_blind, va_recv hK hPc (ci := 5) (q0 := 0) rfl rfl, cPre_of hK hN hPc hDc⟩ rfl rfl hl.1 rfl (lv_room (Nat.le_of_ble_eq_true rfl)) dL_law_455 ⟨Nat.le_of_ble_eq_true rfl, Nat.le_of_ble_eq_true rfl⟩) hS (fun q _ h => hFc q h) hFc (fun r_37 u_37 t_37 H_37 locs_37 ht hvm hw_37 hB hz1 hk1 hS1 => ?_)
        obtain ⟨hP1, hK1, hD1⟩ := hB
        rw [ht] at hP1
        obtain ⟨hP2, hD2⟩ := va_join (wr := []) (w1 := []) hP hD [0] [] rfl rfl (by decide) (by decide) hk1 hFc hP1 hD1
        clear hPc hDc hFc hP1 hD1 hK1 hk1 hz1 hvm ht
        replace hP : va_P (dC, dI) vwCl [] H_37 := hP2
        replace hD : va_D (fun q : Nat => s.heap.size ≤ q) [] := hD2
        replace hS := hS1
        clear hP2 hD2 hS1
        refine my_topi (y := (-2)) hw_37 ?_
        refine lv_icmp_eq (tgt := 730) hx hb dL_law_458 (by decide) (fun c_38 => ?_) (fun c_38 => ?_)
        · -- on
          refine lv_iinc (v := 7) (lv' := [(3, .int 7), (2, .ref q_3), (1, .ref q_1), (0, .ref b)]) hx hb dL_law_730 hl (k := 0) rfl (by decide) (by decide) rfl (fun ls1 hl1 => ?_)
          replace hl := hl1; clear hl1
          refine lv_goto (tgt := 18) hx hb dL_law_733 (by decide) ?_
          refine lv_iload_n hx hb dL_law_18 rfl (lv_at hl 0 rfl) ?_
          refine lv_aload_n hx hb dL_law_19 rfl (lv_at hl 3 rfl) ?_
          refine va_slen hx hb hX hbl hbA hS dL_law_20 ?_
          refine lv_bipush (v := 7) hx hb dL_law_21 (by decide) ?_
          refine lv_isub hx hb dL_law_23 ?_
          refine my_topi (y := 0) (by decide) ?_
          refine lv_icmp_gt (tgt := 736) hx hb dL_law_24 (by decide) (fun c_0 => ?_) (fun c_0 => ?_)
          · -- end
            refine lv_iconst (v := 1) hx hb dL_law_736 (by decide) ?_
            refine va_forget (fun q hq => hS.2.2 q hq) ?_
            refine W.widen (k := 64) (n := 6560) (Nat.le_of_ble_eq_true rfl) (Nat.le_of_ble_eq_true rfl) ?_
            exact lw_ret hx hb hr hlocks dL_law_737
          · exact absurd (by decide) c_0
        · exact absurd (by decide) c_38
      · -- case 11
        refine lv_tableIn (tgt := 463) (off := 430) hx hb dL_law_33 (by omega) (by omega) (by rw [sv_5]; rfl) (by decide) ?_
        replace hP := hP.sub (ws' := [(q_1, .inr (4, [.ref (u_2 0), .ref (u_2 3), .ref (u_2 28), .int 0])), (q_3, .inr (5, [.int 0, .ref (u_4 0), .ref (u_4 1), .ref (u_4 2), .ref (u_4 3), .ref (u_4 4), .ref (u_4 5), .ref (u_4 6), .ref (u_4 7), .ref (u_4 8), .ref (u_4 9), .ref (u_4 10), .ref (u_4 11), .ref (u_4 12), .ref (u_4 13), .ref (u_4 14), .ref (u_4 15), .ref (u_4 16), .ref (u_4 17), .ref (u_4 18), .ref (u_4 19), .int 0, .int 0, .int 0, .int (-1), .ref (u_4 20), .ref (u_4 21), .ref (u_4 22), .ref (u_4 23), .ref (u_4 24), .ref (u_4 25), .long 0, .long 0, .long 0, .ref (u_4 26), .ref (u_4 27)]))]) [0, 35] rfl
        replace hD := hD.sub (ws' := [(q_1, .inr (4, [.ref (u_2 0), .ref (u_2 3), .ref (u_2 28), .int 0])), (q_3, .inr (5, [.int 0, .ref (u_4 0), .ref (u_4 1), .ref (u_4 2), .ref (u_4 3), .ref (u_4 4), .ref (u_4 5), .ref (u_4 6), .ref (u_4 7), .ref (u_4 8), .ref (u_4 9), .ref (u_4 10), .ref (u_4 11), .ref (u_4 12), .ref (u_4 13), .ref (u_4 14), .ref (u_4 15), .ref (u_4 16), .ref (u_4 17), .ref (u_4 18), .ref (u_4 19), .int 0, .int 0, .int 0, .int (-1), .ref (u_4 20), .ref (u_4 21), .ref (u_4 22), .ref (u_4 23), .ref (u_4 24), .ref (u_4 25), .long 0, .long 0, .long 0, .ref (u_4 26), .ref (u_4 27)]))]) [0, 35] (by decide) rfl
        refine lv_aload_n hx hb dL_law_463 rfl (lv_at hl 2 rfl) ?_
        have hPc := hP.sub (ws' := [(q_1, .inr (4, [.ref (u_2 0), .ref (u_2 3), .ref (u_2 28), .int 0]))]) [0] rfl
        have hDc := hD.sub (ws' := [(q_1, .inr (4, [.ref (u_2 0), .ref (u_2 3), .ref (u_2 28), .int 0]))]) [0] (by decide) rfl
        have hFc := va_free (wc := [(q_1, .inr (4, [.ref (u_2 0), .ref (u_2 3), .ref (u_2 28), .int 0]))]) hD hS hA [0] rfl
        refine va_calli (va_runV (As := []) (rest := []) ⟨hx, hb, hml, hown, hts⟩ (c_X4_status l dC dI cI cJ cZ q_1 (.ref (u_2 0)) (.ref (u_2 3)) (.ref (u_2 28)) 0 H_4.size) (cwV 0 hts g_L_law_X4_status_62 rfl rfl rfl (by decide +kernel) ⟨Nat.le_of_ble_eq_true rfl, Nat.le_of_ble_eq_true rfl⟩) ⟨cPre_blind, va_recv hK hPc (ci := 4) (q0 := 0) rfl rfl, cPre_of hK hN hPc hDc⟩ rfl rfl hl.1 rfl (lv_room (Nat.le_of_ble_eq_true rfl)) dL_law_464 ⟨Nat.le_of_ble_eq_true rfl, Nat.le_of_ble_eq_true rfl⟩) hS (fun q _ h => hFc q h) hFc (fun r_39 u_39 t_39 H_39 locs_39 ht hvm hw_39 hB hz1 hk1 hS1 => ?_)
        obtain ⟨hP1, hK1, hD1⟩ := hB
        rw [ht] at hP1
        obtain ⟨hP2, hD2⟩ := va_join (wr := [(q_3, .inr (5, [.int 0, .ref (u_4 0), .ref (u_4 1), .ref (u_4 2), .ref (u_4 3), .ref (u_4 4), .ref (u_4 5), .ref (u_4 6), .ref (u_4 7), .ref (u_4 8), .ref (u_4 9), .ref (u_4 10), .ref (u_4 11), .ref (u_4 12), .ref (u_4 13), .ref (u_4 14), .ref (u_4 15), .ref (u_4 16), .ref (u_4 17), .ref (u_4 18), .ref (u_4 19), .int 0, .int 0, .int 0, .int (-1), .ref (u_4 20), .ref (u_4 21), .ref (u_4 22), .ref (u_4 23), .ref (u_4 24), .ref (u_4 25), .long 0, .long 0, .long 0, .ref (u_4 26), .ref (u_4 27)]))]) (w1 := []) hP hD [0] [1] rfl rfl (by decide) (by decide) hk1 hFc hP1 hD1
        clear hPc hDc hFc hP1 hD1 hK1 hk1 hz1 hvm ht
        replace hP : va_P (dC, dI) vwCl [(q_3, .inr (5, [.int 0, .ref (u_4 0), .ref (u_4 1), .ref (u_4 2), .ref (u_4 3), .ref (u_4 4), .ref (u_4 5), .ref (u_4 6), .ref (u_4 7), .ref (u_4 8), .ref (u_4 9), .ref (u_4 10), .ref (u_4 11), .ref (u_4 12), .ref (u_4 13), .ref (u_4 14), .ref (u_4 15), .ref (u_4 16), .ref (u_4 17), .ref (u_4 18), .ref (u_4 19), .int 0, .int 0, .int 0, .int (-1), .ref (u_4 20), .ref (u_4 21), .ref (u_4 22), .ref (u_4 23), .ref (u_4 24), .ref (u_4 25), .long 0, .long 0, .long 0, .ref (u_4 26), .ref (u_4 27)]))] H_39 := hP2
        replace hD : va_D (fun q : Nat => s.heap.size ≤ q) [(q_3, .inr (5, [.int 0, .ref (u_4 0), .ref (u_4 1), .ref (u_4 2), .ref (u_4 3), .ref (u_4 4), .ref (u_4 5), .ref (u_4 6), .ref (u_4 7), .ref (u_4 8), .ref (u_4 9), .ref (u_4 10), .ref (u_4 11), .ref (u_4 12), .ref (u_4 13), .ref (u_4 14), .ref (u_4 15), .ref (u_4 16), .ref (u_4 17), .ref (u_4 18), .ref (u_4 19), .int 0, .int 0, .int 0, .int (-1), .ref (u_4 20), .ref (u_4 21), .ref (u_4 22), .ref (u_4 23), .ref (u_4 24), .ref (u_4 25), .long 0, .long 0, .long 0, .ref (u_4 26), .ref (u_4 27)]))] := hD2
        replace hS := hS1
        clear hP2 hD2 hS1
        refine my_topi (y := 0) hw_39 ?_
        refine lv_aload_n hx hb dL_law_467 rfl (lv_at hl 1 rfl) ?_
        have hPc := hP.sub (ws' := [(q_3, .inr (5, [.int 0, .ref (u_4 0), .ref (u_4 1), .ref (u_4 2), .ref (u_4 3), .ref (u_4 4), .ref (u_4 5), .ref (u_4 6), .ref (u_4 7), .ref (u_4 8), .ref (u_4 9), .ref (u_4 10), .ref (u_4 11), .ref (u_4 12), .ref (u_4 13), .ref (u_4 14), .ref (u_4 15), .ref (u_4 16), .ref (u_4 17), .ref (u_4 18), .ref (u_4 19), .int 0, .int 0, .int 0, .int (-1), .ref (u_4 20), .ref (u_4 21), .ref (u_4 22), .ref (u_4 23), .ref (u_4 24), .ref (u_4 25), .long 0, .long 0, .long 0, .ref (u_4 26), .ref (u_4 27)]))]) [0] rfl
        have hDc := hD.sub (ws' := [(q_3, .inr (5, [.int 0, .ref (u_4 0), .ref (u_4 1), .ref (u_4 2), .ref (u_4 3), .ref (u_4 4), .ref (u_4 5), .ref (u_4 6), .ref (u_4 7), .ref (u_4 8), .ref (u_4 9), .ref (u_4 10), .ref (u_4 11), .ref (u_4 12), .ref (u_4 13), .ref (u_4 14), .ref (u_4 15), .ref (u_4 16), .ref (u_4 17), .ref (u_4 18), .ref (u_4 19), .int 0, .int 0, .int 0, .int (-1), .ref (u_4 20), .ref (u_4 21), .ref (u_4 22), .ref (u_4 23), .ref (u_4 24), .ref (u_4 25), .long 0, .long 0, .long 0, .ref (u_4 26), .ref (u_4 27)]))]) [0] (by decide) rfl
        have hFc := va_free (wc := [(q_3, .inr (5, [.int 0, .ref (u_4 0), .ref (u_4 1), .ref (u_4 2), .ref (u_4 3), .ref (u_4 4), .ref (u_4 5), .ref (u_4 6), .ref (u_4 7), .ref (u_4 8), .ref (u_4 9), .ref (u_4 10), .ref (u_4 11), .ref (u_4 12), .ref (u_4 13), .ref (u_4 14), .ref (u_4 15), .ref (u_4 16), .ref (u_4 17), .ref (u_4 18), .ref (u_4 19), .int 0, .int 0, .int 0, .int (-1), .ref (u_4 20), .ref (u_4 21), .ref (u_4 22), .ref (u_4 23), .ref (u_4 24), .ref (u_4 25), .long 0, .long 0, .long 0, .ref (u_4 26), .ref (u_4 27)]))]) hD hS hA [0] rfl
        refine va_calli (va_runV (As := []) (rest := [.int 0]) ⟨hx, hb, hml, hown, hts⟩ (c_X5_status l dC dI cI cJ cZ q_3 (.int 0) (.ref (u_4 0)) (.ref (u_4 1)) (.ref (u_4 2)) (.ref (u_4 3)) (.ref (u_4 4)) (.ref (u_4 5)) (.ref (u_4 6)) (.ref (u_4 7)) (.ref (u_4 8)) (.ref (u_4 9)) (.ref (u_4 10)) (.ref (u_4 11)) (.ref (u_4 12)) (.ref (u_4 13)) (.ref (u_4 14)) (.ref (u_4 15)) (.ref (u_4 16)) (.ref (u_4 17)) (.ref (u_4 18)) (.ref (u_4 19)) (.int 0) (.int 0) (.int (-1)) (.ref (u_4 20)) (.ref (u_4 21)) (.ref (u_4 22)) (.ref (u_4 23)) (.ref (u_4 24)) (.ref (u_4 25)) (.long 0) (.long 0) (.long 0) (.ref (u_4 26)) (.ref (u_4 27)) 0 H_39.size) (cwV 0 hts g_L_law_X5_status_65 rfl rfl rfl (by decide +kernel) ⟨Nat.le_of_ble_eq_true rfl, Nat.le_of_ble_eq_true rfl⟩) ⟨cPre_blind, va_recv hK hPc (ci := 5) (q0 := 0) rfl rfl, cPre_of hK hN hPc hDc⟩ rfl rfl hl.1 rfl (lv_room (Nat.le_of_ble_eq_true rfl)) dL_law_468 ⟨Nat.le_of_ble_eq_true rfl, Nat.le_of_ble_eq_true rfl⟩) hS (fun q _ h => hFc q h) hFc (fun r_40 u_40 t_40 H_40 locs_40 ht hvm hw_40 hB hz1 hk1 hS1 => ?_)
        obtain ⟨hP1, hK1, hD1⟩ := hB
        rw [ht] at hP1
        obtain ⟨hP2, hD2⟩ := va_join (wr := []) (w1 := []) hP hD [0] [] rfl rfl (by decide) (by decide) hk1 hFc hP1 hD1
        clear hPc hDc hFc hP1 hD1 hK1 hk1 hz1 hvm ht
        replace hP : va_P (dC, dI) vwCl [] H_40 := hP2
        replace hD : va_D (fun q : Nat => s.heap.size ≤ q) [] := hD2
        replace hS := hS1
        clear hP2 hD2 hS1
        refine my_topi (y := 0) hw_40 ?_
        refine lv_icmp_eq (tgt := 730) hx hb dL_law_471 (by decide) (fun c_41 => ?_) (fun c_41 => ?_)
        · -- on
          refine lv_iinc (v := 7) (lv' := [(3, .int 7), (2, .ref q_3), (1, .ref q_1), (0, .ref b)]) hx hb dL_law_730 hl (k := 0) rfl (by decide) (by decide) rfl (fun ls1 hl1 => ?_)
          replace hl := hl1; clear hl1
          refine lv_goto (tgt := 18) hx hb dL_law_733 (by decide) ?_
          refine lv_iload_n hx hb dL_law_18 rfl (lv_at hl 0 rfl) ?_
          refine lv_aload_n hx hb dL_law_19 rfl (lv_at hl 3 rfl) ?_
          refine va_slen hx hb hX hbl hbA hS dL_law_20 ?_
          refine lv_bipush (v := 7) hx hb dL_law_21 (by decide) ?_
          refine lv_isub hx hb dL_law_23 ?_
          refine my_topi (y := 0) (by decide) ?_
          refine lv_icmp_gt (tgt := 736) hx hb dL_law_24 (by decide) (fun c_0 => ?_) (fun c_0 => ?_)
          · -- end
            refine lv_iconst (v := 1) hx hb dL_law_736 (by decide) ?_
            refine va_forget (fun q hq => hS.2.2 q hq) ?_
            refine W.widen (k := 64) (n := 6560) (Nat.le_of_ble_eq_true rfl) (Nat.le_of_ble_eq_true rfl) ?_
            exact lw_ret hx hb hr hlocks dL_law_737
          · exact absurd (by decide) c_0
        · exact absurd (by decide) c_41
      · -- case 12
        refine lv_tableIn (tgt := 476) (off := 443) hx hb dL_law_33 (by omega) (by omega) (by rw [sv_5]; rfl) (by decide) ?_
        replace hP := hP.sub (ws' := [(q_1, .inr (4, [.ref (u_2 0), .ref (u_2 3), .ref (u_2 28), .int 0])), ((u_2 0), .inr (3, [.ref (u_2 1), .ref (u_2 2), .int 0])), ((u_2 28), .inr (2, [.int 0, .int 0, .int (-1), .ref (u_2 29), .ref (u_2 30), .ref (u_2 31), .ref (u_2 32), .ref (u_2 33), .long 0])), ((u_2 29), .inl (cI, 6, .inl (ov (fun _ => 0) 6 0))), ((u_2 30), .inl (cI, 6, .inl (ov (fun _ => 0) 6 (-1)))), (q_3, .inr (5, [.int 0, .ref (u_4 0), .ref (u_4 1), .ref (u_4 2), .ref (u_4 3), .ref (u_4 4), .ref (u_4 5), .ref (u_4 6), .ref (u_4 7), .ref (u_4 8), .ref (u_4 9), .ref (u_4 10), .ref (u_4 11), .ref (u_4 12), .ref (u_4 13), .ref (u_4 14), .ref (u_4 15), .ref (u_4 16), .ref (u_4 17), .ref (u_4 18), .ref (u_4 19), .int 0, .int 0, .int 0, .int (-1), .ref (u_4 20), .ref (u_4 21), .ref (u_4 22), .ref (u_4 23), .ref (u_4 24), .ref (u_4 25), .long 0, .long 0, .long 0, .ref (u_4 26), .ref (u_4 27)])), ((u_4 20), .inl (cI, 6, .inl (ov (fun _ => 0) 6 0))), ((u_4 21), .inl (cI, 6, .inl (ov (fun _ => 0) 6 (-1))))]) [0, 1, 29, 30, 31, 35, 56, 57] rfl
        replace hD := hD.sub (ws' := [(q_1, .inr (4, [.ref (u_2 0), .ref (u_2 3), .ref (u_2 28), .int 0])), ((u_2 0), .inr (3, [.ref (u_2 1), .ref (u_2 2), .int 0])), ((u_2 28), .inr (2, [.int 0, .int 0, .int (-1), .ref (u_2 29), .ref (u_2 30), .ref (u_2 31), .ref (u_2 32), .ref (u_2 33), .long 0])), ((u_2 29), .inl (cI, 6, .inl (ov (fun _ => 0) 6 0))), ((u_2 30), .inl (cI, 6, .inl (ov (fun _ => 0) 6 (-1)))), (q_3, .inr (5, [.int 0, .ref (u_4 0), .ref (u_4 1), .ref (u_4 2), .ref (u_4 3), .ref (u_4 4), .ref (u_4 5), .ref (u_4 6), .ref (u_4 7), .ref (u_4 8), .ref (u_4 9), .ref (u_4 10), .ref (u_4 11), .ref (u_4 12), .ref (u_4 13), .ref (u_4 14), .ref (u_4 15), .ref (u_4 16), .ref (u_4 17), .ref (u_4 18), .ref (u_4 19), .int 0, .int 0, .int 0, .int (-1), .ref (u_4 20), .ref (u_4 21), .ref (u_4 22), .ref (u_4 23), .ref (u_4 24), .ref (u_4 25), .long 0, .long 0, .long 0, .ref (u_4 26), .ref (u_4 27)])), ((u_4 20), .inl (cI, 6, .inl (ov (fun _ => 0) 6 0))), ((u_4 21), .inl (cI, 6, .inl (ov (fun _ => 0) 6 (-1))))]) [0, 1, 29, 30, 31, 35, 56, 57] (by decide) rfl
        refine lv_aload_n hx hb dL_law_476 rfl (lv_at hl 2 rfl) ?_
        refine lv_aload_n hx hb dL_law_477 rfl (lv_at hl 3 rfl) ?_
        refine lv_iload_n hx hb dL_law_478 rfl (lv_at hl 0 rfl) ?_
        refine lv_iconst (v := 1) hx hb dL_law_479 (by decide) ?_
        refine lv_iadd hx hb dL_law_480 ?_
        refine my_topi (y := 1) (by decide) ?_
        refine va_sld hx hb hX hbl hbA hS (vp_in_iff.mpr (by decide)) dL_law_481 ?_
        refine lv_i2l (v := (xs (1 : Int32).toNatClampNeg).toInt64) hx hb dL_law_482 (by rfl) ?_
        refine lv_bipush (v := 32) hx hb dL_law_483 (by decide) ?_
        refine lv_lshl (v := ((xs (1 : Int32).toNatClampNeg).toInt64) <<< ((32 : Int32).toInt64 &&& 63)) hx hb dL_law_485 rfl ?_
        refine lv_aload_n hx hb dL_law_486 rfl (lv_at hl 3 rfl) ?_
        refine lv_iload_n hx hb dL_law_487 rfl (lv_at hl 0 rfl) ?_
        refine lv_iconst (v := 2) hx hb dL_law_488 (by decide) ?_
        refine lv_iadd hx hb dL_law_489 ?_
        refine my_topi (y := 2) (by decide) ?_
        refine va_sld hx hb hX hbl hbA hS (vp_in_iff.mpr (by decide)) dL_law_490 ?_
        refine lv_i2l (v := (xs (2 : Int32).toNatClampNeg).toInt64) hx hb dL_law_491 (by rfl) ?_
        refine lv_ldc2 hx hb hown (hts (.constantLong RL 66 (4294967295)) (List.mem_of_getElem? (i := 314) rfl)) dL_law_492 ?_
        refine lv_land hx hb dL_law_495 ?_
        refine lv_lor hx hb dL_law_496 ?_
        have hPc := hP.sub (ws' := [(q_1, .inr (4, [.ref (u_2 0), .ref (u_2 3), .ref (u_2 28), .int 0])), ((u_2 0), .inr (3, [.ref (u_2 1), .ref (u_2 2), .int 0])), ((u_2 28), .inr (2, [.int 0, .int 0, .int (-1), .ref (u_2 29), .ref (u_2 30), .ref (u_2 31), .ref (u_2 32), .ref (u_2 33), .long 0])), ((u_2 29), .inl (cI, 6, .inl (ov (fun _ => 0) 6 0))), ((u_2 30), .inl (cI, 6, .inl (ov (fun _ => 0) 6 (-1))))]) [0, 1, 2, 3, 4] rfl
        have hDc := hD.sub (ws' := [(q_1, .inr (4, [.ref (u_2 0), .ref (u_2 3), .ref (u_2 28), .int 0])), ((u_2 0), .inr (3, [.ref (u_2 1), .ref (u_2 2), .int 0])), ((u_2 28), .inr (2, [.int 0, .int 0, .int (-1), .ref (u_2 29), .ref (u_2 30), .ref (u_2 31), .ref (u_2 32), .ref (u_2 33), .long 0])), ((u_2 29), .inl (cI, 6, .inl (ov (fun _ => 0) 6 0))), ((u_2 30), .inl (cI, 6, .inl (ov (fun _ => 0) 6 (-1))))]) [0, 1, 2, 3, 4] (by decide) rfl
        have hFc := va_free (wc := [(q_1, .inr (4, [.ref (u_2 0), .ref (u_2 3), .ref (u_2 28), .int 0])), ((u_2 0), .inr (3, [.ref (u_2 1), .ref (u_2 2), .int 0])), ((u_2 28), .inr (2, [.int 0, .int 0, .int (-1), .ref (u_2 29), .ref (u_2 30), .ref (u_2 31), .ref (u_2 32), .ref (u_2 33), .long 0])), ((u_2 29), .inl (cI, 6, .inl (ov (fun _ => 0) 6 0))), ((u_2 30), .inl (cI, 6, .inl (ov (fun _ => 0) 6 (-1))))]) hD hS hA [0, 1, 2, 3, 4] rfl
        refine va_calli (va_runV (As := [.long ((((xs (1 : Int32).toNatClampNeg).toInt64) <<< ((32 : Int32).toInt64 &&& 63)) ||| (((xs (2 : Int32).toNatClampNeg).toInt64) &&& 4294967295))]) (rest := []) ⟨hx, hb, hml, hown, hts⟩ (c_X4_run l dC dI cI cJ cZ q_1 (.ref (u_2 3)) (.int 0) (u_2 0) (.ref (u_2 1)) (.ref (u_2 2)) (u_2 28) (u_2 29) (u_2 30) (.int 0) (.int 0) (.int (-1)) (.ref (u_2 31)) (.ref (u_2 32)) (.ref (u_2 33)) (.long 0) (ov (fun _ => 0) 6 0) (ov (fun _ => 0) 6 (-1)) ((((xs (1 : Int32).toNatClampNeg).toInt64) <<< ((32 : Int32).toInt64 &&& 63)) ||| (((xs (2 : Int32).toNatClampNeg).toInt64) &&& 4294967295)) H_4.size) (cwV 1 hts g_L_law_X4_run_68 rfl rfl rfl (by decide +kernel) ⟨Nat.le_of_ble_eq_true rfl, Nat.le_of_ble_eq_true rfl⟩) ⟨cPre_blind, va_recv hK hPc (ci := 4) (q0 := 0) rfl rfl, cPre_of hK hN hPc hDc⟩ rfl rfl hl.1 rfl (lv_room (Nat.le_of_ble_eq_true rfl)) dL_law_497 ⟨Nat.le_of_ble_eq_true rfl, Nat.le_of_ble_eq_true rfl⟩) hS (fun q _ h => hFc q h) hFc (fun r_42 u_42 t_42 H_42 locs_42 ht hvm hw_42 hB hz1 hk1 hS1 => ?_)
        obtain ⟨hP1, hK1, hD1⟩ := hB
        rw [ht] at hP1
        obtain ⟨hP2, hD2⟩ := va_join (wr := [(q_3, .inr (5, [.int 0, .ref (u_4 0), .ref (u_4 1), .ref (u_4 2), .ref (u_4 3), .ref (u_4 4), .ref (u_4 5), .ref (u_4 6), .ref (u_4 7), .ref (u_4 8), .ref (u_4 9), .ref (u_4 10), .ref (u_4 11), .ref (u_4 12), .ref (u_4 13), .ref (u_4 14), .ref (u_4 15), .ref (u_4 16), .ref (u_4 17), .ref (u_4 18), .ref (u_4 19), .int 0, .int 0, .int 0, .int (-1), .ref (u_4 20), .ref (u_4 21), .ref (u_4 22), .ref (u_4 23), .ref (u_4 24), .ref (u_4 25), .long 0, .long 0, .long 0, .ref (u_4 26), .ref (u_4 27)])), ((u_4 20), .inl (cI, 6, .inl (ov (fun _ => 0) 6 0))), ((u_4 21), .inl (cI, 6, .inl (ov (fun _ => 0) 6 (-1))))]) (w1 := []) hP hD [0, 1, 2, 3, 4] [5, 6, 7] rfl rfl (by decide) (by decide) hk1 hFc hP1 hD1
        clear hPc hDc hFc hP1 hD1 hK1 hk1 hz1 hvm ht
        replace hP : va_P (dC, dI) vwCl [(q_3, .inr (5, [.int 0, .ref (u_4 0), .ref (u_4 1), .ref (u_4 2), .ref (u_4 3), .ref (u_4 4), .ref (u_4 5), .ref (u_4 6), .ref (u_4 7), .ref (u_4 8), .ref (u_4 9), .ref (u_4 10), .ref (u_4 11), .ref (u_4 12), .ref (u_4 13), .ref (u_4 14), .ref (u_4 15), .ref (u_4 16), .ref (u_4 17), .ref (u_4 18), .ref (u_4 19), .int 0, .int 0, .int 0, .int (-1), .ref (u_4 20), .ref (u_4 21), .ref (u_4 22), .ref (u_4 23), .ref (u_4 24), .ref (u_4 25), .long 0, .long 0, .long 0, .ref (u_4 26), .ref (u_4 27)])), ((u_4 20), .inl (cI, 6, .inl (ov (fun _ => 0) 6 0))), ((u_4 21), .inl (cI, 6, .inl (ov (fun _ => 0) 6 (-1))))] H_42 := hP2
        replace hD : va_D (fun q : Nat => s.heap.size ≤ q) [(q_3, .inr (5, [.int 0, .ref (u_4 0), .ref (u_4 1), .ref (u_4 2), .ref (u_4 3), .ref (u_4 4), .ref (u_4 5), .ref (u_4 6), .ref (u_4 7), .ref (u_4 8), .ref (u_4 9), .ref (u_4 10), .ref (u_4 11), .ref (u_4 12), .ref (u_4 13), .ref (u_4 14), .ref (u_4 15), .ref (u_4 16), .ref (u_4 17), .ref (u_4 18), .ref (u_4 19), .int 0, .int 0, .int 0, .int (-1), .ref (u_4 20), .ref (u_4 21), .ref (u_4 22), .ref (u_4 23), .ref (u_4 24), .ref (u_4 25), .long 0, .long 0, .long 0, .ref (u_4 26), .ref (u_4 27)])), ((u_4 20), .inl (cI, 6, .inl (ov (fun _ => 0) 6 0))), ((u_4 21), .inl (cI, 6, .inl (ov (fun _ => 0) 6 (-1))))] := hD2
        replace hS := hS1
        clear hP2 hD2 hS1
        refine my_topi (y := 0) hw_42 ?_
        refine lv_aload_n hx hb dL_law_500 rfl (lv_at hl 1 rfl) ?_
        refine lv_aload_n hx hb dL_law_501 rfl (lv_at hl 3 rfl) ?_
        refine lv_iload_n hx hb dL_law_502 rfl (lv_at hl 0 rfl) ?_
        refine lv_iconst (v := 1) hx hb dL_law_503 (by decide) ?_
        refine lv_iadd hx hb dL_law_504 ?_
        refine my_topi (y := 1) (by decide) ?_
        refine va_sld hx hb hX hbl hbA hS (vp_in_iff.mpr (by decide)) dL_law_505 ?_
        refine lv_i2l (v := (xs (1 : Int32).toNatClampNeg).toInt64) hx hb dL_law_506 (by rfl) ?_
        refine lv_bipush (v := 32) hx hb dL_law_507 (by decide) ?_
        refine lv_lshl (v := ((xs (1 : Int32).toNatClampNeg).toInt64) <<< ((32 : Int32).toInt64 &&& 63)) hx hb dL_law_509 rfl ?_
        refine lv_aload_n hx hb dL_law_510 rfl (lv_at hl 3 rfl) ?_
        refine lv_iload_n hx hb dL_law_511 rfl (lv_at hl 0 rfl) ?_
        refine lv_iconst (v := 2) hx hb dL_law_512 (by decide) ?_
        refine lv_iadd hx hb dL_law_513 ?_
        refine my_topi (y := 2) (by decide) ?_
        refine va_sld hx hb hX hbl hbA hS (vp_in_iff.mpr (by decide)) dL_law_514 ?_
        refine lv_i2l (v := (xs (2 : Int32).toNatClampNeg).toInt64) hx hb dL_law_515 (by rfl) ?_
        refine lv_ldc2 hx hb hown (hts (.constantLong RL 66 (4294967295)) (List.mem_of_getElem? (i := 314) rfl)) dL_law_516 ?_
        refine lv_land hx hb dL_law_519 ?_
        refine lv_lor hx hb dL_law_520 ?_
        have hPc := hP.sub (ws' := [(q_3, .inr (5, [.int 0, .ref (u_4 0), .ref (u_4 1), .ref (u_4 2), .ref (u_4 3), .ref (u_4 4), .ref (u_4 5), .ref (u_4 6), .ref (u_4 7), .ref (u_4 8), .ref (u_4 9), .ref (u_4 10), .ref (u_4 11), .ref (u_4 12), .ref (u_4 13), .ref (u_4 14), .ref (u_4 15), .ref (u_4 16), .ref (u_4 17), .ref (u_4 18), .ref (u_4 19), .int 0, .int 0, .int 0, .int (-1), .ref (u_4 20), .ref (u_4 21), .ref (u_4 22), .ref (u_4 23), .ref (u_4 24), .ref (u_4 25), .long 0, .long 0, .long 0, .ref (u_4 26), .ref (u_4 27)])), ((u_4 20), .inl (cI, 6, .inl (ov (fun _ => 0) 6 0))), ((u_4 21), .inl (cI, 6, .inl (ov (fun _ => 0) 6 (-1))))]) [0, 1, 2] rfl
        have hDc := hD.sub (ws' := [(q_3, .inr (5, [.int 0, .ref (u_4 0), .ref (u_4 1), .ref (u_4 2), .ref (u_4 3), .ref (u_4 4), .ref (u_4 5), .ref (u_4 6), .ref (u_4 7), .ref (u_4 8), .ref (u_4 9), .ref (u_4 10), .ref (u_4 11), .ref (u_4 12), .ref (u_4 13), .ref (u_4 14), .ref (u_4 15), .ref (u_4 16), .ref (u_4 17), .ref (u_4 18), .ref (u_4 19), .int 0, .int 0, .int 0, .int (-1), .ref (u_4 20), .ref (u_4 21), .ref (u_4 22), .ref (u_4 23), .ref (u_4 24), .ref (u_4 25), .long 0, .long 0, .long 0, .ref (u_4 26), .ref (u_4 27)])), ((u_4 20), .inl (cI, 6, .inl (ov (fun _ => 0) 6 0))), ((u_4 21), .inl (cI, 6, .inl (ov (fun _ => 0) 6 (-1))))]) [0, 1, 2] (by decide) rfl
        have hFc := va_free (wc := [(q_3, .inr (5, [.int 0, .ref (u_4 0), .ref (u_4 1), .ref (u_4 2), .ref (u_4 3), .ref (u_4 4), .ref (u_4 5), .ref (u_4 6), .ref (u_4 7), .ref (u_4 8), .ref (u_4 9), .ref (u_4 10), .ref (u_4 11), .ref (u_4 12), .ref (u_4 13), .ref (u_4 14), .ref (u_4 15), .ref (u_4 16), .ref (u_4 17), .ref (u_4 18), .ref (u_4 19), .int 0, .int 0, .int 0, .int (-1), .ref (u_4 20), .ref (u_4 21), .ref (u_4 22), .ref (u_4 23), .ref (u_4 24), .ref (u_4 25), .long 0, .long 0, .long 0, .ref (u_4 26), .ref (u_4 27)])), ((u_4 20), .inl (cI, 6, .inl (ov (fun _ => 0) 6 0))), ((u_4 21), .inl (cI, 6, .inl (ov (fun _ => 0) 6 (-1))))]) hD hS hA [0, 1, 2] rfl
        refine va_calli (va_runV (As := [.long ((((xs (1 : Int32).toNatClampNeg).toInt64) <<< ((32 : Int32).toInt64 &&& 63)) ||| (((xs (2 : Int32).toNatClampNeg).toInt64) &&& 4294967295))]) (rest := [.int 0]) ⟨hx, hb, hml, hown, hts⟩ (c_X5_run l dC dI cI cJ cZ q_3 (u_4 20) (u_4 21) (ov (fun _ => 0) 6 0) (ov (fun _ => 0) 6 (-1)) (.ref (u_4 0)) (.ref (u_4 1)) (.ref (u_4 2)) (.ref (u_4 3)) (.ref (u_4 4)) (.ref (u_4 5)) (.ref (u_4 6)) (.ref (u_4 7)) (.ref (u_4 8)) (.ref (u_4 9)) (.ref (u_4 10)) (.ref (u_4 11)) (.ref (u_4 12)) (.ref (u_4 13)) (.ref (u_4 14)) (.ref (u_4 15)) (.ref (u_4 16)) (.ref (u_4 17)) (.ref (u_4 18)) (.ref (u_4 19)) (.int 0) (.int 0) (.int 0) (.int (-1)) (.ref (u_4 22)) (.ref (u_4 23)) (.ref (u_4 24)) (.ref (u_4 25)) (.long 0) (.long 0) (.long 0) (.ref (u_4 26)) (.ref (u_4 27)) ((((xs (1 : Int32).toNatClampNeg).toInt64) <<< ((32 : Int32).toInt64 &&& 63)) ||| (((xs (2 : Int32).toNatClampNeg).toInt64) &&& 4294967295)) H_42.size) (cwV 1 hts g_L_law_X5_run_72 rfl rfl rfl (by decide +kernel) ⟨Nat.le_of_ble_eq_true rfl, Nat.le_of_ble_eq_true rfl⟩) ⟨cPre_blind, va_recv hK hPc (ci := 5) (q0 := 0) rfl rfl, cPre_of hK hN hPc hDc⟩ rfl rfl hl.1 rfl (lv_room (Nat.le_of_ble_eq_true rfl)) dL_law_521 ⟨Nat.le_of_ble_eq_true rfl, Nat.le_of_ble_eq_true rfl⟩) hS (fun q _ h => hFc q h) hFc (fun r_43 u_43 t_43 H_43 locs_43 ht hvm hw_43 hB hz1 hk1 hS1 => ?_)
        obtain ⟨hP1, hK1, hD1⟩ := hB
        rw [ht] at hP1
        obtain ⟨hP2, hD2⟩ := va_join (wr := []) (w1 := [(q_3, .inr (5, [.int 0, .ref (u_4 0), .ref (u_4 1), .ref (u_4 2), .ref (u_4 3), .ref (u_4 4), .ref (u_4 5), .ref (u_4 6), .ref (u_4 7), .ref (u_4 8), .ref (u_4 9), .ref (u_4 10), .ref (u_4 11), .ref (u_4 12), .ref (u_4 13), .ref (u_4 14), .ref (u_4 15), .ref (u_4 16), .ref (u_4 17), .ref (u_4 18), .ref (u_4 19), .int 0, .int 1, .int 0, .int (-1), .ref (u_4 20), .ref (u_4 21), .ref (u_4 22), .ref (u_4 23), .ref (u_4 24), .ref (u_4 25), .long ((((xs (1 : Int32).toNatClampNeg).toInt64) <<< ((32 : Int32).toInt64 &&& 63)) ||| (((xs (2 : Int32).toNatClampNeg).toInt64) &&& 4294967295)), .long 0, .long 0, .ref (u_4 26), .ref (u_4 27)])), ((u_4 20), .inl (cI, 6, .inl (ov (ov (fun _ => 0) 6 0) 6 0))), ((u_4 21), .inl (cI, 6, .inl (ov (ov (fun _ => 0) 6 (-1)) 6 (-1))))]) hP hD [0, 1, 2] [] rfl rfl (by decide) (by decide) hk1 hFc hP1 hD1
        clear hPc hDc hFc hP1 hD1 hK1 hk1 hz1 hvm ht
        replace hP : va_P (dC, dI) vwCl [(q_3, .inr (5, [.int 0, .ref (u_4 0), .ref (u_4 1), .ref (u_4 2), .ref (u_4 3), .ref (u_4 4), .ref (u_4 5), .ref (u_4 6), .ref (u_4 7), .ref (u_4 8), .ref (u_4 9), .ref (u_4 10), .ref (u_4 11), .ref (u_4 12), .ref (u_4 13), .ref (u_4 14), .ref (u_4 15), .ref (u_4 16), .ref (u_4 17), .ref (u_4 18), .ref (u_4 19), .int 0, .int 1, .int 0, .int (-1), .ref (u_4 20), .ref (u_4 21), .ref (u_4 22), .ref (u_4 23), .ref (u_4 24), .ref (u_4 25), .long ((((xs (1 : Int32).toNatClampNeg).toInt64) <<< ((32 : Int32).toInt64 &&& 63)) ||| (((xs (2 : Int32).toNatClampNeg).toInt64) &&& 4294967295)), .long 0, .long 0, .ref (u_4 26), .ref (u_4 27)])), ((u_4 20), .inl (cI, 6, .inl (ov (ov (fun _ => 0) 6 0) 6 0))), ((u_4 21), .inl (cI, 6, .inl (ov (ov (fun _ => 0) 6 (-1)) 6 (-1))))] H_43 := hP2
        replace hD : va_D (fun q : Nat => s.heap.size ≤ q) [(q_3, .inr (5, [.int 0, .ref (u_4 0), .ref (u_4 1), .ref (u_4 2), .ref (u_4 3), .ref (u_4 4), .ref (u_4 5), .ref (u_4 6), .ref (u_4 7), .ref (u_4 8), .ref (u_4 9), .ref (u_4 10), .ref (u_4 11), .ref (u_4 12), .ref (u_4 13), .ref (u_4 14), .ref (u_4 15), .ref (u_4 16), .ref (u_4 17), .ref (u_4 18), .ref (u_4 19), .int 0, .int 1, .int 0, .int (-1), .ref (u_4 20), .ref (u_4 21), .ref (u_4 22), .ref (u_4 23), .ref (u_4 24), .ref (u_4 25), .long ((((xs (1 : Int32).toNatClampNeg).toInt64) <<< ((32 : Int32).toInt64 &&& 63)) ||| (((xs (2 : Int32).toNatClampNeg).toInt64) &&& 4294967295)), .long 0, .long 0, .ref (u_4 26), .ref (u_4 27)])), ((u_4 20), .inl (cI, 6, .inl (ov (ov (fun _ => 0) 6 0) 6 0))), ((u_4 21), .inl (cI, 6, .inl (ov (ov (fun _ => 0) 6 (-1)) 6 (-1))))] := hD2
        replace hS := hS1
        clear hP2 hD2 hS1
        refine my_topi (y := 0) hw_43 ?_
        refine lv_icmp_eq (tgt := 730) hx hb dL_law_524 (by decide) (fun c_44 => ?_) (fun c_44 => ?_)
        · -- on
          refine lv_iinc (v := 7) (lv' := [(3, .int 7), (2, .ref q_3), (1, .ref q_1), (0, .ref b)]) hx hb dL_law_730 hl (k := 0) rfl (by decide) (by decide) rfl (fun ls1 hl1 => ?_)
          replace hl := hl1; clear hl1
          refine lv_goto (tgt := 18) hx hb dL_law_733 (by decide) ?_
          refine lv_iload_n hx hb dL_law_18 rfl (lv_at hl 0 rfl) ?_
          refine lv_aload_n hx hb dL_law_19 rfl (lv_at hl 3 rfl) ?_
          refine va_slen hx hb hX hbl hbA hS dL_law_20 ?_
          refine lv_bipush (v := 7) hx hb dL_law_21 (by decide) ?_
          refine lv_isub hx hb dL_law_23 ?_
          refine my_topi (y := 0) (by decide) ?_
          refine lv_icmp_gt (tgt := 736) hx hb dL_law_24 (by decide) (fun c_0 => ?_) (fun c_0 => ?_)
          · -- end
            refine lv_iconst (v := 1) hx hb dL_law_736 (by decide) ?_
            refine va_forget (fun q hq => hS.2.2 q hq) ?_
            refine W.widen (k := 64) (n := 6560) (Nat.le_of_ble_eq_true rfl) (Nat.le_of_ble_eq_true rfl) ?_
            exact lw_ret hx hb hr hlocks dL_law_737
          · exact absurd (by decide) c_0
        · exact absurd (by decide) c_44
      · -- case 13
        refine lv_tableIn (tgt := 529) (off := 496) hx hb dL_law_33 (by omega) (by omega) (by rw [sv_5]; rfl) (by decide) ?_
        replace hP := hP.sub (ws' := [(q_1, .inr (4, [.ref (u_2 0), .ref (u_2 3), .ref (u_2 28), .int 0])), ((u_2 28), .inr (2, [.int 0, .int 0, .int (-1), .ref (u_2 29), .ref (u_2 30), .ref (u_2 31), .ref (u_2 32), .ref (u_2 33), .long 0])), (q_3, .inr (5, [.int 0, .ref (u_4 0), .ref (u_4 1), .ref (u_4 2), .ref (u_4 3), .ref (u_4 4), .ref (u_4 5), .ref (u_4 6), .ref (u_4 7), .ref (u_4 8), .ref (u_4 9), .ref (u_4 10), .ref (u_4 11), .ref (u_4 12), .ref (u_4 13), .ref (u_4 14), .ref (u_4 15), .ref (u_4 16), .ref (u_4 17), .ref (u_4 18), .ref (u_4 19), .int 0, .int 0, .int 0, .int (-1), .ref (u_4 20), .ref (u_4 21), .ref (u_4 22), .ref (u_4 23), .ref (u_4 24), .ref (u_4 25), .long 0, .long 0, .long 0, .ref (u_4 26), .ref (u_4 27)]))]) [0, 29, 35] rfl
        replace hD := hD.sub (ws' := [(q_1, .inr (4, [.ref (u_2 0), .ref (u_2 3), .ref (u_2 28), .int 0])), ((u_2 28), .inr (2, [.int 0, .int 0, .int (-1), .ref (u_2 29), .ref (u_2 30), .ref (u_2 31), .ref (u_2 32), .ref (u_2 33), .long 0])), (q_3, .inr (5, [.int 0, .ref (u_4 0), .ref (u_4 1), .ref (u_4 2), .ref (u_4 3), .ref (u_4 4), .ref (u_4 5), .ref (u_4 6), .ref (u_4 7), .ref (u_4 8), .ref (u_4 9), .ref (u_4 10), .ref (u_4 11), .ref (u_4 12), .ref (u_4 13), .ref (u_4 14), .ref (u_4 15), .ref (u_4 16), .ref (u_4 17), .ref (u_4 18), .ref (u_4 19), .int 0, .int 0, .int 0, .int (-1), .ref (u_4 20), .ref (u_4 21), .ref (u_4 22), .ref (u_4 23), .ref (u_4 24), .ref (u_4 25), .long 0, .long 0, .long 0, .ref (u_4 26), .ref (u_4 27)]))]) [0, 29, 35] (by decide) rfl
        refine lv_aload_n hx hb dL_law_529 rfl (lv_at hl 2 rfl) ?_
        have hPc := hP.sub (ws' := [(q_1, .inr (4, [.ref (u_2 0), .ref (u_2 3), .ref (u_2 28), .int 0])), ((u_2 28), .inr (2, [.int 0, .int 0, .int (-1), .ref (u_2 29), .ref (u_2 30), .ref (u_2 31), .ref (u_2 32), .ref (u_2 33), .long 0]))]) [0, 1] rfl
        have hDc := hD.sub (ws' := [(q_1, .inr (4, [.ref (u_2 0), .ref (u_2 3), .ref (u_2 28), .int 0])), ((u_2 28), .inr (2, [.int 0, .int 0, .int (-1), .ref (u_2 29), .ref (u_2 30), .ref (u_2 31), .ref (u_2 32), .ref (u_2 33), .long 0]))]) [0, 1] (by decide) rfl
        have hFc := va_free (wc := [(q_1, .inr (4, [.ref (u_2 0), .ref (u_2 3), .ref (u_2 28), .int 0])), ((u_2 28), .inr (2, [.int 0, .int 0, .int (-1), .ref (u_2 29), .ref (u_2 30), .ref (u_2 31), .ref (u_2 32), .ref (u_2 33), .long 0]))]) hD hS hA [0, 1] rfl
        refine va_calli (va_runV (As := []) (rest := []) ⟨hx, hb, hml, hown, hts⟩ (c_X4_where l dC dI cI cJ cZ q_1 (u_2 28) (.ref (u_2 0)) (.ref (u_2 3)) (.int 0) (.int 0) (.int 0) (.ref (u_2 29)) (.ref (u_2 30)) (.ref (u_2 31)) (.ref (u_2 32)) (.ref (u_2 33)) (.long 0) (-1) H_4.size) (cwV 0 hts g_L_law_X4_where_73 rfl rfl rfl (by decide +kernel) ⟨Nat.le_of_ble_eq_true rfl, Nat.le_of_ble_eq_true rfl⟩) ⟨cPre_blind, va_recv hK hPc (ci := 4) (q0 := 0) rfl rfl, cPre_of hK hN hPc hDc⟩ rfl rfl hl.1 rfl (lv_room (Nat.le_of_ble_eq_true rfl)) dL_law_530 ⟨Nat.le_of_ble_eq_true rfl, Nat.le_of_ble_eq_true rfl⟩) hS (fun q _ h => hFc q h) hFc (fun r_45 u_45 t_45 H_45 locs_45 ht hvm hw_45 hB hz1 hk1 hS1 => ?_)
        obtain ⟨hP1, hK1, hD1⟩ := hB
        rw [ht] at hP1
        obtain ⟨hP2, hD2⟩ := va_join (wr := [(q_3, .inr (5, [.int 0, .ref (u_4 0), .ref (u_4 1), .ref (u_4 2), .ref (u_4 3), .ref (u_4 4), .ref (u_4 5), .ref (u_4 6), .ref (u_4 7), .ref (u_4 8), .ref (u_4 9), .ref (u_4 10), .ref (u_4 11), .ref (u_4 12), .ref (u_4 13), .ref (u_4 14), .ref (u_4 15), .ref (u_4 16), .ref (u_4 17), .ref (u_4 18), .ref (u_4 19), .int 0, .int 0, .int 0, .int (-1), .ref (u_4 20), .ref (u_4 21), .ref (u_4 22), .ref (u_4 23), .ref (u_4 24), .ref (u_4 25), .long 0, .long 0, .long 0, .ref (u_4 26), .ref (u_4 27)]))]) (w1 := []) hP hD [0, 1] [2] rfl rfl (by decide) (by decide) hk1 hFc hP1 hD1
        clear hPc hDc hFc hP1 hD1 hK1 hk1 hz1 hvm ht
        replace hP : va_P (dC, dI) vwCl [(q_3, .inr (5, [.int 0, .ref (u_4 0), .ref (u_4 1), .ref (u_4 2), .ref (u_4 3), .ref (u_4 4), .ref (u_4 5), .ref (u_4 6), .ref (u_4 7), .ref (u_4 8), .ref (u_4 9), .ref (u_4 10), .ref (u_4 11), .ref (u_4 12), .ref (u_4 13), .ref (u_4 14), .ref (u_4 15), .ref (u_4 16), .ref (u_4 17), .ref (u_4 18), .ref (u_4 19), .int 0, .int 0, .int 0, .int (-1), .ref (u_4 20), .ref (u_4 21), .ref (u_4 22), .ref (u_4 23), .ref (u_4 24), .ref (u_4 25), .long 0, .long 0, .long 0, .ref (u_4 26), .ref (u_4 27)]))] H_45 := hP2
        replace hD : va_D (fun q : Nat => s.heap.size ≤ q) [(q_3, .inr (5, [.int 0, .ref (u_4 0), .ref (u_4 1), .ref (u_4 2), .ref (u_4 3), .ref (u_4 4), .ref (u_4 5), .ref (u_4 6), .ref (u_4 7), .ref (u_4 8), .ref (u_4 9), .ref (u_4 10), .ref (u_4 11), .ref (u_4 12), .ref (u_4 13), .ref (u_4 14), .ref (u_4 15), .ref (u_4 16), .ref (u_4 17), .ref (u_4 18), .ref (u_4 19), .int 0, .int 0, .int 0, .int (-1), .ref (u_4 20), .ref (u_4 21), .ref (u_4 22), .ref (u_4 23), .ref (u_4 24), .ref (u_4 25), .long 0, .long 0, .long 0, .ref (u_4 26), .ref (u_4 27)]))] := hD2
        replace hS := hS1
        clear hP2 hD2 hS1
        refine my_topi (y := (-1)) hw_45 ?_
        refine lv_aload_n hx hb dL_law_533 rfl (lv_at hl 1 rfl) ?_
        have hPc := hP.sub (ws' := [(q_3, .inr (5, [.int 0, .ref (u_4 0), .ref (u_4 1), .ref (u_4 2), .ref (u_4 3), .ref (u_4 4), .ref (u_4 5), .ref (u_4 6), .ref (u_4 7), .ref (u_4 8), .ref (u_4 9), .ref (u_4 10), .ref (u_4 11), .ref (u_4 12), .ref (u_4 13), .ref (u_4 14), .ref (u_4 15), .ref (u_4 16), .ref (u_4 17), .ref (u_4 18), .ref (u_4 19), .int 0, .int 0, .int 0, .int (-1), .ref (u_4 20), .ref (u_4 21), .ref (u_4 22), .ref (u_4 23), .ref (u_4 24), .ref (u_4 25), .long 0, .long 0, .long 0, .ref (u_4 26), .ref (u_4 27)]))]) [0] rfl
        have hDc := hD.sub (ws' := [(q_3, .inr (5, [.int 0, .ref (u_4 0), .ref (u_4 1), .ref (u_4 2), .ref (u_4 3), .ref (u_4 4), .ref (u_4 5), .ref (u_4 6), .ref (u_4 7), .ref (u_4 8), .ref (u_4 9), .ref (u_4 10), .ref (u_4 11), .ref (u_4 12), .ref (u_4 13), .ref (u_4 14), .ref (u_4 15), .ref (u_4 16), .ref (u_4 17), .ref (u_4 18), .ref (u_4 19), .int 0, .int 0, .int 0, .int (-1), .ref (u_4 20), .ref (u_4 21), .ref (u_4 22), .ref (u_4 23), .ref (u_4 24), .ref (u_4 25), .long 0, .long 0, .long 0, .ref (u_4 26), .ref (u_4 27)]))]) [0] (by decide) rfl
        have hFc := va_free (wc := [(q_3, .inr (5, [.int 0, .ref (u_4 0), .ref (u_4 1), .ref (u_4 2), .ref (u_4 3), .ref (u_4 4), .ref (u_4 5), .ref (u_4 6), .ref (u_4 7), .ref (u_4 8), .ref (u_4 9), .ref (u_4 10), .ref (u_4 11), .ref (u_4 12), .ref (u_4 13), .ref (u_4 14), .ref (u_4 15), .ref (u_4 16), .ref (u_4 17), .ref (u_4 18), .ref (u_4 19), .int 0, .int 0, .int 0, .int (-1), .ref (u_4 20), .ref (u_4 21), .ref (u_4 22), .ref (u_4 23), .ref (u_4 24), .ref (u_4 25), .long 0, .long 0, .long 0, .ref (u_4 26), .ref (u_4 27)]))]) hD hS hA [0] rfl
        refine va_calli (va_runV (As := []) (rest := [.int (-1)]) ⟨hx, hb, hml, hown, hts⟩ (c_X5_where l dC dI cI cJ cZ q_3 (.int 0) (.ref (u_4 0)) (.ref (u_4 1)) (.ref (u_4 2)) (.ref (u_4 3)) (.ref (u_4 4)) (.ref (u_4 5)) (.ref (u_4 6)) (.ref (u_4 7)) (.ref (u_4 8)) (.ref (u_4 9)) (.ref (u_4 10)) (.ref (u_4 11)) (.ref (u_4 12)) (.ref (u_4 13)) (.ref (u_4 14)) (.ref (u_4 15)) (.ref (u_4 16)) (.ref (u_4 17)) (.ref (u_4 18)) (.ref (u_4 19)) (.int 0) (.int 0) (.int 0) (.ref (u_4 20)) (.ref (u_4 21)) (.ref (u_4 22)) (.ref (u_4 23)) (.ref (u_4 24)) (.ref (u_4 25)) (.long 0) (.long 0) (.long 0) (.ref (u_4 26)) (.ref (u_4 27)) (-1) H_45.size) (cwV 0 hts g_L_law_X5_where_76 rfl rfl rfl (by decide +kernel) ⟨Nat.le_of_ble_eq_true rfl, Nat.le_of_ble_eq_true rfl⟩) ⟨cPre_blind, va_recv hK hPc (ci := 5) (q0 := 0) rfl rfl, cPre_of hK hN hPc hDc⟩ rfl rfl hl.1 rfl (lv_room (Nat.le_of_ble_eq_true rfl)) dL_law_534 ⟨Nat.le_of_ble_eq_true rfl, Nat.le_of_ble_eq_true rfl⟩) hS (fun q _ h => hFc q h) hFc (fun r_46 u_46 t_46 H_46 locs_46 ht hvm hw_46 hB hz1 hk1 hS1 => ?_)
        obtain ⟨hP1, hK1, hD1⟩ := hB
        rw [ht] at hP1
        obtain ⟨hP2, hD2⟩ := va_join (wr := []) (w1 := []) hP hD [0] [] rfl rfl (by decide) (by decide) hk1 hFc hP1 hD1
        clear hPc hDc hFc hP1 hD1 hK1 hk1 hz1 hvm ht
        replace hP : va_P (dC, dI) vwCl [] H_46 := hP2
        replace hD : va_D (fun q : Nat => s.heap.size ≤ q) [] := hD2
        replace hS := hS1
        clear hP2 hD2 hS1
        refine my_topi (y := (-1)) hw_46 ?_
        refine lv_icmp_eq (tgt := 730) hx hb dL_law_537 (by decide) (fun c_47 => ?_) (fun c_47 => ?_)
        · -- on
          refine lv_iinc (v := 7) (lv' := [(3, .int 7), (2, .ref q_3), (1, .ref q_1), (0, .ref b)]) hx hb dL_law_730 hl (k := 0) rfl (by decide) (by decide) rfl (fun ls1 hl1 => ?_)
          replace hl := hl1; clear hl1
          refine lv_goto (tgt := 18) hx hb dL_law_733 (by decide) ?_
          refine lv_iload_n hx hb dL_law_18 rfl (lv_at hl 0 rfl) ?_
          refine lv_aload_n hx hb dL_law_19 rfl (lv_at hl 3 rfl) ?_
          refine va_slen hx hb hX hbl hbA hS dL_law_20 ?_
          refine lv_bipush (v := 7) hx hb dL_law_21 (by decide) ?_
          refine lv_isub hx hb dL_law_23 ?_
          refine my_topi (y := 0) (by decide) ?_
          refine lv_icmp_gt (tgt := 736) hx hb dL_law_24 (by decide) (fun c_0 => ?_) (fun c_0 => ?_)
          · -- end
            refine lv_iconst (v := 1) hx hb dL_law_736 (by decide) ?_
            refine va_forget (fun q hq => hS.2.2 q hq) ?_
            refine W.widen (k := 64) (n := 6560) (Nat.le_of_ble_eq_true rfl) (Nat.le_of_ble_eq_true rfl) ?_
            exact lw_ret hx hb hr hlocks dL_law_737
          · exact absurd (by decide) c_0
        · exact absurd (by decide) c_47
      · -- case 14
        refine lv_tableIn (tgt := 542) (off := 509) hx hb dL_law_33 (by omega) (by omega) (by rw [sv_5]; rfl) (by decide) ?_
        replace hP := hP.sub (ws' := [(q_1, .inr (4, [.ref (u_2 0), .ref (u_2 3), .ref (u_2 28), .int 0])), ((u_2 28), .inr (2, [.int 0, .int 0, .int (-1), .ref (u_2 29), .ref (u_2 30), .ref (u_2 31), .ref (u_2 32), .ref (u_2 33), .long 0])), ((u_2 29), .inl (cI, 6, .inl (ov (fun _ => 0) 6 0))), ((u_2 30), .inl (cI, 6, .inl (ov (fun _ => 0) 6 (-1)))), (q_3, .inr (5, [.int 0, .ref (u_4 0), .ref (u_4 1), .ref (u_4 2), .ref (u_4 3), .ref (u_4 4), .ref (u_4 5), .ref (u_4 6), .ref (u_4 7), .ref (u_4 8), .ref (u_4 9), .ref (u_4 10), .ref (u_4 11), .ref (u_4 12), .ref (u_4 13), .ref (u_4 14), .ref (u_4 15), .ref (u_4 16), .ref (u_4 17), .ref (u_4 18), .ref (u_4 19), .int 0, .int 0, .int 0, .int (-1), .ref (u_4 20), .ref (u_4 21), .ref (u_4 22), .ref (u_4 23), .ref (u_4 24), .ref (u_4 25), .long 0, .long 0, .long 0, .ref (u_4 26), .ref (u_4 27)])), ((u_4 20), .inl (cI, 6, .inl (ov (fun _ => 0) 6 0))), ((u_4 21), .inl (cI, 6, .inl (ov (fun _ => 0) 6 (-1))))]) [0, 29, 30, 31, 35, 56, 57] rfl
        replace hD := hD.sub (ws' := [(q_1, .inr (4, [.ref (u_2 0), .ref (u_2 3), .ref (u_2 28), .int 0])), ((u_2 28), .inr (2, [.int 0, .int 0, .int (-1), .ref (u_2 29), .ref (u_2 30), .ref (u_2 31), .ref (u_2 32), .ref (u_2 33), .long 0])), ((u_2 29), .inl (cI, 6, .inl (ov (fun _ => 0) 6 0))), ((u_2 30), .inl (cI, 6, .inl (ov (fun _ => 0) 6 (-1)))), (q_3, .inr (5, [.int 0, .ref (u_4 0), .ref (u_4 1), .ref (u_4 2), .ref (u_4 3), .ref (u_4 4), .ref (u_4 5), .ref (u_4 6), .ref (u_4 7), .ref (u_4 8), .ref (u_4 9), .ref (u_4 10), .ref (u_4 11), .ref (u_4 12), .ref (u_4 13), .ref (u_4 14), .ref (u_4 15), .ref (u_4 16), .ref (u_4 17), .ref (u_4 18), .ref (u_4 19), .int 0, .int 0, .int 0, .int (-1), .ref (u_4 20), .ref (u_4 21), .ref (u_4 22), .ref (u_4 23), .ref (u_4 24), .ref (u_4 25), .long 0, .long 0, .long 0, .ref (u_4 26), .ref (u_4 27)])), ((u_4 20), .inl (cI, 6, .inl (ov (fun _ => 0) 6 0))), ((u_4 21), .inl (cI, 6, .inl (ov (fun _ => 0) 6 (-1))))]) [0, 29, 30, 31, 35, 56, 57] (by decide) rfl
        refine lv_aload_n hx hb dL_law_542 rfl (lv_at hl 2 rfl) ?_
        refine lv_aload_n hx hb dL_law_543 rfl (lv_at hl 3 rfl) ?_
        refine lv_iload_n hx hb dL_law_544 rfl (lv_at hl 0 rfl) ?_
        refine lv_iconst (v := 1) hx hb dL_law_545 (by decide) ?_
        refine lv_iadd hx hb dL_law_546 ?_
        refine my_topi (y := 1) (by decide) ?_
        refine va_sld hx hb hX hbl hbA hS (vp_in_iff.mpr (by decide)) dL_law_547 ?_
        have hPc := hP.sub (ws' := [(q_1, .inr (4, [.ref (u_2 0), .ref (u_2 3), .ref (u_2 28), .int 0])), ((u_2 28), .inr (2, [.int 0, .int 0, .int (-1), .ref (u_2 29), .ref (u_2 30), .ref (u_2 31), .ref (u_2 32), .ref (u_2 33), .long 0])), ((u_2 29), .inl (cI, 6, .inl (ov (fun _ => 0) 6 0))), ((u_2 30), .inl (cI, 6, .inl (ov (fun _ => 0) 6 (-1))))]) [0, 1, 2, 3] rfl
        have hDc := hD.sub (ws' := [(q_1, .inr (4, [.ref (u_2 0), .ref (u_2 3), .ref (u_2 28), .int 0])), ((u_2 28), .inr (2, [.int 0, .int 0, .int (-1), .ref (u_2 29), .ref (u_2 30), .ref (u_2 31), .ref (u_2 32), .ref (u_2 33), .long 0])), ((u_2 29), .inl (cI, 6, .inl (ov (fun _ => 0) 6 0))), ((u_2 30), .inl (cI, 6, .inl (ov (fun _ => 0) 6 (-1))))]) [0, 1, 2, 3] (by decide) rfl
        have hFc := va_free (wc := [(q_1, .inr (4, [.ref (u_2 0), .ref (u_2 3), .ref (u_2 28), .int 0])), ((u_2 28), .inr (2, [.int 0, .int 0, .int (-1), .ref (u_2 29), .ref (u_2 30), .ref (u_2 31), .ref (u_2 32), .ref (u_2 33), .long 0])), ((u_2 29), .inl (cI, 6, .inl (ov (fun _ => 0) 6 0))), ((u_2 30), .inl (cI, 6, .inl (ov (fun _ => 0) 6 (-1))))]) hD hS hA [0, 1, 2, 3] rfl
        refine va_calli (va_runV (As := [.int (xs (1 : Int32).toNatClampNeg)]) (rest := []) ⟨hx, hb, hml, hown, hts⟩ (c_X4_value l dC dI cI cJ cZ q_1 (.ref (u_2 0)) (.ref (u_2 3)) (.int 0) (u_2 28) (u_2 29) (u_2 30) (.int 0) (.int 0) (.int (-1)) (.ref (u_2 31)) (.ref (u_2 32)) (.ref (u_2 33)) (.long 0) (fun _ => 0) (fun _ => 0) (xs (1 : Int32).toNatClampNeg) H_4.size) (cwV 1 hts g_L_law_X4_value_77 rfl rfl rfl (by decide +kernel) ⟨Nat.le_of_ble_eq_true rfl, Nat.le_of_ble_eq_true rfl⟩) ⟨cPre_blind, va_recv hK hPc (ci := 4) (q0 := 0) rfl rfl, cPre_of hK hN hPc hDc⟩ rfl rfl hl.1 rfl (lv_room (Nat.le_of_ble_eq_true rfl)) dL_law_548 ⟨Nat.le_of_ble_eq_true rfl, Nat.le_of_ble_eq_true rfl⟩) hS (fun q _ h => hFc q h) hFc (fun r_48 u_48 t_48 H_48 locs_48 ht hvm hw_48 hB hz1 hk1 hS1 => ?_)
        obtain ⟨hP1, hK1, hD1⟩ := hB
        rw [ht] at hP1
        obtain ⟨hP2, hD2⟩ := va_join (wr := [(q_3, .inr (5, [.int 0, .ref (u_4 0), .ref (u_4 1), .ref (u_4 2), .ref (u_4 3), .ref (u_4 4), .ref (u_4 5), .ref (u_4 6), .ref (u_4 7), .ref (u_4 8), .ref (u_4 9), .ref (u_4 10), .ref (u_4 11), .ref (u_4 12), .ref (u_4 13), .ref (u_4 14), .ref (u_4 15), .ref (u_4 16), .ref (u_4 17), .ref (u_4 18), .ref (u_4 19), .int 0, .int 0, .int 0, .int (-1), .ref (u_4 20), .ref (u_4 21), .ref (u_4 22), .ref (u_4 23), .ref (u_4 24), .ref (u_4 25), .long 0, .long 0, .long 0, .ref (u_4 26), .ref (u_4 27)])), ((u_4 20), .inl (cI, 6, .inl (ov (fun _ => 0) 6 0))), ((u_4 21), .inl (cI, 6, .inl (ov (fun _ => 0) 6 (-1))))]) (w1 := []) hP hD [0, 1, 2, 3] [4, 5, 6] rfl rfl (by decide) (by decide) hk1 hFc hP1 hD1
        clear hPc hDc hFc hP1 hD1 hK1 hk1 hz1 hvm ht
        replace hP : va_P (dC, dI) vwCl [(q_3, .inr (5, [.int 0, .ref (u_4 0), .ref (u_4 1), .ref (u_4 2), .ref (u_4 3), .ref (u_4 4), .ref (u_4 5), .ref (u_4 6), .ref (u_4 7), .ref (u_4 8), .ref (u_4 9), .ref (u_4 10), .ref (u_4 11), .ref (u_4 12), .ref (u_4 13), .ref (u_4 14), .ref (u_4 15), .ref (u_4 16), .ref (u_4 17), .ref (u_4 18), .ref (u_4 19), .int 0, .int 0, .int 0, .int (-1), .ref (u_4 20), .ref (u_4 21), .ref (u_4 22), .ref (u_4 23), .ref (u_4 24), .ref (u_4 25), .long 0, .long 0, .long 0, .ref (u_4 26), .ref (u_4 27)])), ((u_4 20), .inl (cI, 6, .inl (ov (fun _ => 0) 6 0))), ((u_4 21), .inl (cI, 6, .inl (ov (fun _ => 0) 6 (-1))))] H_48 := hP2
        replace hD : va_D (fun q : Nat => s.heap.size ≤ q) [(q_3, .inr (5, [.int 0, .ref (u_4 0), .ref (u_4 1), .ref (u_4 2), .ref (u_4 3), .ref (u_4 4), .ref (u_4 5), .ref (u_4 6), .ref (u_4 7), .ref (u_4 8), .ref (u_4 9), .ref (u_4 10), .ref (u_4 11), .ref (u_4 12), .ref (u_4 13), .ref (u_4 14), .ref (u_4 15), .ref (u_4 16), .ref (u_4 17), .ref (u_4 18), .ref (u_4 19), .int 0, .int 0, .int 0, .int (-1), .ref (u_4 20), .ref (u_4 21), .ref (u_4 22), .ref (u_4 23), .ref (u_4 24), .ref (u_4 25), .long 0, .long 0, .long 0, .ref (u_4 26), .ref (u_4 27)])), ((u_4 20), .inl (cI, 6, .inl (ov (fun _ => 0) 6 0))), ((u_4 21), .inl (cI, 6, .inl (ov (fun _ => 0) 6 (-1))))] := hD2
        replace hS := hS1
        clear hP2 hD2 hS1
        refine my_topi (y := 0) hw_48 ?_
        refine lv_aload_n hx hb dL_law_551 rfl (lv_at hl 1 rfl) ?_
        refine lv_aload_n hx hb dL_law_552 rfl (lv_at hl 3 rfl) ?_
        refine lv_iload_n hx hb dL_law_553 rfl (lv_at hl 0 rfl) ?_
        refine lv_iconst (v := 1) hx hb dL_law_554 (by decide) ?_
        refine lv_iadd hx hb dL_law_555 ?_
        refine my_topi (y := 1) (by decide) ?_
        refine va_sld hx hb hX hbl hbA hS (vp_in_iff.mpr (by decide)) dL_law_556 ?_
        have hPc := hP.sub (ws' := [(q_3, .inr (5, [.int 0, .ref (u_4 0), .ref (u_4 1), .ref (u_4 2), .ref (u_4 3), .ref (u_4 4), .ref (u_4 5), .ref (u_4 6), .ref (u_4 7), .ref (u_4 8), .ref (u_4 9), .ref (u_4 10), .ref (u_4 11), .ref (u_4 12), .ref (u_4 13), .ref (u_4 14), .ref (u_4 15), .ref (u_4 16), .ref (u_4 17), .ref (u_4 18), .ref (u_4 19), .int 0, .int 0, .int 0, .int (-1), .ref (u_4 20), .ref (u_4 21), .ref (u_4 22), .ref (u_4 23), .ref (u_4 24), .ref (u_4 25), .long 0, .long 0, .long 0, .ref (u_4 26), .ref (u_4 27)])), ((u_4 20), .inl (cI, 6, .inl (ov (fun _ => 0) 6 0))), ((u_4 21), .inl (cI, 6, .inl (ov (fun _ => 0) 6 (-1))))]) [0, 1, 2] rfl
        have hDc := hD.sub (ws' := [(q_3, .inr (5, [.int 0, .ref (u_4 0), .ref (u_4 1), .ref (u_4 2), .ref (u_4 3), .ref (u_4 4), .ref (u_4 5), .ref (u_4 6), .ref (u_4 7), .ref (u_4 8), .ref (u_4 9), .ref (u_4 10), .ref (u_4 11), .ref (u_4 12), .ref (u_4 13), .ref (u_4 14), .ref (u_4 15), .ref (u_4 16), .ref (u_4 17), .ref (u_4 18), .ref (u_4 19), .int 0, .int 0, .int 0, .int (-1), .ref (u_4 20), .ref (u_4 21), .ref (u_4 22), .ref (u_4 23), .ref (u_4 24), .ref (u_4 25), .long 0, .long 0, .long 0, .ref (u_4 26), .ref (u_4 27)])), ((u_4 20), .inl (cI, 6, .inl (ov (fun _ => 0) 6 0))), ((u_4 21), .inl (cI, 6, .inl (ov (fun _ => 0) 6 (-1))))]) [0, 1, 2] (by decide) rfl
        have hFc := va_free (wc := [(q_3, .inr (5, [.int 0, .ref (u_4 0), .ref (u_4 1), .ref (u_4 2), .ref (u_4 3), .ref (u_4 4), .ref (u_4 5), .ref (u_4 6), .ref (u_4 7), .ref (u_4 8), .ref (u_4 9), .ref (u_4 10), .ref (u_4 11), .ref (u_4 12), .ref (u_4 13), .ref (u_4 14), .ref (u_4 15), .ref (u_4 16), .ref (u_4 17), .ref (u_4 18), .ref (u_4 19), .int 0, .int 0, .int 0, .int (-1), .ref (u_4 20), .ref (u_4 21), .ref (u_4 22), .ref (u_4 23), .ref (u_4 24), .ref (u_4 25), .long 0, .long 0, .long 0, .ref (u_4 26), .ref (u_4 27)])), ((u_4 20), .inl (cI, 6, .inl (ov (fun _ => 0) 6 0))), ((u_4 21), .inl (cI, 6, .inl (ov (fun _ => 0) 6 (-1))))]) hD hS hA [0, 1, 2] rfl
        refine va_calli (va_runV (As := [.int (xs (1 : Int32).toNatClampNeg)]) (rest := [.int 0]) ⟨hx, hb, hml, hown, hts⟩ (c_X5_value l dC dI cI cJ cZ q_3 (u_4 20) (u_4 21) (fun _ => 0) (fun _ => 0) (.int 0) (.ref (u_4 0)) (.ref (u_4 1)) (.ref (u_4 2)) (.ref (u_4 3)) (.ref (u_4 4)) (.ref (u_4 5)) (.ref (u_4 6)) (.ref (u_4 7)) (.ref (u_4 8)) (.ref (u_4 9)) (.ref (u_4 10)) (.ref (u_4 11)) (.ref (u_4 12)) (.ref (u_4 13)) (.ref (u_4 14)) (.ref (u_4 15)) (.ref (u_4 16)) (.ref (u_4 17)) (.ref (u_4 18)) (.ref (u_4 19)) (.int 0) (.int 0) (.int 0) (.int (-1)) (.ref (u_4 22)) (.ref (u_4 23)) (.ref (u_4 24)) (.ref (u_4 25)) (.long 0) (.long 0) (.long 0) (.ref (u_4 26)) (.ref (u_4 27)) (xs (1 : Int32).toNatClampNeg) H_48.size) (cwV 1 hts g_L_law_X5_value_80 rfl rfl rfl (by decide +kernel) ⟨Nat.le_of_ble_eq_true rfl, Nat.le_of_ble_eq_true rfl⟩) ⟨cPre_blind, va_recv hK hPc (ci := 5) (q0 := 0) rfl rfl, cPre_of hK hN hPc hDc⟩ rfl rfl hl.1 rfl (lv_room (Nat.le_of_ble_eq_true rfl)) dL_law_557 ⟨Nat.le_of_ble_eq_true rfl, Nat.le_of_ble_eq_true rfl⟩) hS (fun q _ h => hFc q h) hFc (fun r_49 u_49 t_49 H_49 locs_49 ht hvm hw_49 hB hz1 hk1 hS1 => ?_)
        obtain ⟨hP1, hK1, hD1⟩ := hB
        rw [ht] at hP1
        obtain ⟨hP2, hD2⟩ := va_join (wr := []) (w1 := []) hP hD [0, 1, 2] [] rfl rfl (by decide) (by decide) hk1 hFc hP1 hD1
        clear hPc hDc hFc hP1 hD1 hK1 hk1 hz1 hvm ht
        replace hP : va_P (dC, dI) vwCl [] H_49 := hP2
        replace hD : va_D (fun q : Nat => s.heap.size ≤ q) [] := hD2
        replace hS := hS1
        clear hP2 hD2 hS1
        refine my_topi (y := 0) hw_49 ?_
        refine lv_icmp_eq (tgt := 730) hx hb dL_law_560 (by decide) (fun c_50 => ?_) (fun c_50 => ?_)
        · -- on
          refine lv_iinc (v := 7) (lv' := [(3, .int 7), (2, .ref q_3), (1, .ref q_1), (0, .ref b)]) hx hb dL_law_730 hl (k := 0) rfl (by decide) (by decide) rfl (fun ls1 hl1 => ?_)
          replace hl := hl1; clear hl1
          refine lv_goto (tgt := 18) hx hb dL_law_733 (by decide) ?_
          refine lv_iload_n hx hb dL_law_18 rfl (lv_at hl 0 rfl) ?_
          refine lv_aload_n hx hb dL_law_19 rfl (lv_at hl 3 rfl) ?_
          refine va_slen hx hb hX hbl hbA hS dL_law_20 ?_
          refine lv_bipush (v := 7) hx hb dL_law_21 (by decide) ?_
          refine lv_isub hx hb dL_law_23 ?_
          refine my_topi (y := 0) (by decide) ?_
          refine lv_icmp_gt (tgt := 736) hx hb dL_law_24 (by decide) (fun c_0 => ?_) (fun c_0 => ?_)
          · -- end
            refine lv_iconst (v := 1) hx hb dL_law_736 (by decide) ?_
            refine va_forget (fun q hq => hS.2.2 q hq) ?_
            refine W.widen (k := 64) (n := 6560) (Nat.le_of_ble_eq_true rfl) (Nat.le_of_ble_eq_true rfl) ?_
            exact lw_ret hx hb hr hlocks dL_law_737
          · exact absurd (by decide) c_0
        · exact absurd (by decide) c_50
      · -- case 15
        refine lv_tableIn (tgt := 565) (off := 532) hx hb dL_law_33 (by omega) (by omega) (by rw [sv_5]; rfl) (by decide) ?_
        replace hP := hP.sub (ws' := [(q_1, .inr (4, [.ref (u_2 0), .ref (u_2 3), .ref (u_2 28), .int 0])), ((u_2 28), .inr (2, [.int 0, .int 0, .int (-1), .ref (u_2 29), .ref (u_2 30), .ref (u_2 31), .ref (u_2 32), .ref (u_2 33), .long 0])), ((u_2 29), .inl (cI, 6, .inl (ov (fun _ => 0) 6 0))), ((u_2 30), .inl (cI, 6, .inl (ov (fun _ => 0) 6 (-1)))), (q_3, .inr (5, [.int 0, .ref (u_4 0), .ref (u_4 1), .ref (u_4 2), .ref (u_4 3), .ref (u_4 4), .ref (u_4 5), .ref (u_4 6), .ref (u_4 7), .ref (u_4 8), .ref (u_4 9), .ref (u_4 10), .ref (u_4 11), .ref (u_4 12), .ref (u_4 13), .ref (u_4 14), .ref (u_4 15), .ref (u_4 16), .ref (u_4 17), .ref (u_4 18), .ref (u_4 19), .int 0, .int 0, .int 0, .int (-1), .ref (u_4 20), .ref (u_4 21), .ref (u_4 22), .ref (u_4 23), .ref (u_4 24), .ref (u_4 25), .long 0, .long 0, .long 0, .ref (u_4 26), .ref (u_4 27)])), ((u_4 20), .inl (cI, 6, .inl (ov (fun _ => 0) 6 0))), ((u_4 21), .inl (cI, 6, .inl (ov (fun _ => 0) 6 (-1))))]) [0, 29, 30, 31, 35, 56, 57] rfl
        replace hD := hD.sub (ws' := [(q_1, .inr (4, [.ref (u_2 0), .ref (u_2 3), .ref (u_2 28), .int 0])), ((u_2 28), .inr (2, [.int 0, .int 0, .int (-1), .ref (u_2 29), .ref (u_2 30), .ref (u_2 31), .ref (u_2 32), .ref (u_2 33), .long 0])), ((u_2 29), .inl (cI, 6, .inl (ov (fun _ => 0) 6 0))), ((u_2 30), .inl (cI, 6, .inl (ov (fun _ => 0) 6 (-1)))), (q_3, .inr (5, [.int 0, .ref (u_4 0), .ref (u_4 1), .ref (u_4 2), .ref (u_4 3), .ref (u_4 4), .ref (u_4 5), .ref (u_4 6), .ref (u_4 7), .ref (u_4 8), .ref (u_4 9), .ref (u_4 10), .ref (u_4 11), .ref (u_4 12), .ref (u_4 13), .ref (u_4 14), .ref (u_4 15), .ref (u_4 16), .ref (u_4 17), .ref (u_4 18), .ref (u_4 19), .int 0, .int 0, .int 0, .int (-1), .ref (u_4 20), .ref (u_4 21), .ref (u_4 22), .ref (u_4 23), .ref (u_4 24), .ref (u_4 25), .long 0, .long 0, .long 0, .ref (u_4 26), .ref (u_4 27)])), ((u_4 20), .inl (cI, 6, .inl (ov (fun _ => 0) 6 0))), ((u_4 21), .inl (cI, 6, .inl (ov (fun _ => 0) 6 (-1))))]) [0, 29, 30, 31, 35, 56, 57] (by decide) rfl
        refine lv_aload_n hx hb dL_law_565 rfl (lv_at hl 2 rfl) ?_
        refine lv_aload_n hx hb dL_law_566 rfl (lv_at hl 3 rfl) ?_
        refine lv_iload_n hx hb dL_law_567 rfl (lv_at hl 0 rfl) ?_
        refine lv_iconst (v := 1) hx hb dL_law_568 (by decide) ?_
        refine lv_iadd hx hb dL_law_569 ?_
        refine my_topi (y := 1) (by decide) ?_
        refine va_sld hx hb hX hbl hbA hS (vp_in_iff.mpr (by decide)) dL_law_570 ?_
        refine lv_aload_n hx hb dL_law_571 rfl (lv_at hl 3 rfl) ?_
        refine lv_iload_n hx hb dL_law_572 rfl (lv_at hl 0 rfl) ?_
        refine lv_iconst (v := 2) hx hb dL_law_573 (by decide) ?_
        refine lv_iadd hx hb dL_law_574 ?_
        refine my_topi (y := 2) (by decide) ?_
        refine va_sld hx hb hX hbl hbA hS (vp_in_iff.mpr (by decide)) dL_law_575 ?_
        have hPc := hP.sub (ws' := [(q_1, .inr (4, [.ref (u_2 0), .ref (u_2 3), .ref (u_2 28), .int 0])), ((u_2 28), .inr (2, [.int 0, .int 0, .int (-1), .ref (u_2 29), .ref (u_2 30), .ref (u_2 31), .ref (u_2 32), .ref (u_2 33), .long 0])), ((u_2 29), .inl (cI, 6, .inl (ov (fun _ => 0) 6 0))), ((u_2 30), .inl (cI, 6, .inl (ov (fun _ => 0) 6 (-1))))]) [0, 1, 2, 3] rfl
        have hDc := hD.sub (ws' := [(q_1, .inr (4, [.ref (u_2 0), .ref (u_2 3), .ref (u_2 28), .int 0])), ((u_2 28), .inr (2, [.int 0, .int 0, .int (-1), .ref (u_2 29), .ref (u_2 30), .ref (u_2 31), .ref (u_2 32), .ref (u_2 33), .long 0])), ((u_2 29), .inl (cI, 6, .inl (ov (fun _ => 0) 6 0))), ((u_2 30), .inl (cI, 6, .inl (ov (fun _ => 0) 6 (-1))))]) [0, 1, 2, 3] (by decide) rfl
        have hFc := va_free (wc := [(q_1, .inr (4, [.ref (u_2 0), .ref (u_2 3), .ref (u_2 28), .int 0])), ((u_2 28), .inr (2, [.int 0, .int 0, .int (-1), .ref (u_2 29), .ref (u_2 30), .ref (u_2 31), .ref (u_2 32), .ref (u_2 33), .long 0])), ((u_2 29), .inl (cI, 6, .inl (ov (fun _ => 0) 6 0))), ((u_2 30), .inl (cI, 6, .inl (ov (fun _ => 0) 6 (-1))))]) hD hS hA [0, 1, 2, 3] rfl
        refine va_calli (va_runV (As := [.int (xs (1 : Int32).toNatClampNeg), .int (xs (2 : Int32).toNatClampNeg)]) (rest := []) ⟨hx, hb, hml, hown, hts⟩ (c_X4_place l dC dI cI cJ cZ q_1 (.ref (u_2 0)) (.ref (u_2 3)) (.int 0) (u_2 28) (u_2 29) (u_2 30) (.int 0) (.int 0) (.int (-1)) (.ref (u_2 31)) (.ref (u_2 32)) (.ref (u_2 33)) (.long 0) (fun _ => 0) (fun _ => 0) (xs (1 : Int32).toNatClampNeg) (xs (2 : Int32).toNatClampNeg) H_4.size) (cwV 2 hts g_L_law_X4_place_81 rfl rfl rfl (by decide +kernel) ⟨Nat.le_of_ble_eq_true rfl, Nat.le_of_ble_eq_true rfl⟩) ⟨cPre_blind, va_recv hK hPc (ci := 4) (q0 := 0) rfl rfl, cPre_of hK hN hPc hDc⟩ rfl rfl hl.1 rfl (lv_room (Nat.le_of_ble_eq_true rfl)) dL_law_576 ⟨Nat.le_of_ble_eq_true rfl, Nat.le_of_ble_eq_true rfl⟩) hS (fun q _ h => hFc q h) hFc (fun r_51 u_51 t_51 H_51 locs_51 ht hvm hw_51 hB hz1 hk1 hS1 => ?_)
        obtain ⟨hP1, hK1, hD1⟩ := hB
        rw [ht] at hP1
        obtain ⟨hP2, hD2⟩ := va_join (wr := [(q_3, .inr (5, [.int 0, .ref (u_4 0), .ref (u_4 1), .ref (u_4 2), .ref (u_4 3), .ref (u_4 4), .ref (u_4 5), .ref (u_4 6), .ref (u_4 7), .ref (u_4 8), .ref (u_4 9), .ref (u_4 10), .ref (u_4 11), .ref (u_4 12), .ref (u_4 13), .ref (u_4 14), .ref (u_4 15), .ref (u_4 16), .ref (u_4 17), .ref (u_4 18), .ref (u_4 19), .int 0, .int 0, .int 0, .int (-1), .ref (u_4 20), .ref (u_4 21), .ref (u_4 22), .ref (u_4 23), .ref (u_4 24), .ref (u_4 25), .long 0, .long 0, .long 0, .ref (u_4 26), .ref (u_4 27)])), ((u_4 20), .inl (cI, 6, .inl (ov (fun _ => 0) 6 0))), ((u_4 21), .inl (cI, 6, .inl (ov (fun _ => 0) 6 (-1))))]) (w1 := []) hP hD [0, 1, 2, 3] [4, 5, 6] rfl rfl (by decide) (by decide) hk1 hFc hP1 hD1
        clear hPc hDc hFc hP1 hD1 hK1 hk1 hz1 hvm ht
        replace hP : va_P (dC, dI) vwCl [(q_3, .inr (5, [.int 0, .ref (u_4 0), .ref (u_4 1), .ref (u_4 2), .ref (u_4 3), .ref (u_4 4), .ref (u_4 5), .ref (u_4 6), .ref (u_4 7), .ref (u_4 8), .ref (u_4 9), .ref (u_4 10), .ref (u_4 11), .ref (u_4 12), .ref (u_4 13), .ref (u_4 14), .ref (u_4 15), .ref (u_4 16), .ref (u_4 17), .ref (u_4 18), .ref (u_4 19), .int 0, .int 0, .int 0, .int (-1), .ref (u_4 20), .ref (u_4 21), .ref (u_4 22), .ref (u_4 23), .ref (u_4 24), .ref (u_4 25), .long 0, .long 0, .long 0, .ref (u_4 26), .ref (u_4 27)])), ((u_4 20), .inl (cI, 6, .inl (ov (fun _ => 0) 6 0))), ((u_4 21), .inl (cI, 6, .inl (ov (fun _ => 0) 6 (-1))))] H_51 := hP2
        replace hD : va_D (fun q : Nat => s.heap.size ≤ q) [(q_3, .inr (5, [.int 0, .ref (u_4 0), .ref (u_4 1), .ref (u_4 2), .ref (u_4 3), .ref (u_4 4), .ref (u_4 5), .ref (u_4 6), .ref (u_4 7), .ref (u_4 8), .ref (u_4 9), .ref (u_4 10), .ref (u_4 11), .ref (u_4 12), .ref (u_4 13), .ref (u_4 14), .ref (u_4 15), .ref (u_4 16), .ref (u_4 17), .ref (u_4 18), .ref (u_4 19), .int 0, .int 0, .int 0, .int (-1), .ref (u_4 20), .ref (u_4 21), .ref (u_4 22), .ref (u_4 23), .ref (u_4 24), .ref (u_4 25), .long 0, .long 0, .long 0, .ref (u_4 26), .ref (u_4 27)])), ((u_4 20), .inl (cI, 6, .inl (ov (fun _ => 0) 6 0))), ((u_4 21), .inl (cI, 6, .inl (ov (fun _ => 0) 6 (-1))))] := hD2
        replace hS := hS1
        clear hP2 hD2 hS1
        refine my_topi (y := 0) hw_51 ?_
        refine lv_aload_n hx hb dL_law_579 rfl (lv_at hl 1 rfl) ?_
        refine lv_aload_n hx hb dL_law_580 rfl (lv_at hl 3 rfl) ?_
        refine lv_iload_n hx hb dL_law_581 rfl (lv_at hl 0 rfl) ?_
        refine lv_iconst (v := 1) hx hb dL_law_582 (by decide) ?_
        refine lv_iadd hx hb dL_law_583 ?_
        refine my_topi (y := 1) (by decide) ?_
        refine va_sld hx hb hX hbl hbA hS (vp_in_iff.mpr (by decide)) dL_law_584 ?_
        refine lv_aload_n hx hb dL_law_585 rfl (lv_at hl 3 rfl) ?_
        refine lv_iload_n hx hb dL_law_586 rfl (lv_at hl 0 rfl) ?_
        refine lv_iconst (v := 2) hx hb dL_law_587 (by decide) ?_
        refine lv_iadd hx hb dL_law_588 ?_
        refine my_topi (y := 2) (by decide) ?_
        refine va_sld hx hb hX hbl hbA hS (vp_in_iff.mpr (by decide)) dL_law_589 ?_
        have hPc := hP.sub (ws' := [(q_3, .inr (5, [.int 0, .ref (u_4 0), .ref (u_4 1), .ref (u_4 2), .ref (u_4 3), .ref (u_4 4), .ref (u_4 5), .ref (u_4 6), .ref (u_4 7), .ref (u_4 8), .ref (u_4 9), .ref (u_4 10), .ref (u_4 11), .ref (u_4 12), .ref (u_4 13), .ref (u_4 14), .ref (u_4 15), .ref (u_4 16), .ref (u_4 17), .ref (u_4 18), .ref (u_4 19), .int 0, .int 0, .int 0, .int (-1), .ref (u_4 20), .ref (u_4 21), .ref (u_4 22), .ref (u_4 23), .ref (u_4 24), .ref (u_4 25), .long 0, .long 0, .long 0, .ref (u_4 26), .ref (u_4 27)])), ((u_4 20), .inl (cI, 6, .inl (ov (fun _ => 0) 6 0))), ((u_4 21), .inl (cI, 6, .inl (ov (fun _ => 0) 6 (-1))))]) [0, 1, 2] rfl
        have hDc := hD.sub (ws' := [(q_3, .inr (5, [.int 0, .ref (u_4 0), .ref (u_4 1), .ref (u_4 2), .ref (u_4 3), .ref (u_4 4), .ref (u_4 5), .ref (u_4 6), .ref (u_4 7), .ref (u_4 8), .ref (u_4 9), .ref (u_4 10), .ref (u_4 11), .ref (u_4 12), .ref (u_4 13), .ref (u_4 14), .ref (u_4 15), .ref (u_4 16), .ref (u_4 17), .ref (u_4 18), .ref (u_4 19), .int 0, .int 0, .int 0, .int (-1), .ref (u_4 20), .ref (u_4 21), .ref (u_4 22), .ref (u_4 23), .ref (u_4 24), .ref (u_4 25), .long 0, .long 0, .long 0, .ref (u_4 26), .ref (u_4 27)])), ((u_4 20), .inl (cI, 6, .inl (ov (fun _ => 0) 6 0))), ((u_4 21), .inl (cI, 6, .inl (ov (fun _ => 0) 6 (-1))))]) [0, 1, 2] (by decide) rfl
        have hFc := va_free (wc := [(q_3, .inr (5, [.int 0, .ref (u_4 0), .ref (u_4 1), .ref (u_4 2), .ref (u_4 3), .ref (u_4 4), .ref (u_4 5), .ref (u_4 6), .ref (u_4 7), .ref (u_4 8), .ref (u_4 9), .ref (u_4 10), .ref (u_4 11), .ref (u_4 12), .ref (u_4 13), .ref (u_4 14), .ref (u_4 15), .ref (u_4 16), .ref (u_4 17), .ref (u_4 18), .ref (u_4 19), .int 0, .int 0, .int 0, .int (-1), .ref (u_4 20), .ref (u_4 21), .ref (u_4 22), .ref (u_4 23), .ref (u_4 24), .ref (u_4 25), .long 0, .long 0, .long 0, .ref (u_4 26), .ref (u_4 27)])), ((u_4 20), .inl (cI, 6, .inl (ov (fun _ => 0) 6 0))), ((u_4 21), .inl (cI, 6, .inl (ov (fun _ => 0) 6 (-1))))]) hD hS hA [0, 1, 2] rfl
        refine va_calli (va_runV (As := [.int (xs (1 : Int32).toNatClampNeg), .int (xs (2 : Int32).toNatClampNeg)]) (rest := [.int 0]) ⟨hx, hb, hml, hown, hts⟩ (c_X5_place l dC dI cI cJ cZ q_3 (u_4 20) (u_4 21) (fun _ => 0) (fun _ => 0) (.int 0) (.ref (u_4 0)) (.ref (u_4 1)) (.ref (u_4 2)) (.ref (u_4 3)) (.ref (u_4 4)) (.ref (u_4 5)) (.ref (u_4 6)) (.ref (u_4 7)) (.ref (u_4 8)) (.ref (u_4 9)) (.ref (u_4 10)) (.ref (u_4 11)) (.ref (u_4 12)) (.ref (u_4 13)) (.ref (u_4 14)) (.ref (u_4 15)) (.ref (u_4 16)) (.ref (u_4 17)) (.ref (u_4 18)) (.ref (u_4 19)) (.int 0) (.int 0) (.int 0) (.int (-1)) (.ref (u_4 22)) (.ref (u_4 23)) (.ref (u_4 24)) (.ref (u_4 25)) (.long 0) (.long 0) (.long 0) (.ref (u_4 26)) (.ref (u_4 27)) (xs (1 : Int32).toNatClampNeg) (xs (2 : Int32).toNatClampNeg) H_51.size) (cwV 2 hts g_L_law_X5_place_84 rfl rfl rfl (by decide +kernel) ⟨Nat.le_of_ble_eq_true rfl, Nat.le_of_ble_eq_true rfl⟩) ⟨cPre_blind, va_recv hK hPc (ci := 5) (q0 := 0) rfl rfl, cPre_of hK hN hPc hDc⟩ rfl rfl hl.1 rfl (lv_room (Nat.le_of_ble_eq_true rfl)) dL_law_590 ⟨Nat.le_of_ble_eq_true rfl, Nat.le_of_ble_eq_true rfl⟩) hS (fun q _ h => hFc q h) hFc (fun r_52 u_52 t_52 H_52 locs_52 ht hvm hw_52 hB hz1 hk1 hS1 => ?_)
        obtain ⟨hP1, hK1, hD1⟩ := hB
        rw [ht] at hP1
        obtain ⟨hP2, hD2⟩ := va_join (wr := []) (w1 := []) hP hD [0, 1, 2] [] rfl rfl (by decide) (by decide) hk1 hFc hP1 hD1
        clear hPc hDc hFc hP1 hD1 hK1 hk1 hz1 hvm ht
        replace hP : va_P (dC, dI) vwCl [] H_52 := hP2
        replace hD : va_D (fun q : Nat => s.heap.size ≤ q) [] := hD2
        replace hS := hS1
        clear hP2 hD2 hS1
        refine my_topi (y := 0) hw_52 ?_
        refine lv_icmp_eq (tgt := 730) hx hb dL_law_593 (by decide) (fun c_53 => ?_) (fun c_53 => ?_)
        · -- on
          refine lv_iinc (v := 7) (lv' := [(3, .int 7), (2, .ref q_3), (1, .ref q_1), (0, .ref b)]) hx hb dL_law_730 hl (k := 0) rfl (by decide) (by decide) rfl (fun ls1 hl1 => ?_)
          replace hl := hl1; clear hl1
          refine lv_goto (tgt := 18) hx hb dL_law_733 (by decide) ?_
          refine lv_iload_n hx hb dL_law_18 rfl (lv_at hl 0 rfl) ?_
          refine lv_aload_n hx hb dL_law_19 rfl (lv_at hl 3 rfl) ?_
          refine va_slen hx hb hX hbl hbA hS dL_law_20 ?_
          refine lv_bipush (v := 7) hx hb dL_law_21 (by decide) ?_
          refine lv_isub hx hb dL_law_23 ?_
          refine my_topi (y := 0) (by decide) ?_
          refine lv_icmp_gt (tgt := 736) hx hb dL_law_24 (by decide) (fun c_0 => ?_) (fun c_0 => ?_)
          · -- end
            refine lv_iconst (v := 1) hx hb dL_law_736 (by decide) ?_
            refine va_forget (fun q hq => hS.2.2 q hq) ?_
            refine W.widen (k := 64) (n := 6560) (Nat.le_of_ble_eq_true rfl) (Nat.le_of_ble_eq_true rfl) ?_
            exact lw_ret hx hb hr hlocks dL_law_737
          · exact absurd (by decide) c_0
        · exact absurd (by decide) c_53
      · -- case 16
        refine lv_tableIn (tgt := 598) (off := 565) hx hb dL_law_33 (by omega) (by omega) (by rw [sv_5]; rfl) (by decide) ?_
        replace hP := hP.sub (ws' := [(q_1, .inr (4, [.ref (u_2 0), .ref (u_2 3), .ref (u_2 28), .int 0])), ((u_2 28), .inr (2, [.int 0, .int 0, .int (-1), .ref (u_2 29), .ref (u_2 30), .ref (u_2 31), .ref (u_2 32), .ref (u_2 33), .long 0])), ((u_2 29), .inl (cI, 6, .inl (ov (fun _ => 0) 6 0))), ((u_2 30), .inl (cI, 6, .inl (ov (fun _ => 0) 6 (-1)))), (q_3, .inr (5, [.int 0, .ref (u_4 0), .ref (u_4 1), .ref (u_4 2), .ref (u_4 3), .ref (u_4 4), .ref (u_4 5), .ref (u_4 6), .ref (u_4 7), .ref (u_4 8), .ref (u_4 9), .ref (u_4 10), .ref (u_4 11), .ref (u_4 12), .ref (u_4 13), .ref (u_4 14), .ref (u_4 15), .ref (u_4 16), .ref (u_4 17), .ref (u_4 18), .ref (u_4 19), .int 0, .int 0, .int 0, .int (-1), .ref (u_4 20), .ref (u_4 21), .ref (u_4 22), .ref (u_4 23), .ref (u_4 24), .ref (u_4 25), .long 0, .long 0, .long 0, .ref (u_4 26), .ref (u_4 27)])), ((u_4 20), .inl (cI, 6, .inl (ov (fun _ => 0) 6 0))), ((u_4 21), .inl (cI, 6, .inl (ov (fun _ => 0) 6 (-1))))]) [0, 29, 30, 31, 35, 56, 57] rfl
        replace hD := hD.sub (ws' := [(q_1, .inr (4, [.ref (u_2 0), .ref (u_2 3), .ref (u_2 28), .int 0])), ((u_2 28), .inr (2, [.int 0, .int 0, .int (-1), .ref (u_2 29), .ref (u_2 30), .ref (u_2 31), .ref (u_2 32), .ref (u_2 33), .long 0])), ((u_2 29), .inl (cI, 6, .inl (ov (fun _ => 0) 6 0))), ((u_2 30), .inl (cI, 6, .inl (ov (fun _ => 0) 6 (-1)))), (q_3, .inr (5, [.int 0, .ref (u_4 0), .ref (u_4 1), .ref (u_4 2), .ref (u_4 3), .ref (u_4 4), .ref (u_4 5), .ref (u_4 6), .ref (u_4 7), .ref (u_4 8), .ref (u_4 9), .ref (u_4 10), .ref (u_4 11), .ref (u_4 12), .ref (u_4 13), .ref (u_4 14), .ref (u_4 15), .ref (u_4 16), .ref (u_4 17), .ref (u_4 18), .ref (u_4 19), .int 0, .int 0, .int 0, .int (-1), .ref (u_4 20), .ref (u_4 21), .ref (u_4 22), .ref (u_4 23), .ref (u_4 24), .ref (u_4 25), .long 0, .long 0, .long 0, .ref (u_4 26), .ref (u_4 27)])), ((u_4 20), .inl (cI, 6, .inl (ov (fun _ => 0) 6 0))), ((u_4 21), .inl (cI, 6, .inl (ov (fun _ => 0) 6 (-1))))]) [0, 29, 30, 31, 35, 56, 57] (by decide) rfl
        refine lv_aload_n hx hb dL_law_598 rfl (lv_at hl 2 rfl) ?_
        refine lv_aload_n hx hb dL_law_599 rfl (lv_at hl 3 rfl) ?_
        refine lv_iload_n hx hb dL_law_600 rfl (lv_at hl 0 rfl) ?_
        refine lv_iconst (v := 1) hx hb dL_law_601 (by decide) ?_
        refine lv_iadd hx hb dL_law_602 ?_
        refine my_topi (y := 1) (by decide) ?_
        refine va_sld hx hb hX hbl hbA hS (vp_in_iff.mpr (by decide)) dL_law_603 ?_
        have hPc := hP.sub (ws' := [(q_1, .inr (4, [.ref (u_2 0), .ref (u_2 3), .ref (u_2 28), .int 0])), ((u_2 28), .inr (2, [.int 0, .int 0, .int (-1), .ref (u_2 29), .ref (u_2 30), .ref (u_2 31), .ref (u_2 32), .ref (u_2 33), .long 0])), ((u_2 29), .inl (cI, 6, .inl (ov (fun _ => 0) 6 0))), ((u_2 30), .inl (cI, 6, .inl (ov (fun _ => 0) 6 (-1))))]) [0, 1, 2, 3] rfl
        have hDc := hD.sub (ws' := [(q_1, .inr (4, [.ref (u_2 0), .ref (u_2 3), .ref (u_2 28), .int 0])), ((u_2 28), .inr (2, [.int 0, .int 0, .int (-1), .ref (u_2 29), .ref (u_2 30), .ref (u_2 31), .ref (u_2 32), .ref (u_2 33), .long 0])), ((u_2 29), .inl (cI, 6, .inl (ov (fun _ => 0) 6 0))), ((u_2 30), .inl (cI, 6, .inl (ov (fun _ => 0) 6 (-1))))]) [0, 1, 2, 3] (by decide) rfl
        have hFc := va_free (wc := [(q_1, .inr (4, [.ref (u_2 0), .ref (u_2 3), .ref (u_2 28), .int 0])), ((u_2 28), .inr (2, [.int 0, .int 0, .int (-1), .ref (u_2 29), .ref (u_2 30), .ref (u_2 31), .ref (u_2 32), .ref (u_2 33), .long 0])), ((u_2 29), .inl (cI, 6, .inl (ov (fun _ => 0) 6 0))), ((u_2 30), .inl (cI, 6, .inl (ov (fun _ => 0) 6 (-1))))]) hD hS hA [0, 1, 2, 3] rfl
        refine va_calli (va_runV (As := [.int (xs (1 : Int32).toNatClampNeg)]) (rest := []) ⟨hx, hb, hml, hown, hts⟩ (c_X4_length l dC dI cI cJ cZ q_1 (.ref (u_2 0)) (.ref (u_2 3)) (.int 0) (u_2 28) (u_2 29) (u_2 30) (.int 0) (.int 0) (.int (-1)) (.ref (u_2 31)) (.ref (u_2 32)) (.ref (u_2 33)) (.long 0) (fun _ => 0) (fun _ => 0) (xs (1 : Int32).toNatClampNeg) H_4.size) (cwV 1 hts g_L_law_X4_length_85 rfl rfl rfl (by decide +kernel) ⟨Nat.le_of_ble_eq_true rfl, Nat.le_of_ble_eq_true rfl⟩) ⟨cPre_blind, va_recv hK hPc (ci := 4) (q0 := 0) rfl rfl, cPre_of hK hN hPc hDc⟩ rfl rfl hl.1 rfl (lv_room (Nat.le_of_ble_eq_true rfl)) dL_law_604 ⟨Nat.le_of_ble_eq_true rfl, Nat.le_of_ble_eq_true rfl⟩) hS (fun q _ h => hFc q h) hFc (fun r_54 u_54 t_54 H_54 locs_54 ht hvm hw_54 hB hz1 hk1 hS1 => ?_)
        obtain ⟨hP1, hK1, hD1⟩ := hB
        rw [ht] at hP1
        obtain ⟨hP2, hD2⟩ := va_join (wr := [(q_3, .inr (5, [.int 0, .ref (u_4 0), .ref (u_4 1), .ref (u_4 2), .ref (u_4 3), .ref (u_4 4), .ref (u_4 5), .ref (u_4 6), .ref (u_4 7), .ref (u_4 8), .ref (u_4 9), .ref (u_4 10), .ref (u_4 11), .ref (u_4 12), .ref (u_4 13), .ref (u_4 14), .ref (u_4 15), .ref (u_4 16), .ref (u_4 17), .ref (u_4 18), .ref (u_4 19), .int 0, .int 0, .int 0, .int (-1), .ref (u_4 20), .ref (u_4 21), .ref (u_4 22), .ref (u_4 23), .ref (u_4 24), .ref (u_4 25), .long 0, .long 0, .long 0, .ref (u_4 26), .ref (u_4 27)])), ((u_4 20), .inl (cI, 6, .inl (ov (fun _ => 0) 6 0))), ((u_4 21), .inl (cI, 6, .inl (ov (fun _ => 0) 6 (-1))))]) (w1 := []) hP hD [0, 1, 2, 3] [4, 5, 6] rfl rfl (by decide) (by decide) hk1 hFc hP1 hD1
        clear hPc hDc hFc hP1 hD1 hK1 hk1 hz1 hvm ht
        replace hP : va_P (dC, dI) vwCl [(q_3, .inr (5, [.int 0, .ref (u_4 0), .ref (u_4 1), .ref (u_4 2), .ref (u_4 3), .ref (u_4 4), .ref (u_4 5), .ref (u_4 6), .ref (u_4 7), .ref (u_4 8), .ref (u_4 9), .ref (u_4 10), .ref (u_4 11), .ref (u_4 12), .ref (u_4 13), .ref (u_4 14), .ref (u_4 15), .ref (u_4 16), .ref (u_4 17), .ref (u_4 18), .ref (u_4 19), .int 0, .int 0, .int 0, .int (-1), .ref (u_4 20), .ref (u_4 21), .ref (u_4 22), .ref (u_4 23), .ref (u_4 24), .ref (u_4 25), .long 0, .long 0, .long 0, .ref (u_4 26), .ref (u_4 27)])), ((u_4 20), .inl (cI, 6, .inl (ov (fun _ => 0) 6 0))), ((u_4 21), .inl (cI, 6, .inl (ov (fun _ => 0) 6 (-1))))] H_54 := hP2
        replace hD : va_D (fun q : Nat => s.heap.size ≤ q) [(q_3, .inr (5, [.int 0, .ref (u_4 0), .ref (u_4 1), .ref (u_4 2), .ref (u_4 3), .ref (u_4 4), .ref (u_4 5), .ref (u_4 6), .ref (u_4 7), .ref (u_4 8), .ref (u_4 9), .ref (u_4 10), .ref (u_4 11), .ref (u_4 12), .ref (u_4 13), .ref (u_4 14), .ref (u_4 15), .ref (u_4 16), .ref (u_4 17), .ref (u_4 18), .ref (u_4 19), .int 0, .int 0, .int 0, .int (-1), .ref (u_4 20), .ref (u_4 21), .ref (u_4 22), .ref (u_4 23), .ref (u_4 24), .ref (u_4 25), .long 0, .long 0, .long 0, .ref (u_4 26), .ref (u_4 27)])), ((u_4 20), .inl (cI, 6, .inl (ov (fun _ => 0) 6 0))), ((u_4 21), .inl (cI, 6, .inl (ov (fun _ => 0) 6 (-1))))] := hD2
        replace hS := hS1
        clear hP2 hD2 hS1
        refine lv_aload_n hx hb dL_law_607 rfl (lv_at hl 1 rfl) ?_
        refine lv_aload_n hx hb dL_law_608 rfl (lv_at hl 3 rfl) ?_
        refine lv_iload_n hx hb dL_law_609 rfl (lv_at hl 0 rfl) ?_
        refine lv_iconst (v := 1) hx hb dL_law_610 (by decide) ?_
        refine lv_iadd hx hb dL_law_611 ?_
        refine my_topi (y := 1) (by decide) ?_
        refine va_sld hx hb hX hbl hbA hS (vp_in_iff.mpr (by decide)) dL_law_612 ?_
        have hPc := hP.sub (ws' := [(q_3, .inr (5, [.int 0, .ref (u_4 0), .ref (u_4 1), .ref (u_4 2), .ref (u_4 3), .ref (u_4 4), .ref (u_4 5), .ref (u_4 6), .ref (u_4 7), .ref (u_4 8), .ref (u_4 9), .ref (u_4 10), .ref (u_4 11), .ref (u_4 12), .ref (u_4 13), .ref (u_4 14), .ref (u_4 15), .ref (u_4 16), .ref (u_4 17), .ref (u_4 18), .ref (u_4 19), .int 0, .int 0, .int 0, .int (-1), .ref (u_4 20), .ref (u_4 21), .ref (u_4 22), .ref (u_4 23), .ref (u_4 24), .ref (u_4 25), .long 0, .long 0, .long 0, .ref (u_4 26), .ref (u_4 27)])), ((u_4 20), .inl (cI, 6, .inl (ov (fun _ => 0) 6 0))), ((u_4 21), .inl (cI, 6, .inl (ov (fun _ => 0) 6 (-1))))]) [0, 1, 2] rfl
        have hDc := hD.sub (ws' := [(q_3, .inr (5, [.int 0, .ref (u_4 0), .ref (u_4 1), .ref (u_4 2), .ref (u_4 3), .ref (u_4 4), .ref (u_4 5), .ref (u_4 6), .ref (u_4 7), .ref (u_4 8), .ref (u_4 9), .ref (u_4 10), .ref (u_4 11), .ref (u_4 12), .ref (u_4 13), .ref (u_4 14), .ref (u_4 15), .ref (u_4 16), .ref (u_4 17), .ref (u_4 18), .ref (u_4 19), .int 0, .int 0, .int 0, .int (-1), .ref (u_4 20), .ref (u_4 21), .ref (u_4 22), .ref (u_4 23), .ref (u_4 24), .ref (u_4 25), .long 0, .long 0, .long 0, .ref (u_4 26), .ref (u_4 27)])), ((u_4 20), .inl (cI, 6, .inl (ov (fun _ => 0) 6 0))), ((u_4 21), .inl (cI, 6, .inl (ov (fun _ => 0) 6 (-1))))]) [0, 1, 2] (by decide) rfl
        have hFc := va_free (wc := [(q_3, .inr (5, [.int 0, .ref (u_4 0), .ref (u_4 1), .ref (u_4 2), .ref (u_4 3), .ref (u_4 4), .ref (u_4 5), .ref (u_4 6), .ref (u_4 7), .ref (u_4 8), .ref (u_4 9), .ref (u_4 10), .ref (u_4 11), .ref (u_4 12), .ref (u_4 13), .ref (u_4 14), .ref (u_4 15), .ref (u_4 16), .ref (u_4 17), .ref (u_4 18), .ref (u_4 19), .int 0, .int 0, .int 0, .int (-1), .ref (u_4 20), .ref (u_4 21), .ref (u_4 22), .ref (u_4 23), .ref (u_4 24), .ref (u_4 25), .long 0, .long 0, .long 0, .ref (u_4 26), .ref (u_4 27)])), ((u_4 20), .inl (cI, 6, .inl (ov (fun _ => 0) 6 0))), ((u_4 21), .inl (cI, 6, .inl (ov (fun _ => 0) 6 (-1))))]) hD hS hA [0, 1, 2] rfl
        refine va_calli (va_runV (As := [.int (xs (1 : Int32).toNatClampNeg)]) (rest := [.int r_54]) ⟨hx, hb, hml, hown, hts⟩ (c_X5_length l dC dI cI cJ cZ q_3 (u_4 20) (u_4 21) (fun _ => 0) (fun _ => 0) (.int 0) (.ref (u_4 0)) (.ref (u_4 1)) (.ref (u_4 2)) (.ref (u_4 3)) (.ref (u_4 4)) (.ref (u_4 5)) (.ref (u_4 6)) (.ref (u_4 7)) (.ref (u_4 8)) (.ref (u_4 9)) (.ref (u_4 10)) (.ref (u_4 11)) (.ref (u_4 12)) (.ref (u_4 13)) (.ref (u_4 14)) (.ref (u_4 15)) (.ref (u_4 16)) (.ref (u_4 17)) (.ref (u_4 18)) (.ref (u_4 19)) (.int 0) (.int 0) (.int 0) (.int (-1)) (.ref (u_4 22)) (.ref (u_4 23)) (.ref (u_4 24)) (.ref (u_4 25)) (.long 0) (.long 0) (.long 0) (.ref (u_4 26)) (.ref (u_4 27)) (xs (1 : Int32).toNatClampNeg) H_54.size) (cwV 1 hts g_L_law_X5_length_88 rfl rfl rfl (by decide +kernel) ⟨Nat.le_of_ble_eq_true rfl, Nat.le_of_ble_eq_true rfl⟩) ⟨cPre_blind, va_recv hK hPc (ci := 5) (q0 := 0) rfl rfl, cPre_of hK hN hPc hDc⟩ rfl rfl hl.1 rfl (lv_room (Nat.le_of_ble_eq_true rfl)) dL_law_613 ⟨Nat.le_of_ble_eq_true rfl, Nat.le_of_ble_eq_true rfl⟩) hS (fun q _ h => hFc q h) hFc (fun r_55 u_55 t_55 H_55 locs_55 ht hvm hw_55 hB hz1 hk1 hS1 => ?_)
        obtain ⟨hP1, hK1, hD1⟩ := hB
        rw [ht] at hP1
        obtain ⟨hP2, hD2⟩ := va_join (wr := []) (w1 := []) hP hD [0, 1, 2] [] rfl rfl (by decide) (by decide) hk1 hFc hP1 hD1
        clear hPc hDc hFc hP1 hD1 hK1 hk1 hz1 hvm ht
        replace hP : va_P (dC, dI) vwCl [] H_55 := hP2
        replace hD : va_D (fun q : Nat => s.heap.size ≤ q) [] := hD2
        replace hS := hS1
        clear hP2 hD2 hS1
        refine lv_icmp_eq (tgt := 730) hx hb dL_law_616 (by decide) (fun c_56 => ?_) (fun c_56 => ?_)
        · -- on
          refine lv_iinc (v := 7) (lv' := [(3, .int 7), (2, .ref q_3), (1, .ref q_1), (0, .ref b)]) hx hb dL_law_730 hl (k := 0) rfl (by decide) (by decide) rfl (fun ls1 hl1 => ?_)
          replace hl := hl1; clear hl1
          refine lv_goto (tgt := 18) hx hb dL_law_733 (by decide) ?_
          refine lv_iload_n hx hb dL_law_18 rfl (lv_at hl 0 rfl) ?_
          refine lv_aload_n hx hb dL_law_19 rfl (lv_at hl 3 rfl) ?_
          refine va_slen hx hb hX hbl hbA hS dL_law_20 ?_
          refine lv_bipush (v := 7) hx hb dL_law_21 (by decide) ?_
          refine lv_isub hx hb dL_law_23 ?_
          refine my_topi (y := 0) (by decide) ?_
          refine lv_icmp_gt (tgt := 736) hx hb dL_law_24 (by decide) (fun c_0 => ?_) (fun c_0 => ?_)
          · -- end
            refine lv_iconst (v := 1) hx hb dL_law_736 (by decide) ?_
            refine va_forget (fun q hq => hS.2.2 q hq) ?_
            refine W.widen (k := 64) (n := 6560) (Nat.le_of_ble_eq_true rfl) (Nat.le_of_ble_eq_true rfl) ?_
            exact lw_ret hx hb hr hlocks dL_law_737
          · exact absurd (by decide) c_0
        · exact absurd (two_eq hw_54 hw_55) c_56
      · -- case 17
        refine lv_tableIn (tgt := 621) (off := 588) hx hb dL_law_33 (by omega) (by omega) (by rw [sv_5]; rfl) (by decide) ?_
        replace hP := hP.sub (ws' := [(q_1, .inr (4, [.ref (u_2 0), .ref (u_2 3), .ref (u_2 28), .int 0])), ((u_2 28), .inr (2, [.int 0, .int 0, .int (-1), .ref (u_2 29), .ref (u_2 30), .ref (u_2 31), .ref (u_2 32), .ref (u_2 33), .long 0])), (q_3, .inr (5, [.int 0, .ref (u_4 0), .ref (u_4 1), .ref (u_4 2), .ref (u_4 3), .ref (u_4 4), .ref (u_4 5), .ref (u_4 6), .ref (u_4 7), .ref (u_4 8), .ref (u_4 9), .ref (u_4 10), .ref (u_4 11), .ref (u_4 12), .ref (u_4 13), .ref (u_4 14), .ref (u_4 15), .ref (u_4 16), .ref (u_4 17), .ref (u_4 18), .ref (u_4 19), .int 0, .int 0, .int 0, .int (-1), .ref (u_4 20), .ref (u_4 21), .ref (u_4 22), .ref (u_4 23), .ref (u_4 24), .ref (u_4 25), .long 0, .long 0, .long 0, .ref (u_4 26), .ref (u_4 27)]))]) [0, 29, 35] rfl
        replace hD := hD.sub (ws' := [(q_1, .inr (4, [.ref (u_2 0), .ref (u_2 3), .ref (u_2 28), .int 0])), ((u_2 28), .inr (2, [.int 0, .int 0, .int (-1), .ref (u_2 29), .ref (u_2 30), .ref (u_2 31), .ref (u_2 32), .ref (u_2 33), .long 0])), (q_3, .inr (5, [.int 0, .ref (u_4 0), .ref (u_4 1), .ref (u_4 2), .ref (u_4 3), .ref (u_4 4), .ref (u_4 5), .ref (u_4 6), .ref (u_4 7), .ref (u_4 8), .ref (u_4 9), .ref (u_4 10), .ref (u_4 11), .ref (u_4 12), .ref (u_4 13), .ref (u_4 14), .ref (u_4 15), .ref (u_4 16), .ref (u_4 17), .ref (u_4 18), .ref (u_4 19), .int 0, .int 0, .int 0, .int (-1), .ref (u_4 20), .ref (u_4 21), .ref (u_4 22), .ref (u_4 23), .ref (u_4 24), .ref (u_4 25), .long 0, .long 0, .long 0, .ref (u_4 26), .ref (u_4 27)]))]) [0, 29, 35] (by decide) rfl
        refine lv_aload_n hx hb dL_law_621 rfl (lv_at hl 2 rfl) ?_
        refine lv_aload_n hx hb dL_law_622 rfl (lv_at hl 3 rfl) ?_
        refine lv_iload_n hx hb dL_law_623 rfl (lv_at hl 0 rfl) ?_
        refine lv_iconst (v := 1) hx hb dL_law_624 (by decide) ?_
        refine lv_iadd hx hb dL_law_625 ?_
        refine my_topi (y := 1) (by decide) ?_
        refine va_sld hx hb hX hbl hbA hS (vp_in_iff.mpr (by decide)) dL_law_626 ?_
        refine lv_aload_n hx hb dL_law_627 rfl (lv_at hl 3 rfl) ?_
        refine lv_iload_n hx hb dL_law_628 rfl (lv_at hl 0 rfl) ?_
        refine lv_iconst (v := 2) hx hb dL_law_629 (by decide) ?_
        refine lv_iadd hx hb dL_law_630 ?_
        refine my_topi (y := 2) (by decide) ?_
        refine va_sld hx hb hX hbl hbA hS (vp_in_iff.mpr (by decide)) dL_law_631 ?_
        have hPc := hP.sub (ws' := [(q_1, .inr (4, [.ref (u_2 0), .ref (u_2 3), .ref (u_2 28), .int 0])), ((u_2 28), .inr (2, [.int 0, .int 0, .int (-1), .ref (u_2 29), .ref (u_2 30), .ref (u_2 31), .ref (u_2 32), .ref (u_2 33), .long 0]))]) [0, 1] rfl
        have hDc := hD.sub (ws' := [(q_1, .inr (4, [.ref (u_2 0), .ref (u_2 3), .ref (u_2 28), .int 0])), ((u_2 28), .inr (2, [.int 0, .int 0, .int (-1), .ref (u_2 29), .ref (u_2 30), .ref (u_2 31), .ref (u_2 32), .ref (u_2 33), .long 0]))]) [0, 1] (by decide) rfl
        have hFc := va_free (wc := [(q_1, .inr (4, [.ref (u_2 0), .ref (u_2 3), .ref (u_2 28), .int 0])), ((u_2 28), .inr (2, [.int 0, .int 0, .int (-1), .ref (u_2 29), .ref (u_2 30), .ref (u_2 31), .ref (u_2 32), .ref (u_2 33), .long 0]))]) hD hS hA [0, 1] rfl
        refine va_calli (va_runV (As := [.int (xs (1 : Int32).toNatClampNeg), .int (xs (2 : Int32).toNatClampNeg)]) (rest := []) ⟨hx, hb, hml, hown, hts⟩ (c_X4_same l dC dI cI cJ cZ q_1 (u_2 28) (.ref (u_2 0)) (.ref (u_2 3)) (.int 0) (.int 0) (.int (-1)) (.ref (u_2 29)) (.ref (u_2 30)) (.ref (u_2 31)) (.ref (u_2 32)) (.ref (u_2 33)) (.long 0) (xs (1 : Int32).toNatClampNeg) (xs (2 : Int32).toNatClampNeg) H_4.size) (cwV 2 hts g_L_law_X4_same_89 rfl rfl rfl (by decide +kernel) ⟨Nat.le_of_ble_eq_true rfl, Nat.le_of_ble_eq_true rfl⟩) ⟨cPre_blind, va_recv hK hPc (ci := 4) (q0 := 0) rfl rfl, cPre_of hK hN hPc hDc⟩ rfl rfl hl.1 rfl (lv_room (Nat.le_of_ble_eq_true rfl)) dL_law_632 ⟨Nat.le_of_ble_eq_true rfl, Nat.le_of_ble_eq_true rfl⟩) hS (fun q _ h => hFc q h) hFc (fun r_57 u_57 t_57 H_57 locs_57 ht hvm hw_57 hB hz1 hk1 hS1 => ?_)
        obtain ⟨hP1, hK1, hD1⟩ := hB
        rw [ht] at hP1
        obtain ⟨hP2, hD2⟩ := va_join (wr := [(q_3, .inr (5, [.int 0, .ref (u_4 0), .ref (u_4 1), .ref (u_4 2), .ref (u_4 3), .ref (u_4 4), .ref (u_4 5), .ref (u_4 6), .ref (u_4 7), .ref (u_4 8), .ref (u_4 9), .ref (u_4 10), .ref (u_4 11), .ref (u_4 12), .ref (u_4 13), .ref (u_4 14), .ref (u_4 15), .ref (u_4 16), .ref (u_4 17), .ref (u_4 18), .ref (u_4 19), .int 0, .int 0, .int 0, .int (-1), .ref (u_4 20), .ref (u_4 21), .ref (u_4 22), .ref (u_4 23), .ref (u_4 24), .ref (u_4 25), .long 0, .long 0, .long 0, .ref (u_4 26), .ref (u_4 27)]))]) (w1 := []) hP hD [0, 1] [2] rfl rfl (by decide) (by decide) hk1 hFc hP1 hD1
        clear hPc hDc hFc hP1 hD1 hK1 hk1 hz1 hvm ht
        replace hP : va_P (dC, dI) vwCl [(q_3, .inr (5, [.int 0, .ref (u_4 0), .ref (u_4 1), .ref (u_4 2), .ref (u_4 3), .ref (u_4 4), .ref (u_4 5), .ref (u_4 6), .ref (u_4 7), .ref (u_4 8), .ref (u_4 9), .ref (u_4 10), .ref (u_4 11), .ref (u_4 12), .ref (u_4 13), .ref (u_4 14), .ref (u_4 15), .ref (u_4 16), .ref (u_4 17), .ref (u_4 18), .ref (u_4 19), .int 0, .int 0, .int 0, .int (-1), .ref (u_4 20), .ref (u_4 21), .ref (u_4 22), .ref (u_4 23), .ref (u_4 24), .ref (u_4 25), .long 0, .long 0, .long 0, .ref (u_4 26), .ref (u_4 27)]))] H_57 := hP2
        replace hD : va_D (fun q : Nat => s.heap.size ≤ q) [(q_3, .inr (5, [.int 0, .ref (u_4 0), .ref (u_4 1), .ref (u_4 2), .ref (u_4 3), .ref (u_4 4), .ref (u_4 5), .ref (u_4 6), .ref (u_4 7), .ref (u_4 8), .ref (u_4 9), .ref (u_4 10), .ref (u_4 11), .ref (u_4 12), .ref (u_4 13), .ref (u_4 14), .ref (u_4 15), .ref (u_4 16), .ref (u_4 17), .ref (u_4 18), .ref (u_4 19), .int 0, .int 0, .int 0, .int (-1), .ref (u_4 20), .ref (u_4 21), .ref (u_4 22), .ref (u_4 23), .ref (u_4 24), .ref (u_4 25), .long 0, .long 0, .long 0, .ref (u_4 26), .ref (u_4 27)]))] := hD2
        replace hS := hS1
        clear hP2 hD2 hS1
        refine lv_aload_n hx hb dL_law_635 rfl (lv_at hl 1 rfl) ?_
        refine lv_aload_n hx hb dL_law_636 rfl (lv_at hl 3 rfl) ?_
        refine lv_iload_n hx hb dL_law_637 rfl (lv_at hl 0 rfl) ?_
        refine lv_iconst (v := 1) hx hb dL_law_638 (by decide) ?_
        refine lv_iadd hx hb dL_law_639 ?_
        refine my_topi (y := 1) (by decide) ?_
        refine va_sld hx hb hX hbl hbA hS (vp_in_iff.mpr (by decide)) dL_law_640 ?_
        refine lv_aload_n hx hb dL_law_641 rfl (lv_at hl 3 rfl) ?_
        refine lv_iload_n hx hb dL_law_642 rfl (lv_at hl 0 rfl) ?_
        refine lv_iconst (v := 2) hx hb dL_law_643 (by decide) ?_
        refine lv_iadd hx hb dL_law_644 ?_
        refine my_topi (y := 2) (by decide) ?_
        refine va_sld hx hb hX hbl hbA hS (vp_in_iff.mpr (by decide)) dL_law_645 ?_
        have hPc := hP.sub (ws' := [(q_3, .inr (5, [.int 0, .ref (u_4 0), .ref (u_4 1), .ref (u_4 2), .ref (u_4 3), .ref (u_4 4), .ref (u_4 5), .ref (u_4 6), .ref (u_4 7), .ref (u_4 8), .ref (u_4 9), .ref (u_4 10), .ref (u_4 11), .ref (u_4 12), .ref (u_4 13), .ref (u_4 14), .ref (u_4 15), .ref (u_4 16), .ref (u_4 17), .ref (u_4 18), .ref (u_4 19), .int 0, .int 0, .int 0, .int (-1), .ref (u_4 20), .ref (u_4 21), .ref (u_4 22), .ref (u_4 23), .ref (u_4 24), .ref (u_4 25), .long 0, .long 0, .long 0, .ref (u_4 26), .ref (u_4 27)]))]) [0] rfl
        have hDc := hD.sub (ws' := [(q_3, .inr (5, [.int 0, .ref (u_4 0), .ref (u_4 1), .ref (u_4 2), .ref (u_4 3), .ref (u_4 4), .ref (u_4 5), .ref (u_4 6), .ref (u_4 7), .ref (u_4 8), .ref (u_4 9), .ref (u_4 10), .ref (u_4 11), .ref (u_4 12), .ref (u_4 13), .ref (u_4 14), .ref (u_4 15), .ref (u_4 16), .ref (u_4 17), .ref (u_4 18), .ref (u_4 19), .int 0, .int 0, .int 0, .int (-1), .ref (u_4 20), .ref (u_4 21), .ref (u_4 22), .ref (u_4 23), .ref (u_4 24), .ref (u_4 25), .long 0, .long 0, .long 0, .ref (u_4 26), .ref (u_4 27)]))]) [0] (by decide) rfl
        have hFc := va_free (wc := [(q_3, .inr (5, [.int 0, .ref (u_4 0), .ref (u_4 1), .ref (u_4 2), .ref (u_4 3), .ref (u_4 4), .ref (u_4 5), .ref (u_4 6), .ref (u_4 7), .ref (u_4 8), .ref (u_4 9), .ref (u_4 10), .ref (u_4 11), .ref (u_4 12), .ref (u_4 13), .ref (u_4 14), .ref (u_4 15), .ref (u_4 16), .ref (u_4 17), .ref (u_4 18), .ref (u_4 19), .int 0, .int 0, .int 0, .int (-1), .ref (u_4 20), .ref (u_4 21), .ref (u_4 22), .ref (u_4 23), .ref (u_4 24), .ref (u_4 25), .long 0, .long 0, .long 0, .ref (u_4 26), .ref (u_4 27)]))]) hD hS hA [0] rfl
        refine va_calli (va_runV (As := [.int (xs (1 : Int32).toNatClampNeg), .int (xs (2 : Int32).toNatClampNeg)]) (rest := [.int r_57]) ⟨hx, hb, hml, hown, hts⟩ (c_X5_same l dC dI cI cJ cZ q_3 (.int 0) (.ref (u_4 0)) (.ref (u_4 1)) (.ref (u_4 2)) (.ref (u_4 3)) (.ref (u_4 4)) (.ref (u_4 5)) (.ref (u_4 6)) (.ref (u_4 7)) (.ref (u_4 8)) (.ref (u_4 9)) (.ref (u_4 10)) (.ref (u_4 11)) (.ref (u_4 12)) (.ref (u_4 13)) (.ref (u_4 14)) (.ref (u_4 15)) (.ref (u_4 16)) (.ref (u_4 17)) (.ref (u_4 18)) (.ref (u_4 19)) (.int 0) (.int 0) (.int (-1)) (.ref (u_4 20)) (.ref (u_4 21)) (.ref (u_4 22)) (.ref (u_4 23)) (.ref (u_4 24)) (.ref (u_4 25)) (.long 0) (.long 0) (.long 0) (.ref (u_4 26)) (.ref (u_4 27)) (xs (1 : Int32).toNatClampNeg) (xs (2 : Int32).toNatClampNeg) H_57.size) (cwV 2 hts g_L_law_X5_same_92 rfl rfl rfl (by decide +kernel) ⟨Nat.le_of_ble_eq_true rfl, Nat.le_of_ble_eq_true rfl⟩) ⟨cPre_blind, va_recv hK hPc (ci := 5) (q0 := 0) rfl rfl, cPre_of hK hN hPc hDc⟩ rfl rfl hl.1 rfl (lv_room (Nat.le_of_ble_eq_true rfl)) dL_law_646 ⟨Nat.le_of_ble_eq_true rfl, Nat.le_of_ble_eq_true rfl⟩) hS (fun q _ h => hFc q h) hFc (fun r_58 u_58 t_58 H_58 locs_58 ht hvm hw_58 hB hz1 hk1 hS1 => ?_)
        obtain ⟨hP1, hK1, hD1⟩ := hB
        rw [ht] at hP1
        obtain ⟨hP2, hD2⟩ := va_join (wr := []) (w1 := []) hP hD [0] [] rfl rfl (by decide) (by decide) hk1 hFc hP1 hD1
        clear hPc hDc hFc hP1 hD1 hK1 hk1 hz1 hvm ht
        replace hP : va_P (dC, dI) vwCl [] H_58 := hP2
        replace hD : va_D (fun q : Nat => s.heap.size ≤ q) [] := hD2
        replace hS := hS1
        clear hP2 hD2 hS1
        refine lv_icmp_eq (tgt := 730) hx hb dL_law_649 (by decide) (fun c_59 => ?_) (fun c_59 => ?_)
        · -- on
          refine lv_iinc (v := 7) (lv' := [(3, .int 7), (2, .ref q_3), (1, .ref q_1), (0, .ref b)]) hx hb dL_law_730 hl (k := 0) rfl (by decide) (by decide) rfl (fun ls1 hl1 => ?_)
          replace hl := hl1; clear hl1
          refine lv_goto (tgt := 18) hx hb dL_law_733 (by decide) ?_
          refine lv_iload_n hx hb dL_law_18 rfl (lv_at hl 0 rfl) ?_
          refine lv_aload_n hx hb dL_law_19 rfl (lv_at hl 3 rfl) ?_
          refine va_slen hx hb hX hbl hbA hS dL_law_20 ?_
          refine lv_bipush (v := 7) hx hb dL_law_21 (by decide) ?_
          refine lv_isub hx hb dL_law_23 ?_
          refine my_topi (y := 0) (by decide) ?_
          refine lv_icmp_gt (tgt := 736) hx hb dL_law_24 (by decide) (fun c_0 => ?_) (fun c_0 => ?_)
          · -- end
            refine lv_iconst (v := 1) hx hb dL_law_736 (by decide) ?_
            refine va_forget (fun q hq => hS.2.2 q hq) ?_
            refine W.widen (k := 64) (n := 6560) (Nat.le_of_ble_eq_true rfl) (Nat.le_of_ble_eq_true rfl) ?_
            exact lw_ret hx hb hr hlocks dL_law_737
          · exact absurd (by decide) c_0
        · exact absurd (two_eq hw_57 hw_58) c_59
      · -- case 18
        refine lv_tableIn (tgt := 654) (off := 621) hx hb dL_law_33 (by omega) (by omega) (by rw [sv_5]; rfl) (by decide) ?_
        replace hP := hP.sub (ws' := [(q_1, .inr (4, [.ref (u_2 0), .ref (u_2 3), .ref (u_2 28), .int 0])), ((u_2 0), .inr (3, [.ref (u_2 1), .ref (u_2 2), .int 0])), ((u_2 3), .inr (1, [.ref (u_2 4), .ref (u_2 15), .int 1, .ref (u_2 26), .ref (u_2 27), .int 0, .int 0, .int 0])), ((u_2 4), .inr (0, [.int 0, .ref (u_2 5), .ref (u_2 6), .ref (u_2 7), .ref (u_2 8), .ref (u_2 9), .ref (u_2 10), .ref (u_2 11), .ref (u_2 12), .ref (u_2 13), .ref (u_2 14)])), ((u_2 5), .inl (cI, 6, .inl (fun _ => 0))), ((u_2 6), .inl (cI, 6, .inl (fun _ => 0))), ((u_2 7), .inl (cJ, 6, .inr (.inl (fun _ => 0)))), ((u_2 8), .inl (cZ, 6, .inl (fun _ => 0))), ((u_2 9), .inl (cZ, 40, .inl (fun _ => 0))), ((u_2 26), .inl (cZ, 40, .inl (fun _ => 0))), ((u_2 27), .inl (cI, 40, .inl (fun _ => 0))), ((u_2 28), .inr (2, [.int 0, .int 0, .int (-1), .ref (u_2 29), .ref (u_2 30), .ref (u_2 31), .ref (u_2 32), .ref (u_2 33), .long 0])), ((u_2 29), .inl (cI, 6, .inl (ov (fun _ => 0) 6 0))), ((u_2 30), .inl (cI, 6, .inl (ov (fun _ => 0) 6 (-1)))), (q_3, .inr (5, [.int 0, .ref (u_4 0), .ref (u_4 1), .ref (u_4 2), .ref (u_4 3), .ref (u_4 4), .ref (u_4 5), .ref (u_4 6), .ref (u_4 7), .ref (u_4 8), .ref (u_4 9), .ref (u_4 10), .ref (u_4 11), .ref (u_4 12), .ref (u_4 13), .ref (u_4 14), .ref (u_4 15), .ref (u_4 16), .ref (u_4 17), .ref (u_4 18), .ref (u_4 19), .int 0, .int 0, .int 0, .int (-1), .ref (u_4 20), .ref (u_4 21), .ref (u_4 22), .ref (u_4 23), .ref (u_4 24), .ref (u_4 25), .long 0, .long 0, .long 0, .ref (u_4 26), .ref (u_4 27)])), ((u_4 7), .inl (cZ, 2, .inl (fun _ => 0))), ((u_4 8), .inl (cJ, 12, .inr (.inl (fun _ => 0)))), ((u_4 9), .inl (cJ, 12, .inr (.inl (fun _ => 0)))), ((u_4 10), .inl (cJ, 12, .inr (.inl (fun _ => 0)))), ((u_4 11), .inl (cZ, 12, .inl (fun _ => 0))), ((u_4 12), .inl (cZ, 80, .inl (fun _ => 0))), ((u_4 18), .inl (cZ, 40, .inl (fun _ => 0))), ((u_4 19), .inl (cI, 40, .inl (fun _ => 0))), ((u_4 20), .inl (cI, 6, .inl (ov (fun _ => 0) 6 0))), ((u_4 21), .inl (cI, 6, .inl (ov (fun _ => 0) 6 (-1))))]) [0, 1, 4, 5, 6, 7, 8, 9, 10, 27, 28, 29, 30, 31, 35, 43, 44, 45, 46, 47, 48, 54, 55, 56, 57] rfl
        replace hD := hD.sub (ws' := [(q_1, .inr (4, [.ref (u_2 0), .ref (u_2 3), .ref (u_2 28), .int 0])), ((u_2 0), .inr (3, [.ref (u_2 1), .ref (u_2 2), .int 0])), ((u_2 3), .inr (1, [.ref (u_2 4), .ref (u_2 15), .int 1, .ref (u_2 26), .ref (u_2 27), .int 0, .int 0, .int 0])), ((u_2 4), .inr (0, [.int 0, .ref (u_2 5), .ref (u_2 6), .ref (u_2 7), .ref (u_2 8), .ref (u_2 9), .ref (u_2 10), .ref (u_2 11), .ref (u_2 12), .ref (u_2 13), .ref (u_2 14)])), ((u_2 5), .inl (cI, 6, .inl (fun _ => 0))), ((u_2 6), .inl (cI, 6, .inl (fun _ => 0))), ((u_2 7), .inl (cJ, 6, .inr (.inl (fun _ => 0)))), ((u_2 8), .inl (cZ, 6, .inl (fun _ => 0))), ((u_2 9), .inl (cZ, 40, .inl (fun _ => 0))), ((u_2 26), .inl (cZ, 40, .inl (fun _ => 0))), ((u_2 27), .inl (cI, 40, .inl (fun _ => 0))), ((u_2 28), .inr (2, [.int 0, .int 0, .int (-1), .ref (u_2 29), .ref (u_2 30), .ref (u_2 31), .ref (u_2 32), .ref (u_2 33), .long 0])), ((u_2 29), .inl (cI, 6, .inl (ov (fun _ => 0) 6 0))), ((u_2 30), .inl (cI, 6, .inl (ov (fun _ => 0) 6 (-1)))), (q_3, .inr (5, [.int 0, .ref (u_4 0), .ref (u_4 1), .ref (u_4 2), .ref (u_4 3), .ref (u_4 4), .ref (u_4 5), .ref (u_4 6), .ref (u_4 7), .ref (u_4 8), .ref (u_4 9), .ref (u_4 10), .ref (u_4 11), .ref (u_4 12), .ref (u_4 13), .ref (u_4 14), .ref (u_4 15), .ref (u_4 16), .ref (u_4 17), .ref (u_4 18), .ref (u_4 19), .int 0, .int 0, .int 0, .int (-1), .ref (u_4 20), .ref (u_4 21), .ref (u_4 22), .ref (u_4 23), .ref (u_4 24), .ref (u_4 25), .long 0, .long 0, .long 0, .ref (u_4 26), .ref (u_4 27)])), ((u_4 7), .inl (cZ, 2, .inl (fun _ => 0))), ((u_4 8), .inl (cJ, 12, .inr (.inl (fun _ => 0)))), ((u_4 9), .inl (cJ, 12, .inr (.inl (fun _ => 0)))), ((u_4 10), .inl (cJ, 12, .inr (.inl (fun _ => 0)))), ((u_4 11), .inl (cZ, 12, .inl (fun _ => 0))), ((u_4 12), .inl (cZ, 80, .inl (fun _ => 0))), ((u_4 18), .inl (cZ, 40, .inl (fun _ => 0))), ((u_4 19), .inl (cI, 40, .inl (fun _ => 0))), ((u_4 20), .inl (cI, 6, .inl (ov (fun _ => 0) 6 0))), ((u_4 21), .inl (cI, 6, .inl (ov (fun _ => 0) 6 (-1))))]) [0, 1, 4, 5, 6, 7, 8, 9, 10, 27, 28, 29, 30, 31, 35, 43, 44, 45, 46, 47, 48, 54, 55, 56, 57] (by decide) rfl
        refine lv_aload_n hx hb dL_law_654 rfl (lv_at hl 2 rfl) ?_
        refine lv_aload_n hx hb dL_law_655 rfl (lv_at hl 3 rfl) ?_
        refine lv_iload_n hx hb dL_law_656 rfl (lv_at hl 0 rfl) ?_
        refine lv_iconst (v := 1) hx hb dL_law_657 (by decide) ?_
        refine lv_iadd hx hb dL_law_658 ?_
        refine my_topi (y := 1) (by decide) ?_
        refine va_sld hx hb hX hbl hbA hS (vp_in_iff.mpr (by decide)) dL_law_659 ?_
        refine lv_i2l (v := (xs (1 : Int32).toNatClampNeg).toInt64) hx hb dL_law_660 (by rfl) ?_
        refine lv_bipush (v := 32) hx hb dL_law_661 (by decide) ?_
        refine lv_lshl (v := ((xs (1 : Int32).toNatClampNeg).toInt64) <<< ((32 : Int32).toInt64 &&& 63)) hx hb dL_law_663 rfl ?_
        refine lv_aload_n hx hb dL_law_664 rfl (lv_at hl 3 rfl) ?_
        refine lv_iload_n hx hb dL_law_665 rfl (lv_at hl 0 rfl) ?_
        refine lv_iconst (v := 2) hx hb dL_law_666 (by decide) ?_
        refine lv_iadd hx hb dL_law_667 ?_
        refine my_topi (y := 2) (by decide) ?_
        refine va_sld hx hb hX hbl hbA hS (vp_in_iff.mpr (by decide)) dL_law_668 ?_
        refine lv_i2l (v := (xs (2 : Int32).toNatClampNeg).toInt64) hx hb dL_law_669 (by rfl) ?_
        refine lv_ldc2 hx hb hown (hts (.constantLong RL 66 (4294967295)) (List.mem_of_getElem? (i := 314) rfl)) dL_law_670 ?_
        refine lv_land hx hb dL_law_673 ?_
        refine lv_lor hx hb dL_law_674 ?_
        have hPc := hP.sub (ws' := [(q_1, .inr (4, [.ref (u_2 0), .ref (u_2 3), .ref (u_2 28), .int 0])), ((u_2 3), .inr (1, [.ref (u_2 4), .ref (u_2 15), .int 1, .ref (u_2 26), .ref (u_2 27), .int 0, .int 0, .int 0])), ((u_2 4), .inr (0, [.int 0, .ref (u_2 5), .ref (u_2 6), .ref (u_2 7), .ref (u_2 8), .ref (u_2 9), .ref (u_2 10), .ref (u_2 11), .ref (u_2 12), .ref (u_2 13), .ref (u_2 14)])), ((u_2 5), .inl (cI, 6, .inl (fun _ => 0))), ((u_2 6), .inl (cI, 6, .inl (fun _ => 0))), ((u_2 7), .inl (cJ, 6, .inr (.inl (fun _ => 0)))), ((u_2 8), .inl (cZ, 6, .inl (fun _ => 0))), ((u_2 9), .inl (cZ, 40, .inl (fun _ => 0))), ((u_2 26), .inl (cZ, 40, .inl (fun _ => 0))), ((u_2 27), .inl (cI, 40, .inl (fun _ => 0))), ((u_2 0), .inr (3, [.ref (u_2 1), .ref (u_2 2), .int 0])), ((u_2 28), .inr (2, [.int 0, .int 0, .int (-1), .ref (u_2 29), .ref (u_2 30), .ref (u_2 31), .ref (u_2 32), .ref (u_2 33), .long 0])), ((u_2 29), .inl (cI, 6, .inl (ov (fun _ => 0) 6 0))), ((u_2 30), .inl (cI, 6, .inl (ov (fun _ => 0) 6 (-1))))]) [0, 2, 3, 4, 5, 6, 7, 8, 9, 10, 1, 11, 12, 13] rfl
        have hDc := hD.sub (ws' := [(q_1, .inr (4, [.ref (u_2 0), .ref (u_2 3), .ref (u_2 28), .int 0])), ((u_2 3), .inr (1, [.ref (u_2 4), .ref (u_2 15), .int 1, .ref (u_2 26), .ref (u_2 27), .int 0, .int 0, .int 0])), ((u_2 4), .inr (0, [.int 0, .ref (u_2 5), .ref (u_2 6), .ref (u_2 7), .ref (u_2 8), .ref (u_2 9), .ref (u_2 10), .ref (u_2 11), .ref (u_2 12), .ref (u_2 13), .ref (u_2 14)])), ((u_2 5), .inl (cI, 6, .inl (fun _ => 0))), ((u_2 6), .inl (cI, 6, .inl (fun _ => 0))), ((u_2 7), .inl (cJ, 6, .inr (.inl (fun _ => 0)))), ((u_2 8), .inl (cZ, 6, .inl (fun _ => 0))), ((u_2 9), .inl (cZ, 40, .inl (fun _ => 0))), ((u_2 26), .inl (cZ, 40, .inl (fun _ => 0))), ((u_2 27), .inl (cI, 40, .inl (fun _ => 0))), ((u_2 0), .inr (3, [.ref (u_2 1), .ref (u_2 2), .int 0])), ((u_2 28), .inr (2, [.int 0, .int 0, .int (-1), .ref (u_2 29), .ref (u_2 30), .ref (u_2 31), .ref (u_2 32), .ref (u_2 33), .long 0])), ((u_2 29), .inl (cI, 6, .inl (ov (fun _ => 0) 6 0))), ((u_2 30), .inl (cI, 6, .inl (ov (fun _ => 0) 6 (-1))))]) [0, 2, 3, 4, 5, 6, 7, 8, 9, 10, 1, 11, 12, 13] (by decide) rfl
        have hFc := va_free (wc := [(q_1, .inr (4, [.ref (u_2 0), .ref (u_2 3), .ref (u_2 28), .int 0])), ((u_2 3), .inr (1, [.ref (u_2 4), .ref (u_2 15), .int 1, .ref (u_2 26), .ref (u_2 27), .int 0, .int 0, .int 0])), ((u_2 4), .inr (0, [.int 0, .ref (u_2 5), .ref (u_2 6), .ref (u_2 7), .ref (u_2 8), .ref (u_2 9), .ref (u_2 10), .ref (u_2 11), .ref (u_2 12), .ref (u_2 13), .ref (u_2 14)])), ((u_2 5), .inl (cI, 6, .inl (fun _ => 0))), ((u_2 6), .inl (cI, 6, .inl (fun _ => 0))), ((u_2 7), .inl (cJ, 6, .inr (.inl (fun _ => 0)))), ((u_2 8), .inl (cZ, 6, .inl (fun _ => 0))), ((u_2 9), .inl (cZ, 40, .inl (fun _ => 0))), ((u_2 26), .inl (cZ, 40, .inl (fun _ => 0))), ((u_2 27), .inl (cI, 40, .inl (fun _ => 0))), ((u_2 0), .inr (3, [.ref (u_2 1), .ref (u_2 2), .int 0])), ((u_2 28), .inr (2, [.int 0, .int 0, .int (-1), .ref (u_2 29), .ref (u_2 30), .ref (u_2 31), .ref (u_2 32), .ref (u_2 33), .long 0])), ((u_2 29), .inl (cI, 6, .inl (ov (fun _ => 0) 6 0))), ((u_2 30), .inl (cI, 6, .inl (ov (fun _ => 0) 6 (-1))))]) hD hS hA [0, 2, 3, 4, 5, 6, 7, 8, 9, 10, 1, 11, 12, 13] rfl
        refine va_calli (va_runV (As := [.long ((((xs (1 : Int32).toNatClampNeg).toInt64) <<< ((32 : Int32).toInt64 &&& 63)) ||| (((xs (2 : Int32).toNatClampNeg).toInt64) &&& 4294967295))]) (rest := []) ⟨hx, hb, hml, hown, hts⟩ (c_X4_holds l dC dI cI cJ cZ q_1 (.int 0) (u_2 3) (u_2 26) (u_2 27) (.ref (u_2 15)) (.int 0) (.int 0) (.int 0) (u_2 4) (u_2 5) (u_2 6) (u_2 7) (u_2 8) (u_2 9) 0 (.ref (u_2 10)) (.ref (u_2 11)) (.ref (u_2 12)) (.ref (u_2 13)) (.ref (u_2 14)) (fun _ => 0) (fun _ => 0) (fun _ => 0) (fun _ => 0) (fun _ => 0) (fun _ => 0) (fun _ => 0) (u_2 0) (.ref (u_2 1)) (.ref (u_2 2)) (u_2 28) (u_2 29) (u_2 30) (.int 0) (.int 0) (.int (-1)) (.ref (u_2 31)) (.ref (u_2 32)) (.ref (u_2 33)) (.long 0) (ov (fun _ => 0) 6 0) (ov (fun _ => 0) 6 (-1)) ((((xs (1 : Int32).toNatClampNeg).toInt64) <<< ((32 : Int32).toInt64 &&& 63)) ||| (((xs (2 : Int32).toNatClampNeg).toInt64) &&& 4294967295)) H_4.size) (cwV 1 hts g_L_law_X4_holds_93 rfl rfl rfl (by decide +kernel) ⟨Nat.le_of_ble_eq_true rfl, Nat.le_of_ble_eq_true rfl⟩) ⟨cPre_blind, va_recv hK hPc (ci := 4) (q0 := 0) rfl rfl, cPre_of hK hN hPc hDc⟩ rfl rfl hl.1 rfl (lv_room (Nat.le_of_ble_eq_true rfl)) dL_law_675 ⟨Nat.le_of_ble_eq_true rfl, Nat.le_of_ble_eq_true rfl⟩) hS (fun q _ h => hFc q h) hFc (fun r_60 u_60 t_60 H_60 locs_60 ht hvm hw_60 hB hz1 hk1 hS1 => ?_)
        obtain ⟨hP1, hK1, hD1⟩ := hB
        rw [ht] at hP1
        obtain ⟨hP2, hD2⟩ := va_join (wr := [(q_3, .inr (5, [.int 0, .ref (u_4 0), .ref (u_4 1), .ref (u_4 2), .ref (u_4 3), .ref (u_4 4), .ref (u_4 5), .ref (u_4 6), .ref (u_4 7), .ref (u_4 8), .ref (u_4 9), .ref (u_4 10), .ref (u_4 11), .ref (u_4 12), .ref (u_4 13), .ref (u_4 14), .ref (u_4 15), .ref (u_4 16), .ref (u_4 17), .ref (u_4 18), .ref (u_4 19), .int 0, .int 0, .int 0, .int (-1), .ref (u_4 20), .ref (u_4 21), .ref (u_4 22), .ref (u_4 23), .ref (u_4 24), .ref (u_4 25), .long 0, .long 0, .long 0, .ref (u_4 26), .ref (u_4 27)])), ((u_4 7), .inl (cZ, 2, .inl (fun _ => 0))), ((u_4 8), .inl (cJ, 12, .inr (.inl (fun _ => 0)))), ((u_4 9), .inl (cJ, 12, .inr (.inl (fun _ => 0)))), ((u_4 10), .inl (cJ, 12, .inr (.inl (fun _ => 0)))), ((u_4 11), .inl (cZ, 12, .inl (fun _ => 0))), ((u_4 12), .inl (cZ, 80, .inl (fun _ => 0))), ((u_4 18), .inl (cZ, 40, .inl (fun _ => 0))), ((u_4 19), .inl (cI, 40, .inl (fun _ => 0))), ((u_4 20), .inl (cI, 6, .inl (ov (fun _ => 0) 6 0))), ((u_4 21), .inl (cI, 6, .inl (ov (fun _ => 0) 6 (-1))))]) (w1 := []) hP hD [0, 2, 3, 4, 5, 6, 7, 8, 9, 10, 1, 11, 12, 13] [14, 15, 16, 17, 18, 19, 20, 21, 22, 23, 24] rfl rfl (by decide) (by decide) hk1 hFc hP1 hD1
        clear hPc hDc hFc hP1 hD1 hK1 hk1 hz1 hvm ht
        replace hP : va_P (dC, dI) vwCl [(q_3, .inr (5, [.int 0, .ref (u_4 0), .ref (u_4 1), .ref (u_4 2), .ref (u_4 3), .ref (u_4 4), .ref (u_4 5), .ref (u_4 6), .ref (u_4 7), .ref (u_4 8), .ref (u_4 9), .ref (u_4 10), .ref (u_4 11), .ref (u_4 12), .ref (u_4 13), .ref (u_4 14), .ref (u_4 15), .ref (u_4 16), .ref (u_4 17), .ref (u_4 18), .ref (u_4 19), .int 0, .int 0, .int 0, .int (-1), .ref (u_4 20), .ref (u_4 21), .ref (u_4 22), .ref (u_4 23), .ref (u_4 24), .ref (u_4 25), .long 0, .long 0, .long 0, .ref (u_4 26), .ref (u_4 27)])), ((u_4 7), .inl (cZ, 2, .inl (fun _ => 0))), ((u_4 8), .inl (cJ, 12, .inr (.inl (fun _ => 0)))), ((u_4 9), .inl (cJ, 12, .inr (.inl (fun _ => 0)))), ((u_4 10), .inl (cJ, 12, .inr (.inl (fun _ => 0)))), ((u_4 11), .inl (cZ, 12, .inl (fun _ => 0))), ((u_4 12), .inl (cZ, 80, .inl (fun _ => 0))), ((u_4 18), .inl (cZ, 40, .inl (fun _ => 0))), ((u_4 19), .inl (cI, 40, .inl (fun _ => 0))), ((u_4 20), .inl (cI, 6, .inl (ov (fun _ => 0) 6 0))), ((u_4 21), .inl (cI, 6, .inl (ov (fun _ => 0) 6 (-1))))] H_60 := hP2
        replace hD : va_D (fun q : Nat => s.heap.size ≤ q) [(q_3, .inr (5, [.int 0, .ref (u_4 0), .ref (u_4 1), .ref (u_4 2), .ref (u_4 3), .ref (u_4 4), .ref (u_4 5), .ref (u_4 6), .ref (u_4 7), .ref (u_4 8), .ref (u_4 9), .ref (u_4 10), .ref (u_4 11), .ref (u_4 12), .ref (u_4 13), .ref (u_4 14), .ref (u_4 15), .ref (u_4 16), .ref (u_4 17), .ref (u_4 18), .ref (u_4 19), .int 0, .int 0, .int 0, .int (-1), .ref (u_4 20), .ref (u_4 21), .ref (u_4 22), .ref (u_4 23), .ref (u_4 24), .ref (u_4 25), .long 0, .long 0, .long 0, .ref (u_4 26), .ref (u_4 27)])), ((u_4 7), .inl (cZ, 2, .inl (fun _ => 0))), ((u_4 8), .inl (cJ, 12, .inr (.inl (fun _ => 0)))), ((u_4 9), .inl (cJ, 12, .inr (.inl (fun _ => 0)))), ((u_4 10), .inl (cJ, 12, .inr (.inl (fun _ => 0)))), ((u_4 11), .inl (cZ, 12, .inl (fun _ => 0))), ((u_4 12), .inl (cZ, 80, .inl (fun _ => 0))), ((u_4 18), .inl (cZ, 40, .inl (fun _ => 0))), ((u_4 19), .inl (cI, 40, .inl (fun _ => 0))), ((u_4 20), .inl (cI, 6, .inl (ov (fun _ => 0) 6 0))), ((u_4 21), .inl (cI, 6, .inl (ov (fun _ => 0) 6 (-1))))] := hD2
        replace hS := hS1
        clear hP2 hD2 hS1
        refine my_topi (y := 1) hw_60 ?_
        refine lv_aload_n hx hb dL_law_678 rfl (lv_at hl 1 rfl) ?_
        refine lv_aload_n hx hb dL_law_679 rfl (lv_at hl 3 rfl) ?_
        refine lv_iload_n hx hb dL_law_680 rfl (lv_at hl 0 rfl) ?_
        refine lv_iconst (v := 1) hx hb dL_law_681 (by decide) ?_
        refine lv_iadd hx hb dL_law_682 ?_
        refine my_topi (y := 1) (by decide) ?_
        refine va_sld hx hb hX hbl hbA hS (vp_in_iff.mpr (by decide)) dL_law_683 ?_
        refine lv_i2l (v := (xs (1 : Int32).toNatClampNeg).toInt64) hx hb dL_law_684 (by rfl) ?_
        refine lv_bipush (v := 32) hx hb dL_law_685 (by decide) ?_
        refine lv_lshl (v := ((xs (1 : Int32).toNatClampNeg).toInt64) <<< ((32 : Int32).toInt64 &&& 63)) hx hb dL_law_687 rfl ?_
        refine lv_aload_n hx hb dL_law_688 rfl (lv_at hl 3 rfl) ?_
        refine lv_iload_n hx hb dL_law_689 rfl (lv_at hl 0 rfl) ?_
        refine lv_iconst (v := 2) hx hb dL_law_690 (by decide) ?_
        refine lv_iadd hx hb dL_law_691 ?_
        refine my_topi (y := 2) (by decide) ?_
        refine va_sld hx hb hX hbl hbA hS (vp_in_iff.mpr (by decide)) dL_law_692 ?_
        refine lv_i2l (v := (xs (2 : Int32).toNatClampNeg).toInt64) hx hb dL_law_693 (by rfl) ?_
        refine lv_ldc2 hx hb hown (hts (.constantLong RL 66 (4294967295)) (List.mem_of_getElem? (i := 314) rfl)) dL_law_694 ?_
        refine lv_land hx hb dL_law_697 ?_
        refine lv_lor hx hb dL_law_698 ?_
        have hPc := hP.sub (ws' := [(q_3, .inr (5, [.int 0, .ref (u_4 0), .ref (u_4 1), .ref (u_4 2), .ref (u_4 3), .ref (u_4 4), .ref (u_4 5), .ref (u_4 6), .ref (u_4 7), .ref (u_4 8), .ref (u_4 9), .ref (u_4 10), .ref (u_4 11), .ref (u_4 12), .ref (u_4 13), .ref (u_4 14), .ref (u_4 15), .ref (u_4 16), .ref (u_4 17), .ref (u_4 18), .ref (u_4 19), .int 0, .int 0, .int 0, .int (-1), .ref (u_4 20), .ref (u_4 21), .ref (u_4 22), .ref (u_4 23), .ref (u_4 24), .ref (u_4 25), .long 0, .long 0, .long 0, .ref (u_4 26), .ref (u_4 27)])), ((u_4 20), .inl (cI, 6, .inl (ov (fun _ => 0) 6 0))), ((u_4 21), .inl (cI, 6, .inl (ov (fun _ => 0) 6 (-1)))), ((u_4 7), .inl (cZ, 2, .inl (fun _ => 0))), ((u_4 8), .inl (cJ, 12, .inr (.inl (fun _ => 0)))), ((u_4 9), .inl (cJ, 12, .inr (.inl (fun _ => 0)))), ((u_4 10), .inl (cJ, 12, .inr (.inl (fun _ => 0)))), ((u_4 11), .inl (cZ, 12, .inl (fun _ => 0))), ((u_4 12), .inl (cZ, 80, .inl (fun _ => 0))), ((u_4 18), .inl (cZ, 40, .inl (fun _ => 0))), ((u_4 19), .inl (cI, 40, .inl (fun _ => 0)))]) [0, 9, 10, 1, 2, 3, 4, 5, 6, 7, 8] rfl
        have hDc := hD.sub (ws' := [(q_3, .inr (5, [.int 0, .ref (u_4 0), .ref (u_4 1), .ref (u_4 2), .ref (u_4 3), .ref (u_4 4), .ref (u_4 5), .ref (u_4 6), .ref (u_4 7), .ref (u_4 8), .ref (u_4 9), .ref (u_4 10), .ref (u_4 11), .ref (u_4 12), .ref (u_4 13), .ref (u_4 14), .ref (u_4 15), .ref (u_4 16), .ref (u_4 17), .ref (u_4 18), .ref (u_4 19), .int 0, .int 0, .int 0, .int (-1), .ref (u_4 20), .ref (u_4 21), .ref (u_4 22), .ref (u_4 23), .ref (u_4 24), .ref (u_4 25), .long 0, .long 0, .long 0, .ref (u_4 26), .ref (u_4 27)])), ((u_4 20), .inl (cI, 6, .inl (ov (fun _ => 0) 6 0))), ((u_4 21), .inl (cI, 6, .inl (ov (fun _ => 0) 6 (-1)))), ((u_4 7), .inl (cZ, 2, .inl (fun _ => 0))), ((u_4 8), .inl (cJ, 12, .inr (.inl (fun _ => 0)))), ((u_4 9), .inl (cJ, 12, .inr (.inl (fun _ => 0)))), ((u_4 10), .inl (cJ, 12, .inr (.inl (fun _ => 0)))), ((u_4 11), .inl (cZ, 12, .inl (fun _ => 0))), ((u_4 12), .inl (cZ, 80, .inl (fun _ => 0))), ((u_4 18), .inl (cZ, 40, .inl (fun _ => 0))), ((u_4 19), .inl (cI, 40, .inl (fun _ => 0)))]) [0, 9, 10, 1, 2, 3, 4, 5, 6, 7, 8] (by decide) rfl
        have hFc := va_free (wc := [(q_3, .inr (5, [.int 0, .ref (u_4 0), .ref (u_4 1), .ref (u_4 2), .ref (u_4 3), .ref (u_4 4), .ref (u_4 5), .ref (u_4 6), .ref (u_4 7), .ref (u_4 8), .ref (u_4 9), .ref (u_4 10), .ref (u_4 11), .ref (u_4 12), .ref (u_4 13), .ref (u_4 14), .ref (u_4 15), .ref (u_4 16), .ref (u_4 17), .ref (u_4 18), .ref (u_4 19), .int 0, .int 0, .int 0, .int (-1), .ref (u_4 20), .ref (u_4 21), .ref (u_4 22), .ref (u_4 23), .ref (u_4 24), .ref (u_4 25), .long 0, .long 0, .long 0, .ref (u_4 26), .ref (u_4 27)])), ((u_4 20), .inl (cI, 6, .inl (ov (fun _ => 0) 6 0))), ((u_4 21), .inl (cI, 6, .inl (ov (fun _ => 0) 6 (-1)))), ((u_4 7), .inl (cZ, 2, .inl (fun _ => 0))), ((u_4 8), .inl (cJ, 12, .inr (.inl (fun _ => 0)))), ((u_4 9), .inl (cJ, 12, .inr (.inl (fun _ => 0)))), ((u_4 10), .inl (cJ, 12, .inr (.inl (fun _ => 0)))), ((u_4 11), .inl (cZ, 12, .inl (fun _ => 0))), ((u_4 12), .inl (cZ, 80, .inl (fun _ => 0))), ((u_4 18), .inl (cZ, 40, .inl (fun _ => 0))), ((u_4 19), .inl (cI, 40, .inl (fun _ => 0)))]) hD hS hA [0, 9, 10, 1, 2, 3, 4, 5, 6, 7, 8] rfl
        refine va_calli (va_runV (As := [.long ((((xs (1 : Int32).toNatClampNeg).toInt64) <<< ((32 : Int32).toInt64 &&& 63)) ||| (((xs (2 : Int32).toNatClampNeg).toInt64) &&& 4294967295))]) (rest := [.int 1]) ⟨hx, hb, hml, hown, hts⟩ (c_X5_holds l dC dI cI cJ cZ q_3 (.ref (u_4 0)) (.ref (u_4 1)) (.ref (u_4 2)) (.ref (u_4 3)) (.ref (u_4 4)) (.ref (u_4 5)) (.ref (u_4 6)) (.ref (u_4 13)) (.ref (u_4 14)) (.ref (u_4 15)) (.ref (u_4 16)) (.ref (u_4 17)) (.int 0) (.int 0) (.int 0) (.int (-1)) (.ref (u_4 22)) (.ref (u_4 23)) (.ref (u_4 24)) (.ref (u_4 25)) (.long 0) (.long 0) (.long 0) (.ref (u_4 26)) (.ref (u_4 27)) (u_4 7) (u_4 8) (u_4 9) (u_4 10) (u_4 11) (u_4 12) (u_4 18) (u_4 19) (fun _ => 0) (fun _ => 0) (fun _ => 0) (fun _ => 0) (fun _ => 0) (fun _ => 0) (fun _ => 0) (fun _ => 0) (u_4 20) (u_4 21) (ov (fun _ => 0) 6 0) (ov (fun _ => 0) 6 (-1)) ((((xs (1 : Int32).toNatClampNeg).toInt64) <<< ((32 : Int32).toInt64 &&& 63)) ||| (((xs (2 : Int32).toNatClampNeg).toInt64) &&& 4294967295)) H_60.size) (cwV 1 hts g_L_law_X5_holds_96 rfl rfl rfl (by decide +kernel) ⟨Nat.le_of_ble_eq_true rfl, Nat.le_of_ble_eq_true rfl⟩) ⟨cPre_blind, va_recv hK hPc (ci := 5) (q0 := 0) rfl rfl, cPre_of hK hN hPc hDc⟩ rfl rfl hl.1 rfl (lv_room (Nat.le_of_ble_eq_true rfl)) dL_law_699 ⟨Nat.le_of_ble_eq_true rfl, Nat.le_of_ble_eq_true rfl⟩) hS (fun q _ h => hFc q h) hFc (fun r_61 u_61 t_61 H_61 locs_61 ht hvm hw_61 hB hz1 hk1 hS1 => ?_)
        obtain ⟨hP1, hK1, hD1⟩ := hB
        rw [ht] at hP1
        obtain ⟨hP2, hD2⟩ := va_join (wr := []) (w1 := []) hP hD [0, 9, 10, 1, 2, 3, 4, 5, 6, 7, 8] [] rfl rfl (by decide) (by decide) hk1 hFc hP1 hD1
        clear hPc hDc hFc hP1 hD1 hK1 hk1 hz1 hvm ht
        replace hP : va_P (dC, dI) vwCl [] H_61 := hP2
        replace hD : va_D (fun q : Nat => s.heap.size ≤ q) [] := hD2
        replace hS := hS1
        clear hP2 hD2 hS1
        refine my_topi (y := 1) hw_61 ?_
        refine lv_icmp_eq (tgt := 730) hx hb dL_law_702 (by decide) (fun c_62 => ?_) (fun c_62 => ?_)
        · -- on
          refine lv_iinc (v := 7) (lv' := [(3, .int 7), (2, .ref q_3), (1, .ref q_1), (0, .ref b)]) hx hb dL_law_730 hl (k := 0) rfl (by decide) (by decide) rfl (fun ls1 hl1 => ?_)
          replace hl := hl1; clear hl1
          refine lv_goto (tgt := 18) hx hb dL_law_733 (by decide) ?_
          refine lv_iload_n hx hb dL_law_18 rfl (lv_at hl 0 rfl) ?_
          refine lv_aload_n hx hb dL_law_19 rfl (lv_at hl 3 rfl) ?_
          refine va_slen hx hb hX hbl hbA hS dL_law_20 ?_
          refine lv_bipush (v := 7) hx hb dL_law_21 (by decide) ?_
          refine lv_isub hx hb dL_law_23 ?_
          refine my_topi (y := 0) (by decide) ?_
          refine lv_icmp_gt (tgt := 736) hx hb dL_law_24 (by decide) (fun c_0 => ?_) (fun c_0 => ?_)
          · -- end
            refine lv_iconst (v := 1) hx hb dL_law_736 (by decide) ?_
            refine va_forget (fun q hq => hS.2.2 q hq) ?_
            refine W.widen (k := 64) (n := 6560) (Nat.le_of_ble_eq_true rfl) (Nat.le_of_ble_eq_true rfl) ?_
            exact lw_ret hx hb hr hlocks dL_law_737
          · exact absurd (by decide) c_0
        · exact absurd (by decide) c_62
      · -- case 19
        refine lv_tableIn (tgt := 707) (off := 674) hx hb dL_law_33 (by omega) (by omega) (by rw [sv_5]; rfl) (by decide) ?_
        replace hP := hP.sub (ws' := [(q_1, .inr (4, [.ref (u_2 0), .ref (u_2 3), .ref (u_2 28), .int 0])), ((u_2 0), .inr (3, [.ref (u_2 1), .ref (u_2 2), .int 0])), ((u_2 3), .inr (1, [.ref (u_2 4), .ref (u_2 15), .int 1, .ref (u_2 26), .ref (u_2 27), .int 0, .int 0, .int 0])), ((u_2 4), .inr (0, [.int 0, .ref (u_2 5), .ref (u_2 6), .ref (u_2 7), .ref (u_2 8), .ref (u_2 9), .ref (u_2 10), .ref (u_2 11), .ref (u_2 12), .ref (u_2 13), .ref (u_2 14)])), ((u_2 5), .inl (cI, 6, .inl (fun _ => 0))), ((u_2 6), .inl (cI, 6, .inl (fun _ => 0))), ((u_2 7), .inl (cJ, 6, .inr (.inl (fun _ => 0)))), ((u_2 8), .inl (cZ, 6, .inl (fun _ => 0))), ((u_2 9), .inl (cZ, 40, .inl (fun _ => 0))), ((u_2 26), .inl (cZ, 40, .inl (fun _ => 0))), ((u_2 27), .inl (cI, 40, .inl (fun _ => 0))), (q_3, .inr (5, [.int 0, .ref (u_4 0), .ref (u_4 1), .ref (u_4 2), .ref (u_4 3), .ref (u_4 4), .ref (u_4 5), .ref (u_4 6), .ref (u_4 7), .ref (u_4 8), .ref (u_4 9), .ref (u_4 10), .ref (u_4 11), .ref (u_4 12), .ref (u_4 13), .ref (u_4 14), .ref (u_4 15), .ref (u_4 16), .ref (u_4 17), .ref (u_4 18), .ref (u_4 19), .int 0, .int 0, .int 0, .int (-1), .ref (u_4 20), .ref (u_4 21), .ref (u_4 22), .ref (u_4 23), .ref (u_4 24), .ref (u_4 25), .long 0, .long 0, .long 0, .ref (u_4 26), .ref (u_4 27)])), ((u_4 7), .inl (cZ, 2, .inl (fun _ => 0))), ((u_4 8), .inl (cJ, 12, .inr (.inl (fun _ => 0)))), ((u_4 9), .inl (cJ, 12, .inr (.inl (fun _ => 0)))), ((u_4 10), .inl (cJ, 12, .inr (.inl (fun _ => 0)))), ((u_4 11), .inl (cZ, 12, .inl (fun _ => 0))), ((u_4 12), .inl (cZ, 80, .inl (fun _ => 0))), ((u_4 18), .inl (cZ, 40, .inl (fun _ => 0))), ((u_4 19), .inl (cI, 40, .inl (fun _ => 0)))]) [0, 1, 4, 5, 6, 7, 8, 9, 10, 27, 28, 35, 43, 44, 45, 46, 47, 48, 54, 55] rfl
        replace hD := hD.sub (ws' := [(q_1, .inr (4, [.ref (u_2 0), .ref (u_2 3), .ref (u_2 28), .int 0])), ((u_2 0), .inr (3, [.ref (u_2 1), .ref (u_2 2), .int 0])), ((u_2 3), .inr (1, [.ref (u_2 4), .ref (u_2 15), .int 1, .ref (u_2 26), .ref (u_2 27), .int 0, .int 0, .int 0])), ((u_2 4), .inr (0, [.int 0, .ref (u_2 5), .ref (u_2 6), .ref (u_2 7), .ref (u_2 8), .ref (u_2 9), .ref (u_2 10), .ref (u_2 11), .ref (u_2 12), .ref (u_2 13), .ref (u_2 14)])), ((u_2 5), .inl (cI, 6, .inl (fun _ => 0))), ((u_2 6), .inl (cI, 6, .inl (fun _ => 0))), ((u_2 7), .inl (cJ, 6, .inr (.inl (fun _ => 0)))), ((u_2 8), .inl (cZ, 6, .inl (fun _ => 0))), ((u_2 9), .inl (cZ, 40, .inl (fun _ => 0))), ((u_2 26), .inl (cZ, 40, .inl (fun _ => 0))), ((u_2 27), .inl (cI, 40, .inl (fun _ => 0))), (q_3, .inr (5, [.int 0, .ref (u_4 0), .ref (u_4 1), .ref (u_4 2), .ref (u_4 3), .ref (u_4 4), .ref (u_4 5), .ref (u_4 6), .ref (u_4 7), .ref (u_4 8), .ref (u_4 9), .ref (u_4 10), .ref (u_4 11), .ref (u_4 12), .ref (u_4 13), .ref (u_4 14), .ref (u_4 15), .ref (u_4 16), .ref (u_4 17), .ref (u_4 18), .ref (u_4 19), .int 0, .int 0, .int 0, .int (-1), .ref (u_4 20), .ref (u_4 21), .ref (u_4 22), .ref (u_4 23), .ref (u_4 24), .ref (u_4 25), .long 0, .long 0, .long 0, .ref (u_4 26), .ref (u_4 27)])), ((u_4 7), .inl (cZ, 2, .inl (fun _ => 0))), ((u_4 8), .inl (cJ, 12, .inr (.inl (fun _ => 0)))), ((u_4 9), .inl (cJ, 12, .inr (.inl (fun _ => 0)))), ((u_4 10), .inl (cJ, 12, .inr (.inl (fun _ => 0)))), ((u_4 11), .inl (cZ, 12, .inl (fun _ => 0))), ((u_4 12), .inl (cZ, 80, .inl (fun _ => 0))), ((u_4 18), .inl (cZ, 40, .inl (fun _ => 0))), ((u_4 19), .inl (cI, 40, .inl (fun _ => 0)))]) [0, 1, 4, 5, 6, 7, 8, 9, 10, 27, 28, 35, 43, 44, 45, 46, 47, 48, 54, 55] (by decide) rfl
        refine lv_aload_n hx hb dL_law_707 rfl (lv_at hl 2 rfl) ?_
        refine lv_aload_n hx hb dL_law_708 rfl (lv_at hl 3 rfl) ?_
        refine lv_iload_n hx hb dL_law_709 rfl (lv_at hl 0 rfl) ?_
        refine lv_iconst (v := 1) hx hb dL_law_710 (by decide) ?_
        refine lv_iadd hx hb dL_law_711 ?_
        refine my_topi (y := 1) (by decide) ?_
        refine va_sld hx hb hX hbl hbA hS (vp_in_iff.mpr (by decide)) dL_law_712 ?_
        have hPc := hP.sub (ws' := [(q_1, .inr (4, [.ref (u_2 0), .ref (u_2 3), .ref (u_2 28), .int 0])), ((u_2 3), .inr (1, [.ref (u_2 4), .ref (u_2 15), .int 1, .ref (u_2 26), .ref (u_2 27), .int 0, .int 0, .int 0])), ((u_2 4), .inr (0, [.int 0, .ref (u_2 5), .ref (u_2 6), .ref (u_2 7), .ref (u_2 8), .ref (u_2 9), .ref (u_2 10), .ref (u_2 11), .ref (u_2 12), .ref (u_2 13), .ref (u_2 14)])), ((u_2 5), .inl (cI, 6, .inl (fun _ => 0))), ((u_2 6), .inl (cI, 6, .inl (fun _ => 0))), ((u_2 7), .inl (cJ, 6, .inr (.inl (fun _ => 0)))), ((u_2 8), .inl (cZ, 6, .inl (fun _ => 0))), ((u_2 9), .inl (cZ, 40, .inl (fun _ => 0))), ((u_2 26), .inl (cZ, 40, .inl (fun _ => 0))), ((u_2 27), .inl (cI, 40, .inl (fun _ => 0))), ((u_2 0), .inr (3, [.ref (u_2 1), .ref (u_2 2), .int 0]))]) [0, 2, 3, 4, 5, 6, 7, 8, 9, 10, 1] rfl
        have hDc := hD.sub (ws' := [(q_1, .inr (4, [.ref (u_2 0), .ref (u_2 3), .ref (u_2 28), .int 0])), ((u_2 3), .inr (1, [.ref (u_2 4), .ref (u_2 15), .int 1, .ref (u_2 26), .ref (u_2 27), .int 0, .int 0, .int 0])), ((u_2 4), .inr (0, [.int 0, .ref (u_2 5), .ref (u_2 6), .ref (u_2 7), .ref (u_2 8), .ref (u_2 9), .ref (u_2 10), .ref (u_2 11), .ref (u_2 12), .ref (u_2 13), .ref (u_2 14)])), ((u_2 5), .inl (cI, 6, .inl (fun _ => 0))), ((u_2 6), .inl (cI, 6, .inl (fun _ => 0))), ((u_2 7), .inl (cJ, 6, .inr (.inl (fun _ => 0)))), ((u_2 8), .inl (cZ, 6, .inl (fun _ => 0))), ((u_2 9), .inl (cZ, 40, .inl (fun _ => 0))), ((u_2 26), .inl (cZ, 40, .inl (fun _ => 0))), ((u_2 27), .inl (cI, 40, .inl (fun _ => 0))), ((u_2 0), .inr (3, [.ref (u_2 1), .ref (u_2 2), .int 0]))]) [0, 2, 3, 4, 5, 6, 7, 8, 9, 10, 1] (by decide) rfl
        have hFc := va_free (wc := [(q_1, .inr (4, [.ref (u_2 0), .ref (u_2 3), .ref (u_2 28), .int 0])), ((u_2 3), .inr (1, [.ref (u_2 4), .ref (u_2 15), .int 1, .ref (u_2 26), .ref (u_2 27), .int 0, .int 0, .int 0])), ((u_2 4), .inr (0, [.int 0, .ref (u_2 5), .ref (u_2 6), .ref (u_2 7), .ref (u_2 8), .ref (u_2 9), .ref (u_2 10), .ref (u_2 11), .ref (u_2 12), .ref (u_2 13), .ref (u_2 14)])), ((u_2 5), .inl (cI, 6, .inl (fun _ => 0))), ((u_2 6), .inl (cI, 6, .inl (fun _ => 0))), ((u_2 7), .inl (cJ, 6, .inr (.inl (fun _ => 0)))), ((u_2 8), .inl (cZ, 6, .inl (fun _ => 0))), ((u_2 9), .inl (cZ, 40, .inl (fun _ => 0))), ((u_2 26), .inl (cZ, 40, .inl (fun _ => 0))), ((u_2 27), .inl (cI, 40, .inl (fun _ => 0))), ((u_2 0), .inr (3, [.ref (u_2 1), .ref (u_2 2), .int 0]))]) hD hS hA [0, 2, 3, 4, 5, 6, 7, 8, 9, 10, 1] rfl
        refine va_calli (va_runV (As := [.int (xs (1 : Int32).toNatClampNeg)]) (rest := []) ⟨hx, hb, hml, hown, hts⟩ (c_X4_told l dC dI cI cJ cZ q_1 (u_2 0) (.ref (u_2 28)) (.int 0) (u_2 3) (u_2 26) (u_2 27) (.ref (u_2 15)) (.int 0) (.int 0) (.int 0) (u_2 4) (u_2 5) (u_2 6) (u_2 7) (u_2 8) (u_2 9) 0 (.ref (u_2 10)) (.ref (u_2 11)) (.ref (u_2 12)) (.ref (u_2 13)) (.ref (u_2 14)) (fun _ => 0) (fun _ => 0) (fun _ => 0) (fun _ => 0) (fun _ => 0) (fun _ => 0) (fun _ => 0) (.ref (u_2 1)) (.ref (u_2 2)) (xs (1 : Int32).toNatClampNeg) H_4.size) (cwV 1 hts g_L_law_X4_told_97 rfl rfl rfl (by decide +kernel) ⟨Nat.le_of_ble_eq_true rfl, Nat.le_of_ble_eq_true rfl⟩) ⟨cPre_blind, va_recv hK hPc (ci := 4) (q0 := 0) rfl rfl, cPre_of hK hN hPc hDc⟩ rfl rfl hl.1 rfl (lv_room (Nat.le_of_ble_eq_true rfl)) dL_law_713 ⟨Nat.le_of_ble_eq_true rfl, Nat.le_of_ble_eq_true rfl⟩) hS (fun q _ h => hFc q h) hFc (fun r_63 u_63 t_63 H_63 locs_63 ht hvm hw_63 hB hz1 hk1 hS1 => ?_)
        obtain ⟨hP1, hK1, hD1⟩ := hB
        rw [ht] at hP1
        obtain ⟨hP2, hD2⟩ := va_join (wr := [(q_3, .inr (5, [.int 0, .ref (u_4 0), .ref (u_4 1), .ref (u_4 2), .ref (u_4 3), .ref (u_4 4), .ref (u_4 5), .ref (u_4 6), .ref (u_4 7), .ref (u_4 8), .ref (u_4 9), .ref (u_4 10), .ref (u_4 11), .ref (u_4 12), .ref (u_4 13), .ref (u_4 14), .ref (u_4 15), .ref (u_4 16), .ref (u_4 17), .ref (u_4 18), .ref (u_4 19), .int 0, .int 0, .int 0, .int (-1), .ref (u_4 20), .ref (u_4 21), .ref (u_4 22), .ref (u_4 23), .ref (u_4 24), .ref (u_4 25), .long 0, .long 0, .long 0, .ref (u_4 26), .ref (u_4 27)])), ((u_4 7), .inl (cZ, 2, .inl (fun _ => 0))), ((u_4 8), .inl (cJ, 12, .inr (.inl (fun _ => 0)))), ((u_4 9), .inl (cJ, 12, .inr (.inl (fun _ => 0)))), ((u_4 10), .inl (cJ, 12, .inr (.inl (fun _ => 0)))), ((u_4 11), .inl (cZ, 12, .inl (fun _ => 0))), ((u_4 12), .inl (cZ, 80, .inl (fun _ => 0))), ((u_4 18), .inl (cZ, 40, .inl (fun _ => 0))), ((u_4 19), .inl (cI, 40, .inl (fun _ => 0)))]) (w1 := []) hP hD [0, 2, 3, 4, 5, 6, 7, 8, 9, 10, 1] [11, 12, 13, 14, 15, 16, 17, 18, 19] rfl rfl (by decide) (by decide) hk1 hFc hP1 hD1
        clear hPc hDc hFc hP1 hD1 hK1 hk1 hz1 hvm ht
        replace hP : va_P (dC, dI) vwCl [(q_3, .inr (5, [.int 0, .ref (u_4 0), .ref (u_4 1), .ref (u_4 2), .ref (u_4 3), .ref (u_4 4), .ref (u_4 5), .ref (u_4 6), .ref (u_4 7), .ref (u_4 8), .ref (u_4 9), .ref (u_4 10), .ref (u_4 11), .ref (u_4 12), .ref (u_4 13), .ref (u_4 14), .ref (u_4 15), .ref (u_4 16), .ref (u_4 17), .ref (u_4 18), .ref (u_4 19), .int 0, .int 0, .int 0, .int (-1), .ref (u_4 20), .ref (u_4 21), .ref (u_4 22), .ref (u_4 23), .ref (u_4 24), .ref (u_4 25), .long 0, .long 0, .long 0, .ref (u_4 26), .ref (u_4 27)])), ((u_4 7), .inl (cZ, 2, .inl (fun _ => 0))), ((u_4 8), .inl (cJ, 12, .inr (.inl (fun _ => 0)))), ((u_4 9), .inl (cJ, 12, .inr (.inl (fun _ => 0)))), ((u_4 10), .inl (cJ, 12, .inr (.inl (fun _ => 0)))), ((u_4 11), .inl (cZ, 12, .inl (fun _ => 0))), ((u_4 12), .inl (cZ, 80, .inl (fun _ => 0))), ((u_4 18), .inl (cZ, 40, .inl (fun _ => 0))), ((u_4 19), .inl (cI, 40, .inl (fun _ => 0)))] H_63 := hP2
        replace hD : va_D (fun q : Nat => s.heap.size ≤ q) [(q_3, .inr (5, [.int 0, .ref (u_4 0), .ref (u_4 1), .ref (u_4 2), .ref (u_4 3), .ref (u_4 4), .ref (u_4 5), .ref (u_4 6), .ref (u_4 7), .ref (u_4 8), .ref (u_4 9), .ref (u_4 10), .ref (u_4 11), .ref (u_4 12), .ref (u_4 13), .ref (u_4 14), .ref (u_4 15), .ref (u_4 16), .ref (u_4 17), .ref (u_4 18), .ref (u_4 19), .int 0, .int 0, .int 0, .int (-1), .ref (u_4 20), .ref (u_4 21), .ref (u_4 22), .ref (u_4 23), .ref (u_4 24), .ref (u_4 25), .long 0, .long 0, .long 0, .ref (u_4 26), .ref (u_4 27)])), ((u_4 7), .inl (cZ, 2, .inl (fun _ => 0))), ((u_4 8), .inl (cJ, 12, .inr (.inl (fun _ => 0)))), ((u_4 9), .inl (cJ, 12, .inr (.inl (fun _ => 0)))), ((u_4 10), .inl (cJ, 12, .inr (.inl (fun _ => 0)))), ((u_4 11), .inl (cZ, 12, .inl (fun _ => 0))), ((u_4 12), .inl (cZ, 80, .inl (fun _ => 0))), ((u_4 18), .inl (cZ, 40, .inl (fun _ => 0))), ((u_4 19), .inl (cI, 40, .inl (fun _ => 0)))] := hD2
        replace hS := hS1
        clear hP2 hD2 hS1
        refine lv_aload_n hx hb dL_law_716 rfl (lv_at hl 1 rfl) ?_
        refine lv_aload_n hx hb dL_law_717 rfl (lv_at hl 3 rfl) ?_
        refine lv_iload_n hx hb dL_law_718 rfl (lv_at hl 0 rfl) ?_
        refine lv_iconst (v := 1) hx hb dL_law_719 (by decide) ?_
        refine lv_iadd hx hb dL_law_720 ?_
        refine my_topi (y := 1) (by decide) ?_
        refine va_sld hx hb hX hbl hbA hS (vp_in_iff.mpr (by decide)) dL_law_721 ?_
        have hPc := hP.sub (ws' := [(q_3, .inr (5, [.int 0, .ref (u_4 0), .ref (u_4 1), .ref (u_4 2), .ref (u_4 3), .ref (u_4 4), .ref (u_4 5), .ref (u_4 6), .ref (u_4 7), .ref (u_4 8), .ref (u_4 9), .ref (u_4 10), .ref (u_4 11), .ref (u_4 12), .ref (u_4 13), .ref (u_4 14), .ref (u_4 15), .ref (u_4 16), .ref (u_4 17), .ref (u_4 18), .ref (u_4 19), .int 0, .int 0, .int 0, .int (-1), .ref (u_4 20), .ref (u_4 21), .ref (u_4 22), .ref (u_4 23), .ref (u_4 24), .ref (u_4 25), .long 0, .long 0, .long 0, .ref (u_4 26), .ref (u_4 27)])), ((u_4 7), .inl (cZ, 2, .inl (fun _ => 0))), ((u_4 8), .inl (cJ, 12, .inr (.inl (fun _ => 0)))), ((u_4 9), .inl (cJ, 12, .inr (.inl (fun _ => 0)))), ((u_4 10), .inl (cJ, 12, .inr (.inl (fun _ => 0)))), ((u_4 11), .inl (cZ, 12, .inl (fun _ => 0))), ((u_4 12), .inl (cZ, 80, .inl (fun _ => 0))), ((u_4 18), .inl (cZ, 40, .inl (fun _ => 0))), ((u_4 19), .inl (cI, 40, .inl (fun _ => 0)))]) [0, 1, 2, 3, 4, 5, 6, 7, 8] rfl
        have hDc := hD.sub (ws' := [(q_3, .inr (5, [.int 0, .ref (u_4 0), .ref (u_4 1), .ref (u_4 2), .ref (u_4 3), .ref (u_4 4), .ref (u_4 5), .ref (u_4 6), .ref (u_4 7), .ref (u_4 8), .ref (u_4 9), .ref (u_4 10), .ref (u_4 11), .ref (u_4 12), .ref (u_4 13), .ref (u_4 14), .ref (u_4 15), .ref (u_4 16), .ref (u_4 17), .ref (u_4 18), .ref (u_4 19), .int 0, .int 0, .int 0, .int (-1), .ref (u_4 20), .ref (u_4 21), .ref (u_4 22), .ref (u_4 23), .ref (u_4 24), .ref (u_4 25), .long 0, .long 0, .long 0, .ref (u_4 26), .ref (u_4 27)])), ((u_4 7), .inl (cZ, 2, .inl (fun _ => 0))), ((u_4 8), .inl (cJ, 12, .inr (.inl (fun _ => 0)))), ((u_4 9), .inl (cJ, 12, .inr (.inl (fun _ => 0)))), ((u_4 10), .inl (cJ, 12, .inr (.inl (fun _ => 0)))), ((u_4 11), .inl (cZ, 12, .inl (fun _ => 0))), ((u_4 12), .inl (cZ, 80, .inl (fun _ => 0))), ((u_4 18), .inl (cZ, 40, .inl (fun _ => 0))), ((u_4 19), .inl (cI, 40, .inl (fun _ => 0)))]) [0, 1, 2, 3, 4, 5, 6, 7, 8] (by decide) rfl
        have hFc := va_free (wc := [(q_3, .inr (5, [.int 0, .ref (u_4 0), .ref (u_4 1), .ref (u_4 2), .ref (u_4 3), .ref (u_4 4), .ref (u_4 5), .ref (u_4 6), .ref (u_4 7), .ref (u_4 8), .ref (u_4 9), .ref (u_4 10), .ref (u_4 11), .ref (u_4 12), .ref (u_4 13), .ref (u_4 14), .ref (u_4 15), .ref (u_4 16), .ref (u_4 17), .ref (u_4 18), .ref (u_4 19), .int 0, .int 0, .int 0, .int (-1), .ref (u_4 20), .ref (u_4 21), .ref (u_4 22), .ref (u_4 23), .ref (u_4 24), .ref (u_4 25), .long 0, .long 0, .long 0, .ref (u_4 26), .ref (u_4 27)])), ((u_4 7), .inl (cZ, 2, .inl (fun _ => 0))), ((u_4 8), .inl (cJ, 12, .inr (.inl (fun _ => 0)))), ((u_4 9), .inl (cJ, 12, .inr (.inl (fun _ => 0)))), ((u_4 10), .inl (cJ, 12, .inr (.inl (fun _ => 0)))), ((u_4 11), .inl (cZ, 12, .inl (fun _ => 0))), ((u_4 12), .inl (cZ, 80, .inl (fun _ => 0))), ((u_4 18), .inl (cZ, 40, .inl (fun _ => 0))), ((u_4 19), .inl (cI, 40, .inl (fun _ => 0)))]) hD hS hA [0, 1, 2, 3, 4, 5, 6, 7, 8] rfl
        refine va_calli (va_runV (As := [.int (xs (1 : Int32).toNatClampNeg)]) (rest := [.int r_63]) ⟨hx, hb, hml, hown, hts⟩ (c_X5_told l dC dI cI cJ cZ q_3 (.ref (u_4 0)) (.ref (u_4 1)) (.ref (u_4 2)) (.ref (u_4 3)) (.ref (u_4 4)) (.ref (u_4 5)) (.ref (u_4 6)) (.ref (u_4 13)) (.ref (u_4 14)) (.ref (u_4 15)) (.ref (u_4 16)) (.ref (u_4 17)) (.int 0) (.int 0) (.int 0) (.int (-1)) (.ref (u_4 20)) (.ref (u_4 21)) (.ref (u_4 22)) (.ref (u_4 23)) (.ref (u_4 24)) (.ref (u_4 25)) (.long 0) (.long 0) (.long 0) (.ref (u_4 26)) (.ref (u_4 27)) (u_4 7) (u_4 8) (u_4 9) (u_4 10) (u_4 11) (u_4 12) (u_4 18) (u_4 19) (fun _ => 0) (fun _ => 0) (fun _ => 0) (fun _ => 0) (fun _ => 0) (fun _ => 0) (fun _ => 0) (fun _ => 0) (xs (1 : Int32).toNatClampNeg) H_63.size) (cwV 1 hts g_L_law_X5_told_100 rfl rfl rfl (by decide +kernel) ⟨Nat.le_of_ble_eq_true rfl, Nat.le_of_ble_eq_true rfl⟩) ⟨cPre_blind, va_recv hK hPc (ci := 5) (q0 := 0) rfl rfl, cPre_of hK hN hPc hDc⟩ rfl rfl hl.1 rfl (lv_room (Nat.le_of_ble_eq_true rfl)) dL_law_722 ⟨Nat.le_of_ble_eq_true rfl, Nat.le_of_ble_eq_true rfl⟩) hS (fun q _ h => hFc q h) hFc (fun r_64 u_64 t_64 H_64 locs_64 ht hvm hw_64 hB hz1 hk1 hS1 => ?_)
        obtain ⟨hP1, hK1, hD1⟩ := hB
        rw [ht] at hP1
        obtain ⟨hP2, hD2⟩ := va_join (wr := []) (w1 := []) hP hD [0, 1, 2, 3, 4, 5, 6, 7, 8] [] rfl rfl (by decide) (by decide) hk1 hFc hP1 hD1
        clear hPc hDc hFc hP1 hD1 hK1 hk1 hz1 hvm ht
        replace hP : va_P (dC, dI) vwCl [] H_64 := hP2
        replace hD : va_D (fun q : Nat => s.heap.size ≤ q) [] := hD2
        replace hS := hS1
        clear hP2 hD2 hS1
        refine lv_icmp_eq (tgt := 730) hx hb dL_law_725 (by decide) (fun c_65 => ?_) (fun c_65 => ?_)
        · -- on
          refine lv_iinc (v := 7) (lv' := [(3, .int 7), (2, .ref q_3), (1, .ref q_1), (0, .ref b)]) hx hb dL_law_730 hl (k := 0) rfl (by decide) (by decide) rfl (fun ls1 hl1 => ?_)
          replace hl := hl1; clear hl1
          refine lv_goto (tgt := 18) hx hb dL_law_733 (by decide) ?_
          refine lv_iload_n hx hb dL_law_18 rfl (lv_at hl 0 rfl) ?_
          refine lv_aload_n hx hb dL_law_19 rfl (lv_at hl 3 rfl) ?_
          refine va_slen hx hb hX hbl hbA hS dL_law_20 ?_
          refine lv_bipush (v := 7) hx hb dL_law_21 (by decide) ?_
          refine lv_isub hx hb dL_law_23 ?_
          refine my_topi (y := 0) (by decide) ?_
          refine lv_icmp_gt (tgt := 736) hx hb dL_law_24 (by decide) (fun c_0 => ?_) (fun c_0 => ?_)
          · -- end
            refine lv_iconst (v := 1) hx hb dL_law_736 (by decide) ?_
            refine va_forget (fun q hq => hS.2.2 q hq) ?_
            refine W.widen (k := 64) (n := 6560) (Nat.le_of_ble_eq_true rfl) (Nat.le_of_ble_eq_true rfl) ?_
            exact lw_ret hx hb hr hlocks dL_law_737
          · exact absurd (by decide) c_0
        · exact absurd (two_eq hw_63 hw_64) c_65
      · -- case 20
        refine lv_tableOut (tgt := 730) hx hb dL_law_33 (by omega) (by decide) ?_
        refine lv_iinc (v := 7) (lv' := [(3, .int 7), (2, .ref q_3), (1, .ref q_1), (0, .ref b)]) hx hb dL_law_730 hl (k := 0) rfl (by decide) (by decide) rfl (fun ls1 hl1 => ?_)
        replace hl := hl1; clear hl1
        refine lv_goto (tgt := 18) hx hb dL_law_733 (by decide) ?_
        refine lv_iload_n hx hb dL_law_18 rfl (lv_at hl 0 rfl) ?_
        refine lv_aload_n hx hb dL_law_19 rfl (lv_at hl 3 rfl) ?_
        refine va_slen hx hb hX hbl hbA hS dL_law_20 ?_
        refine lv_bipush (v := 7) hx hb dL_law_21 (by decide) ?_
        refine lv_isub hx hb dL_law_23 ?_
        refine my_topi (y := 0) (by decide) ?_
        refine lv_icmp_gt (tgt := 736) hx hb dL_law_24 (by decide) (fun c_0 => ?_) (fun c_0 => ?_)
        · -- end
          refine lv_iconst (v := 1) hx hb dL_law_736 (by decide) ?_
          refine va_forget (fun q hq => hS.2.2 q hq) ?_
          refine W.widen (k := 64) (n := 6560) (Nat.le_of_ble_eq_true rfl) (Nat.le_of_ble_eq_true rfl) ?_
          exact lw_ret hx hb hr hlocks dL_law_737
        · exact absurd (by decide) c_0
      · -- case 21
        refine lv_tableOut (tgt := 730) hx hb dL_law_33 (by omega) (by decide) ?_
        refine lv_iinc (v := 7) (lv' := [(3, .int 7), (2, .ref q_3), (1, .ref q_1), (0, .ref b)]) hx hb dL_law_730 hl (k := 0) rfl (by decide) (by decide) rfl (fun ls1 hl1 => ?_)
        replace hl := hl1; clear hl1
        refine lv_goto (tgt := 18) hx hb dL_law_733 (by decide) ?_
        refine lv_iload_n hx hb dL_law_18 rfl (lv_at hl 0 rfl) ?_
        refine lv_aload_n hx hb dL_law_19 rfl (lv_at hl 3 rfl) ?_
        refine va_slen hx hb hX hbl hbA hS dL_law_20 ?_
        refine lv_bipush (v := 7) hx hb dL_law_21 (by decide) ?_
        refine lv_isub hx hb dL_law_23 ?_
        refine my_topi (y := 0) (by decide) ?_
        refine lv_icmp_gt (tgt := 736) hx hb dL_law_24 (by decide) (fun c_0 => ?_) (fun c_0 => ?_)
        · -- end
          refine lv_iconst (v := 1) hx hb dL_law_736 (by decide) ?_
          refine va_forget (fun q hq => hS.2.2 q hq) ?_
          refine W.widen (k := 64) (n := 6560) (Nat.le_of_ble_eq_true rfl) (Nat.le_of_ble_eq_true rfl) ?_
          exact lw_ret hx hb hr hlocks dL_law_737
        · exact absurd (by decide) c_0
      · -- case 22
        refine lv_tableOut (tgt := 730) hx hb dL_law_33 (by omega) (by decide) ?_
        refine lv_iinc (v := 7) (lv' := [(3, .int 7), (2, .ref q_3), (1, .ref q_1), (0, .ref b)]) hx hb dL_law_730 hl (k := 0) rfl (by decide) (by decide) rfl (fun ls1 hl1 => ?_)
        replace hl := hl1; clear hl1
        refine lv_goto (tgt := 18) hx hb dL_law_733 (by decide) ?_
        refine lv_iload_n hx hb dL_law_18 rfl (lv_at hl 0 rfl) ?_
        refine lv_aload_n hx hb dL_law_19 rfl (lv_at hl 3 rfl) ?_
        refine va_slen hx hb hX hbl hbA hS dL_law_20 ?_
        refine lv_bipush (v := 7) hx hb dL_law_21 (by decide) ?_
        refine lv_isub hx hb dL_law_23 ?_
        refine my_topi (y := 0) (by decide) ?_
        refine lv_icmp_gt (tgt := 736) hx hb dL_law_24 (by decide) (fun c_0 => ?_) (fun c_0 => ?_)
        · -- end
          refine lv_iconst (v := 1) hx hb dL_law_736 (by decide) ?_
          refine va_forget (fun q hq => hS.2.2 q hq) ?_
          refine W.widen (k := 64) (n := 6560) (Nat.le_of_ble_eq_true rfl) (Nat.le_of_ble_eq_true rfl) ?_
          exact lw_ret hx hb hr hlocks dL_law_737
        · exact absurd (by decide) c_0
      · -- case 23
        refine lv_tableOut (tgt := 730) hx hb dL_law_33 (by omega) (by decide) ?_
        refine lv_iinc (v := 7) (lv' := [(3, .int 7), (2, .ref q_3), (1, .ref q_1), (0, .ref b)]) hx hb dL_law_730 hl (k := 0) rfl (by decide) (by decide) rfl (fun ls1 hl1 => ?_)
        replace hl := hl1; clear hl1
        refine lv_goto (tgt := 18) hx hb dL_law_733 (by decide) ?_
        refine lv_iload_n hx hb dL_law_18 rfl (lv_at hl 0 rfl) ?_
        refine lv_aload_n hx hb dL_law_19 rfl (lv_at hl 3 rfl) ?_
        refine va_slen hx hb hX hbl hbA hS dL_law_20 ?_
        refine lv_bipush (v := 7) hx hb dL_law_21 (by decide) ?_
        refine lv_isub hx hb dL_law_23 ?_
        refine my_topi (y := 0) (by decide) ?_
        refine lv_icmp_gt (tgt := 736) hx hb dL_law_24 (by decide) (fun c_0 => ?_) (fun c_0 => ?_)
        · -- end
          refine lv_iconst (v := 1) hx hb dL_law_736 (by decide) ?_
          refine va_forget (fun q hq => hS.2.2 q hq) ?_
          refine W.widen (k := 64) (n := 6560) (Nat.le_of_ble_eq_true rfl) (Nat.le_of_ble_eq_true rfl) ?_
          exact lw_ret hx hb hr hlocks dL_law_737
        · exact absurd (by decide) c_0
      · -- case 24
        refine lv_tableOut (tgt := 730) hx hb dL_law_33 (by omega) (by decide) ?_
        refine lv_iinc (v := 7) (lv' := [(3, .int 7), (2, .ref q_3), (1, .ref q_1), (0, .ref b)]) hx hb dL_law_730 hl (k := 0) rfl (by decide) (by decide) rfl (fun ls1 hl1 => ?_)
        replace hl := hl1; clear hl1
        refine lv_goto (tgt := 18) hx hb dL_law_733 (by decide) ?_
        refine lv_iload_n hx hb dL_law_18 rfl (lv_at hl 0 rfl) ?_
        refine lv_aload_n hx hb dL_law_19 rfl (lv_at hl 3 rfl) ?_
        refine va_slen hx hb hX hbl hbA hS dL_law_20 ?_
        refine lv_bipush (v := 7) hx hb dL_law_21 (by decide) ?_
        refine lv_isub hx hb dL_law_23 ?_
        refine my_topi (y := 0) (by decide) ?_
        refine lv_icmp_gt (tgt := 736) hx hb dL_law_24 (by decide) (fun c_0 => ?_) (fun c_0 => ?_)
        · -- end
          refine lv_iconst (v := 1) hx hb dL_law_736 (by decide) ?_
          refine va_forget (fun q hq => hS.2.2 q hq) ?_
          refine W.widen (k := 64) (n := 6560) (Nat.le_of_ble_eq_true rfl) (Nat.le_of_ble_eq_true rfl) ?_
          exact lw_ret hx hb hr hlocks dL_law_737
        · exact absurd (by decide) c_0
      · -- case 25
        refine lv_tableOut (tgt := 730) hx hb dL_law_33 (by omega) (by decide) ?_
        refine lv_iinc (v := 7) (lv' := [(3, .int 7), (2, .ref q_3), (1, .ref q_1), (0, .ref b)]) hx hb dL_law_730 hl (k := 0) rfl (by decide) (by decide) rfl (fun ls1 hl1 => ?_)
        replace hl := hl1; clear hl1
        refine lv_goto (tgt := 18) hx hb dL_law_733 (by decide) ?_
        refine lv_iload_n hx hb dL_law_18 rfl (lv_at hl 0 rfl) ?_
        refine lv_aload_n hx hb dL_law_19 rfl (lv_at hl 3 rfl) ?_
        refine va_slen hx hb hX hbl hbA hS dL_law_20 ?_
        refine lv_bipush (v := 7) hx hb dL_law_21 (by decide) ?_
        refine lv_isub hx hb dL_law_23 ?_
        refine my_topi (y := 0) (by decide) ?_
        refine lv_icmp_gt (tgt := 736) hx hb dL_law_24 (by decide) (fun c_0 => ?_) (fun c_0 => ?_)
        · -- end
          refine lv_iconst (v := 1) hx hb dL_law_736 (by decide) ?_
          refine va_forget (fun q hq => hS.2.2 q hq) ?_
          refine W.widen (k := 64) (n := 6560) (Nat.le_of_ble_eq_true rfl) (Nat.le_of_ble_eq_true rfl) ?_
          exact lw_ret hx hb hr hlocks dL_law_737
        · exact absurd (by decide) c_0
      · -- case 26
        refine lv_tableOut (tgt := 730) hx hb dL_law_33 (by omega) (by decide) ?_
        refine lv_iinc (v := 7) (lv' := [(3, .int 7), (2, .ref q_3), (1, .ref q_1), (0, .ref b)]) hx hb dL_law_730 hl (k := 0) rfl (by decide) (by decide) rfl (fun ls1 hl1 => ?_)
        replace hl := hl1; clear hl1
        refine lv_goto (tgt := 18) hx hb dL_law_733 (by decide) ?_
        refine lv_iload_n hx hb dL_law_18 rfl (lv_at hl 0 rfl) ?_
        refine lv_aload_n hx hb dL_law_19 rfl (lv_at hl 3 rfl) ?_
        refine va_slen hx hb hX hbl hbA hS dL_law_20 ?_
        refine lv_bipush (v := 7) hx hb dL_law_21 (by decide) ?_
        refine lv_isub hx hb dL_law_23 ?_
        refine my_topi (y := 0) (by decide) ?_
        refine lv_icmp_gt (tgt := 736) hx hb dL_law_24 (by decide) (fun c_0 => ?_) (fun c_0 => ?_)
        · -- end
          refine lv_iconst (v := 1) hx hb dL_law_736 (by decide) ?_
          refine va_forget (fun q hq => hS.2.2 q hq) ?_
          refine W.widen (k := 64) (n := 6560) (Nat.le_of_ble_eq_true rfl) (Nat.le_of_ble_eq_true rfl) ?_
          exact lw_ret hx hb hr hlocks dL_law_737
        · exact absurd (by decide) c_0
      · -- case 27
        refine lv_tableOut (tgt := 730) hx hb dL_law_33 (by omega) (by decide) ?_
        refine lv_iinc (v := 7) (lv' := [(3, .int 7), (2, .ref q_3), (1, .ref q_1), (0, .ref b)]) hx hb dL_law_730 hl (k := 0) rfl (by decide) (by decide) rfl (fun ls1 hl1 => ?_)
        replace hl := hl1; clear hl1
        refine lv_goto (tgt := 18) hx hb dL_law_733 (by decide) ?_
        refine lv_iload_n hx hb dL_law_18 rfl (lv_at hl 0 rfl) ?_
        refine lv_aload_n hx hb dL_law_19 rfl (lv_at hl 3 rfl) ?_
        refine va_slen hx hb hX hbl hbA hS dL_law_20 ?_
        refine lv_bipush (v := 7) hx hb dL_law_21 (by decide) ?_
        refine lv_isub hx hb dL_law_23 ?_
        refine my_topi (y := 0) (by decide) ?_
        refine lv_icmp_gt (tgt := 736) hx hb dL_law_24 (by decide) (fun c_0 => ?_) (fun c_0 => ?_)
        · -- end
          refine lv_iconst (v := 1) hx hb dL_law_736 (by decide) ?_
          refine va_forget (fun q hq => hS.2.2 q hq) ?_
          refine W.widen (k := 64) (n := 6560) (Nat.le_of_ble_eq_true rfl) (Nat.le_of_ble_eq_true rfl) ?_
          exact lw_ret hx hb hr hlocks dL_law_737
        · exact absurd (by decide) c_0
      · -- case 28
        refine lv_tableOut (tgt := 730) hx hb dL_law_33 (by omega) (by decide) ?_
        refine lv_iinc (v := 7) (lv' := [(3, .int 7), (2, .ref q_3), (1, .ref q_1), (0, .ref b)]) hx hb dL_law_730 hl (k := 0) rfl (by decide) (by decide) rfl (fun ls1 hl1 => ?_)
        replace hl := hl1; clear hl1
        refine lv_goto (tgt := 18) hx hb dL_law_733 (by decide) ?_
        refine lv_iload_n hx hb dL_law_18 rfl (lv_at hl 0 rfl) ?_
        refine lv_aload_n hx hb dL_law_19 rfl (lv_at hl 3 rfl) ?_
        refine va_slen hx hb hX hbl hbA hS dL_law_20 ?_
        refine lv_bipush (v := 7) hx hb dL_law_21 (by decide) ?_
        refine lv_isub hx hb dL_law_23 ?_
        refine my_topi (y := 0) (by decide) ?_
        refine lv_icmp_gt (tgt := 736) hx hb dL_law_24 (by decide) (fun c_0 => ?_) (fun c_0 => ?_)
        · -- end
          refine lv_iconst (v := 1) hx hb dL_law_736 (by decide) ?_
          refine va_forget (fun q hq => hS.2.2 q hq) ?_
          refine W.widen (k := 64) (n := 6560) (Nat.le_of_ble_eq_true rfl) (Nat.le_of_ble_eq_true rfl) ?_
          exact lw_ret hx hb hr hlocks dL_law_737
        · exact absurd (by decide) c_0
      · -- case 29
        refine lv_tableOut (tgt := 730) hx hb dL_law_33 (by omega) (by decide) ?_
        refine lv_iinc (v := 7) (lv' := [(3, .int 7), (2, .ref q_3), (1, .ref q_1), (0, .ref b)]) hx hb dL_law_730 hl (k := 0) rfl (by decide) (by decide) rfl (fun ls1 hl1 => ?_)
        replace hl := hl1; clear hl1
        refine lv_goto (tgt := 18) hx hb dL_law_733 (by decide) ?_
        refine lv_iload_n hx hb dL_law_18 rfl (lv_at hl 0 rfl) ?_
        refine lv_aload_n hx hb dL_law_19 rfl (lv_at hl 3 rfl) ?_
        refine va_slen hx hb hX hbl hbA hS dL_law_20 ?_
        refine lv_bipush (v := 7) hx hb dL_law_21 (by decide) ?_
        refine lv_isub hx hb dL_law_23 ?_
        refine my_topi (y := 0) (by decide) ?_
        refine lv_icmp_gt (tgt := 736) hx hb dL_law_24 (by decide) (fun c_0 => ?_) (fun c_0 => ?_)
        · -- end
          refine lv_iconst (v := 1) hx hb dL_law_736 (by decide) ?_
          refine va_forget (fun q hq => hS.2.2 q hq) ?_
          refine W.widen (k := 64) (n := 6560) (Nat.le_of_ble_eq_true rfl) (Nat.le_of_ble_eq_true rfl) ?_
          exact lw_ret hx hb hr hlocks dL_law_737
        · exact absurd (by decide) c_0
      · -- case 30
        refine lv_tableOut (tgt := 730) hx hb dL_law_33 (by omega) (by decide) ?_
        refine lv_iinc (v := 7) (lv' := [(3, .int 7), (2, .ref q_3), (1, .ref q_1), (0, .ref b)]) hx hb dL_law_730 hl (k := 0) rfl (by decide) (by decide) rfl (fun ls1 hl1 => ?_)
        replace hl := hl1; clear hl1
        refine lv_goto (tgt := 18) hx hb dL_law_733 (by decide) ?_
        refine lv_iload_n hx hb dL_law_18 rfl (lv_at hl 0 rfl) ?_
        refine lv_aload_n hx hb dL_law_19 rfl (lv_at hl 3 rfl) ?_
        refine va_slen hx hb hX hbl hbA hS dL_law_20 ?_
        refine lv_bipush (v := 7) hx hb dL_law_21 (by decide) ?_
        refine lv_isub hx hb dL_law_23 ?_
        refine my_topi (y := 0) (by decide) ?_
        refine lv_icmp_gt (tgt := 736) hx hb dL_law_24 (by decide) (fun c_0 => ?_) (fun c_0 => ?_)
        · -- end
          refine lv_iconst (v := 1) hx hb dL_law_736 (by decide) ?_
          refine va_forget (fun q hq => hS.2.2 q hq) ?_
          refine W.widen (k := 64) (n := 6560) (Nat.le_of_ble_eq_true rfl) (Nat.le_of_ble_eq_true rfl) ?_
          exact lw_ret hx hb hr hlocks dL_law_737
        · exact absurd (by decide) c_0
      · -- case 31
        refine lv_tableOut (tgt := 730) hx hb dL_law_33 (by omega) (by decide) ?_
        refine lv_iinc (v := 7) (lv' := [(3, .int 7), (2, .ref q_3), (1, .ref q_1), (0, .ref b)]) hx hb dL_law_730 hl (k := 0) rfl (by decide) (by decide) rfl (fun ls1 hl1 => ?_)
        replace hl := hl1; clear hl1
        refine lv_goto (tgt := 18) hx hb dL_law_733 (by decide) ?_
        refine lv_iload_n hx hb dL_law_18 rfl (lv_at hl 0 rfl) ?_
        refine lv_aload_n hx hb dL_law_19 rfl (lv_at hl 3 rfl) ?_
        refine va_slen hx hb hX hbl hbA hS dL_law_20 ?_
        refine lv_bipush (v := 7) hx hb dL_law_21 (by decide) ?_
        refine lv_isub hx hb dL_law_23 ?_
        refine my_topi (y := 0) (by decide) ?_
        refine lv_icmp_gt (tgt := 736) hx hb dL_law_24 (by decide) (fun c_0 => ?_) (fun c_0 => ?_)
        · -- end
          refine lv_iconst (v := 1) hx hb dL_law_736 (by decide) ?_
          refine va_forget (fun q hq => hS.2.2 q hq) ?_
          refine W.widen (k := 64) (n := 6560) (Nat.le_of_ble_eq_true rfl) (Nat.le_of_ble_eq_true rfl) ?_
          exact lw_ret hx hb hr hlocks dL_law_737
        · exact absurd (by decide) c_0
