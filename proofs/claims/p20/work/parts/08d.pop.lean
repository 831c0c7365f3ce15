/-! Long.bitCount: 1 only of one bit -/
theorem uN_and (x y : Int64) : uN (x &&& y) = uN x &&& uN y := by
  show (x &&& y).toBitVec.toNat = x.toBitVec.toNat &&& y.toBitVec.toNat
  rw [Int64.toBitVec_and, BitVec.toNat_and]
theorem uN_sub {x y : Int64} (h : uN y ≤ uN x) : uN (x - y) = uN x - uN y := by
  show (x - y).toBitVec.toNat = x.toBitVec.toNat - y.toBitVec.toNat
  rw [Int64.toBitVec_sub]
  exact BitVec.toNat_sub_of_le (BitVec.le_def.mpr h)
theorem land_sp {a q m M : Nat} (ha : a < 2 ^ 8) (hm : m < 2 ^ 8) : (2 ^ 8 * q + a) &&& (2 ^ 8 * M + m) = 2 ^ 8 * (q &&& M) + (a &&& m) := by
  apply Nat.eq_of_testBit_eq
  intro j
  rw [Nat.testBit_and, Nat.testBit_two_pow_mul_add _ ha, Nat.testBit_two_pow_mul_add _ hm, Nat.testBit_two_pow_mul_add _ (Nat.and_lt_two_pow a hm)]
  by_cases h : j < 8
  · rw [if_pos h, if_pos h, if_pos h, Nat.testBit_and]
  · rw [if_neg h, if_neg h, if_neg h, Nat.testBit_and]
def mk (m : Nat) : Nat → Nat
  | 0 => 0
  | n + 1 => 2 ^ 8 * mk m n + m
def pf1 (n w : Nat) : Nat := w - (w / 2 &&& mk 85 n)
def pf2 (n w : Nat) : Nat := (w &&& mk 51 n) + (w / 4 &&& mk 51 n)
def pf3 (n w : Nat) : Nat := (w + w / 16) &&& mk 15 n
theorem bt1 : ∀ b, b < 2 → ∀ e, e < 128 → (128 * b + e) &&& 85 = e &&& 85 := by decide +kernel
theorem bt2 : ∀ b, b < 4 → ∀ e, e < 64 → (64 * b + e) &&& 51 = e &&& 51 := by decide +kernel
theorem bt3 : ∀ b, b < 5 → ∀ e, e < 73 → (16 * b + e) &&& 15 = e &&& 15 := by decide +kernel
theorem pf1_s (n q d : Nat) (hd : d < 256) : pf1 (n + 1) (2 ^ 8 * q + d) = 2 ^ 8 * pf1 n q + (d - (d / 2 &&& 85)) := by
  unfold pf1
  have h1 : (2 ^ 8 * q + d) / 2 = 2 ^ 8 * (q / 2) + (128 * (q % 2) + d / 2) := by omega
  rw [h1, mk, land_sp (by omega) (by omega), bt1 _ (by omega) _ (by omega)]
  have h2 : q / 2 &&& mk 85 n ≤ q / 2 := Nat.and_le_left
  have h3 : d / 2 &&& 85 ≤ d / 2 := Nat.and_le_left
  omega
theorem pf2_s (n q d : Nat) (hd : d < 256) : pf2 (n + 1) (2 ^ 8 * q + d) = 2 ^ 8 * pf2 n q + ((d &&& 51) + (d / 4 &&& 51)) := by
  unfold pf2
  have h1 : (2 ^ 8 * q + d) / 4 = 2 ^ 8 * (q / 4) + (64 * (q % 4) + d / 4) := by omega
  rw [h1, mk, land_sp (by omega) (by omega), land_sp (by omega) (by omega), bt2 _ (by omega) _ (by omega)]
  omega
theorem pf3_s (n q d : Nat) (hq : q % 16 ≤ 4) (hd : d ≤ 68) : pf3 (n + 1) (2 ^ 8 * q + d) = 2 ^ 8 * pf3 n q + ((d + d / 16) &&& 15) := by
  unfold pf3
  have h1 : 2 ^ 8 * q + d + (2 ^ 8 * q + d) / 16 = 2 ^ 8 * (q + q / 16) + (16 * (q % 16) + (d + d / 16)) := by omega
  rw [h1, mk, land_sp (by omega) (by omega), bt3 _ (by omega) _ (by omega)]
def pc1 (d : Nat) : Nat := d - (d / 2 &&& 85)
def pc2 (d : Nat) : Nat := (pc1 d &&& 51) + (pc1 d / 4 &&& 51)
def pc8 (d : Nat) : Nat := (pc2 d + pc2 d / 16) &&& 15
theorem pc1_lt : ∀ d, d < 256 → pc1 d < 256 := by decide +kernel
theorem pc2_le : ∀ d, d < 256 → pc2 d ≤ 68 ∧ pc2 d % 16 ≤ 4 := by decide +kernel
theorem pc8_le : ∀ d, d < 256 → pc8 d ≤ 8 := by decide +kernel
theorem pc8_0 : ∀ d, d < 256 → pc8 d = 0 → d = 0 := by decide +kernel
theorem pc8_q : ∀ d, d < 256 → ∀ i, i < 8 → ∀ j, j < 8 → (pc8 d = 1 ∧ d.testBit i = true ∧ d.testBit j = true) → i = j := by decide +kernel
theorem pc8_1 (d : Nat) (hd : d < 256) (h : pc8 d = 1) (i : Nat) (hi : i < 8) (j : Nat) (hj : j < 8) (ti : d.testBit i = true) (tj : d.testBit j = true) : i = j := pc8_q d hd i hi j hj ⟨h, ti, tj⟩
def pF (n w : Nat) : Nat := pf3 n (pf2 n (pf1 n w))
theorem pG (n : Nat) : ∀ w : Nat, pf2 n (pf1 n w) % 16 ≤ 4 := by
  cases n with
  | zero => intro w; unfold pf2; rw [mk, Nat.and_zero, Nat.and_zero]; decide
  | succ n =>
    intro w
    have e : w = 2 ^ 8 * (w / 256) + w % 256 := by omega
    have hd : w % 256 < 256 := by omega
    rw [e, pf1_s n _ _ hd]
    have h1 := pc1_lt _ hd
    have h2 := (pc2_le _ hd).2
    unfold pc2 pc1 at h2
    unfold pc1 at h1
    rw [pf2_s n _ _ h1]
    omega
theorem pF_s (n w : Nat) : pF (n + 1) w = 2 ^ 8 * pF n (w / 256) + pc8 (w % 256) := by
  have e : w = 2 ^ 8 * (w / 256) + w % 256 := by omega
  have hd : w % 256 < 256 := by omega
  have h1 := pc1_lt _ hd
  have h2 := (pc2_le _ hd).1
  have h3 := pG n (w / 256)
  unfold pF
  conv => lhs; rw [e]
  rw [pf1_s n _ _ hd, pf2_s n _ _ (by unfold pc1 at h1; exact h1), pf3_s n _ _ h3 (by unfold pc2 pc1 at h2; exact h2)]
  rfl
def sm : Nat → Nat → Nat
  | 0, _ => 0
  | n + 1, w => pc8 (w % 256) + sm n (w / 256)
theorem tb_lo (w i : Nat) (h : i < 8) : w.testBit i = (w % 256).testBit i := by
  rw [show 256 = 2 ^ 8 from rfl, Nat.testBit_mod_two_pow, decide_eq_true h, Bool.true_and]
theorem tb_hi (w i : Nat) (h : 8 ≤ i) : w.testBit i = (w / 256).testBit (i - 8) := by
  rw [show 256 = 2 ^ 8 from rfl, Nat.testBit_div_two_pow]
  congr 1
  omega
theorem sm_0 (n : Nat) : ∀ w : Nat, sm n w = 0 → ∀ i, i < 8 * n → w.testBit i = false := by
  induction n with
  | zero => intro w _ i hi; omega
  | succ n ih =>
    intro w h i hi
    rw [sm] at h
    by_cases q : i < 8
    · rw [tb_lo w i q, pc8_0 (w % 256) (by omega) (by omega), Nat.zero_testBit]
    · rw [tb_hi w i (by omega)]; exact ih (w / 256) (by omega) _ (by omega)
theorem sm_1 (n : Nat) : ∀ w : Nat, sm n w = 1 → ∀ i j, i < 8 * n → j < 8 * n → w.testBit i = true → w.testBit j = true → i = j := by
  induction n with
  | zero => intro w h; rw [sm] at h; omega
  | succ n ih =>
    intro w h i j hi hj ti tj
    rw [sm] at h
    by_cases c : pc8 (w % 256) = 0
    · have lo : ∀ k, k < 8 → w.testBit k = false := fun k hk => by rw [tb_lo w k hk, pc8_0 (w % 256) (by omega) c, Nat.zero_testBit]
      have i8 : 8 ≤ i := Nat.le_of_not_lt (fun q => by rw [lo i q] at ti; exact absurd ti (by decide))
      have j8 : 8 ≤ j := Nat.le_of_not_lt (fun q => by rw [lo j q] at tj; exact absurd tj (by decide))
      rw [tb_hi w i i8] at ti
      rw [tb_hi w j j8] at tj
      have := ih (w / 256) (by omega) (i - 8) (j - 8) (by omega) (by omega) ti tj
      omega
    · have hi0 := sm_0 n (w / 256) (by omega)
      have i8 : i < 8 := Nat.lt_of_not_le (fun q => by rw [tb_hi w i q, hi0 (i - 8) (by omega)] at ti; exact absurd ti (by decide))
      have j8 : j < 8 := Nat.lt_of_not_le (fun q => by rw [tb_hi w j q, hi0 (j - 8) (by omega)] at tj; exact absurd tj (by decide))
      rw [tb_lo w i i8] at ti
      rw [tb_lo w j j8] at tj
      exact pc8_1 (w % 256) (by omega) (by omega) i i8 j j8 ti tj
theorem dv {U n a q : Nat} (h : a < n) (e : U = n * q + a) : U / n = q := by
  rw [e, Nat.mul_add_div (by omega), Nat.div_eq_of_lt h, Nat.add_zero]
theorem pF8s {u0 u1 u2 u3 u4 u5 u6 u7 U : Nat} (h0 : u0 ≤ 8) (h1 : u1 ≤ 8) (h2 : u2 ≤ 8) (h3 : u3 ≤ 8) (h4 : u4 ≤ 8) (h5 : u5 ≤ 8) (h6 : u6 ≤ 8) (h7 : u7 ≤ 8) (hU : U = u0 + 256 * u1 + 65536 * u2 + 16777216 * u3 + 4294967296 * u4 + 1099511627776 * u5 + 281474976710656 * u6 + 72057594037927936 * u7) :
    U < 2 ^ 62 ∧ (U + U / 256 + (U + U / 256) / 65536 + (U + U / 256 + (U + U / 256) / 65536) / 4294967296) % 128 = u0 + u1 + u2 + u3 + u4 + u5 + u6 + u7 ∧ U + U / 256 + (U + U / 256) / 65536 + (U + U / 256 + (U + U / 256) / 65536) / 4294967296 < 2 ^ 63 := by
  have e1 : U / 256 = u1 + 256 * u2 + 65536 * u3 + 16777216 * u4 + 4294967296 * u5 + 1099511627776 * u6 + 281474976710656 * u7 := dv (a := u0) (by omega) (by omega)
  have e2 : (U + U / 256) / 65536 = (u2 + u3) + 256 * (u3 + u4) + 65536 * (u4 + u5) + 16777216 * (u5 + u6) + 4294967296 * (u6 + u7) + 1099511627776 * u7 := by
    rw [e1]
    clear e1
    exact dv (a := (u0 + u1) + 256 * (u1 + u2)) (by omega) (by omega)
  have e3 : (U + U / 256 + (U + U / 256) / 65536) / 4294967296 = (u4 + u5 + u6 + u7) + 256 * (u5 + u6 + u7) + 65536 * (u6 + u7) + 16777216 * u7 := by
    rw [e2, e1]
    clear e2 e1
    exact dv (a := (u0 + u1 + u2 + u3) + 256 * (u1 + u2 + u3 + u4) + 65536 * (u2 + u3 + u4 + u5) + 16777216 * (u3 + u4 + u5 + u6)) (by omega) (by omega)
  rw [e3, e2, e1]
  clear e3 e2 e1
  refine ⟨by omega, ?_, by omega⟩
  generalize hV : U + (u1 + 256 * u2 + 65536 * u3 + 16777216 * u4 + 4294967296 * u5 + 1099511627776 * u6 + 281474976710656 * u7) + (u2 + u3 + 256 * (u3 + u4) + 65536 * (u4 + u5) + 16777216 * (u5 + u6) + 4294967296 * (u6 + u7) + 1099511627776 * u7) + (u4 + u5 + u6 + u7 + 256 * (u5 + u6 + u7) + 65536 * (u6 + u7) + 16777216 * u7) = V
  have hK : V = (u0 + u1 + u2 + u3 + u4 + u5 + u6 + u7) + 128 * (2 * (u1 + 256 * u2 + 65536 * u3 + 16777216 * u4 + 4294967296 * u5 + 1099511627776 * u6 + 281474976710656 * u7 + u2 + 256 * u3 + 65536 * u4 + 16777216 * u5 + 4294967296 * u6 + 1099511627776 * u7 + (u3 + u4) + 256 * (u4 + u5) + 65536 * (u5 + u6) + 16777216 * (u6 + u7) + 4294967296 * u7 + (u5 + u6 + u7) + 256 * (u6 + u7) + 65536 * u7)) := by omega
  rw [hK, Nat.add_mul_mod_self_left]
  exact Nat.mod_eq_of_lt (by omega)
theorem pF8 (w : Nat) : ∃ u : Nat, pF 8 w = u ∧ u < 2 ^ 62 ∧ (u + u / 256 + (u + u / 256) / 65536 + (u + u / 256 + (u + u / 256) / 65536) / 4294967296) % 128 = sm 8 w ∧ u + u / 256 + (u + u / 256) / 65536 + (u + u / 256 + (u + u / 256) / 65536) / 4294967296 < 2 ^ 63 := by
  have e8 : pF 0 (w / 256 / 256 / 256 / 256 / 256 / 256 / 256 / 256) = 0 := by unfold pF pf3; rw [mk, Nat.and_zero]
  rw [pF_s, pF_s, pF_s, pF_s, pF_s, pF_s, pF_s, pF_s, e8]
  rw [sm, sm, sm, sm, sm, sm, sm, sm, sm]
  have h0 := pc8_le (w % 256) (Nat.mod_lt _ (by decide))
  have h1 := pc8_le (w / 256 % 256) (Nat.mod_lt _ (by decide))
  have h2 := pc8_le (w / 256 / 256 % 256) (Nat.mod_lt _ (by decide))
  have h3 := pc8_le (w / 256 / 256 / 256 % 256) (Nat.mod_lt _ (by decide))
  have h4 := pc8_le (w / 256 / 256 / 256 / 256 % 256) (Nat.mod_lt _ (by decide))
  have h5 := pc8_le (w / 256 / 256 / 256 / 256 / 256 % 256) (Nat.mod_lt _ (by decide))
  have h6 := pc8_le (w / 256 / 256 / 256 / 256 / 256 / 256 % 256) (Nat.mod_lt _ (by decide))
  have h7 := pc8_le (w / 256 / 256 / 256 / 256 / 256 / 256 / 256 % 256) (Nat.mod_lt _ (by decide))
  generalize pc8 (w % 256) = u0 at *
  generalize pc8 (w / 256 % 256) = u1 at *
  generalize pc8 (w / 256 / 256 % 256) = u2 at *
  generalize pc8 (w / 256 / 256 / 256 % 256) = u3 at *
  generalize pc8 (w / 256 / 256 / 256 / 256 % 256) = u4 at *
  generalize pc8 (w / 256 / 256 / 256 / 256 / 256 % 256) = u5 at *
  generalize pc8 (w / 256 / 256 / 256 / 256 / 256 / 256 % 256) = u6 at *
  generalize pc8 (w / 256 / 256 / 256 / 256 / 256 / 256 / 256 % 256) = u7 at *
  obtain ⟨q1, q2, q3⟩ := pF8s h0 h1 h2 h3 h4 h5 h6 h7 (U := 2 ^ 8 * (2 ^ 8 * (2 ^ 8 * (2 ^ 8 * (2 ^ 8 * (2 ^ 8 * (2 ^ 8 * (2 ^ 8 * 0 + u7) + u6) + u5) + u4) + u3) + u2) + u1) + u0) (by clear e8; omega)
  refine ⟨_, rfl, q1, ?_, q3⟩
  rw [q2]
  clear q1 q2 q3 e8
  omega
section
variable {x a1 a2 a3 b1 b2 b3 b4 c1 c2 c3 d1 d2 e1 e2 f1 f2 : Int64} {g r : Int32}
theorem pop13 (k1 : a1 = (x.toUInt64 >>> ((1 : Int32).toInt64.toUInt64 &&& Int64.toUInt64 63)).toInt64) (k2 : a2 = a1 &&& 6148914691236517205) (k3 : a3 = x - a2)
    (k4 : b1 = a3 &&& 3689348814741910323) (k5 : b2 = (a3.toUInt64 >>> ((2 : Int32).toInt64.toUInt64 &&& Int64.toUInt64 63)).toInt64) (k6 : b3 = b2 &&& 3689348814741910323) (k7 : b4 = b1 + b3)
    (k8 : c1 = (b4.toUInt64 >>> ((4 : Int32).toInt64.toUInt64 &&& Int64.toUInt64 63)).toInt64) (k9 : c2 = b4 + c1) (k10 : c3 = c2 &&& 1085102592571150095)
    (k11 : d1 = (c3.toUInt64 >>> ((8 : Int32).toInt64.toUInt64 &&& Int64.toUInt64 63)).toInt64) (k12 : d2 = c3 + d1) (k13 : e1 = (d2.toUInt64 >>> ((16 : Int32).toInt64.toUInt64 &&& Int64.toUInt64 63)).toInt64) (k14 : e2 = d2 + e1)
    (k15 : f1 = (e2.toUInt64 >>> ((32 : Int32).toInt64.toUInt64 &&& Int64.toUInt64 63)).toInt64) (k16 : f2 = e2 + f1) (k17 : g = f2.toInt32) (k18 : r = g &&& 127) : r.toInt = 1 → ∀ i j : Nat, i < 64 → j < 64 → sbit x i → sbit x j → i = j := by
  have lx := uN_lt x
  have s1 : uN a1 = uN x / 2 := by rw [k1, uN_shr]; rfl
  have s2 : uN a2 = uN x / 2 &&& mk 85 8 := by rw [k2, uN_and, s1]; rfl
  have s3 : uN a3 = pf1 8 (uN x) := by
    have h : uN a2 ≤ uN x := by rw [s2]; exact Nat.le_trans Nat.and_le_left (Nat.div_le_self _ _)
    rw [k3, uN_sub h, s2]; rfl
  have s4 : uN b1 = uN a3 &&& mk 51 8 := by rw [k4, uN_and]; rfl
  have s5 : uN b3 = uN a3 / 4 &&& mk 51 8 := by rw [k6, uN_and, k5, uN_shr]; rfl
  have m51 : mk 51 8 = 3689348814741910323 := by decide
  have s6 : uN b4 = pf2 8 (pf1 8 (uN x)) := by
    have h1 : uN b1 ≤ mk 51 8 := by rw [s4]; exact Nat.and_le_right
    have h2 : uN b3 ≤ mk 51 8 := by rw [s5]; exact Nat.and_le_right
    rw [k7, uN_add, Nat.mod_eq_of_lt (by omega), s4, s5, s3]; rfl
  have s7 : uN c1 = uN b4 / 16 := by rw [k8, uN_shr]; rfl
  have l4 : uN b4 ≤ 2 * 3689348814741910323 := by
    have h1 : uN b1 ≤ mk 51 8 := by rw [s4]; exact Nat.and_le_right
    have h2 : uN b3 ≤ mk 51 8 := by rw [s5]; exact Nat.and_le_right
    have h3 : uN b4 = (uN b1 + uN b3) % 18446744073709551616 := by rw [k7, uN_add]
    omega
  have s8 : uN c3 = pF 8 (uN x) := by
    rw [k10, uN_and, k9, uN_add, s7, Nat.mod_eq_of_lt (by omega), s6]; rfl
  obtain ⟨u, hu, hu62, hsm, hlt⟩ := pF8 (uN x)
  rw [hu] at s8
  have s9 : uN d2 = u + u / 256 := by
    have h : uN d1 = u / 256 := by rw [k11, uN_shr, s8]; rfl
    rw [k12, uN_add, s8, h, Nat.mod_eq_of_lt (by omega)]
  have s10 : uN e2 = u + u / 256 + (u + u / 256) / 65536 := by
    have h : uN e1 = (u + u / 256) / 65536 := by rw [k13, uN_shr, s9]; rfl
    rw [k14, uN_add, s9, h, Nat.mod_eq_of_lt (by omega)]
  have s11 : uN f2 = u + u / 256 + (u + u / 256) / 65536 + (u + u / 256 + (u + u / 256) / 65536) / 4294967296 := by
    have h : uN f1 = (u + u / 256 + (u + u / 256) / 65536) / 4294967296 := by rw [k15, uN_shr, s10]; rfl
    rw [k16, uN_add, s10, h, Nat.mod_eq_of_lt (by omega)]
  have s12 : r = nI (uN f2 % 128) := by
    rw [k18, pk_and g (m := 127) 7 (by decide), k17]
    congr 1
    show f2.toInt32.toBitVec.toNat % 2 ^ 7 = f2.toBitVec.toNat % 128
    rw [Int64.toBitVec_toInt32, BitVec.signExtend_eq_setWidth_of_le _ (by omega), BitVec.toNat_setWidth]
    omega
  intro h1 i j hi hj ti tj
  have h2 : sm 8 (uN x) = 1 := by
    rw [← hsm, ← s11]
    rw [s12, nI_toInt (by omega)] at h1
    omega
  exact sm_1 8 (uN x) h2 i j (by omega) (by omega) ti tj
end
/-! Integer.bitCount of LANES -/
def pop6f (x : Int32) : Int32 :=
  let a := x - ((x.toUInt32 >>> ((1 : Int32).toUInt32 &&& Int32.toUInt32 31)).toInt32 &&& 1431655765)
  let b := (a &&& 858993459) + ((a.toUInt32 >>> ((2 : Int32).toUInt32 &&& Int32.toUInt32 31)).toInt32 &&& 858993459)
  let c := (b + (b.toUInt32 >>> ((4 : Int32).toUInt32 &&& Int32.toUInt32 31)).toInt32) &&& 252645135
  let d := c + (c.toUInt32 >>> ((8 : Int32).toUInt32 &&& Int32.toUInt32 31)).toInt32
  let e := d + (d.toUInt32 >>> ((16 : Int32).toUInt32 &&& Int32.toUInt32 31)).toInt32
  e &&& 63
theorem pop6d : ∀ n, n < 8 → ∀ p, p < 3 → ∀ q, q < 3 → (¬ p = q ∧ bt (nI n) p = true ∧ bt (nI n) q = true) → 1 < (pop6f (nI n)).toInt := by decide +kernel
theorem pop6 {x a1 a2 a3 b1 b2 b3 b4 c1 c2 c3 d1 d2 e1 e2 r : Int32} (hx : 0 ≤ x.toInt ∧ x.toInt ≤ 7) (k1 : a1 = (x.toUInt32 >>> ((1 : Int32).toUInt32 &&& Int32.toUInt32 31)).toInt32) (k2 : a2 = a1 &&& 1431655765) (k3 : a3 = x - a2)
    (k4 : b1 = a3 &&& 858993459) (k5 : b2 = (a3.toUInt32 >>> ((2 : Int32).toUInt32 &&& Int32.toUInt32 31)).toInt32) (k6 : b3 = b2 &&& 858993459) (k7 : b4 = b1 + b3)
    (k8 : c1 = (b4.toUInt32 >>> ((4 : Int32).toUInt32 &&& Int32.toUInt32 31)).toInt32) (k9 : c2 = b4 + c1) (k10 : c3 = c2 &&& 252645135)
    (k11 : d1 = (c3.toUInt32 >>> ((8 : Int32).toUInt32 &&& Int32.toUInt32 31)).toInt32) (k12 : d2 = c3 + d1) (k13 : e1 = (d2.toUInt32 >>> ((16 : Int32).toUInt32 &&& Int32.toUInt32 31)).toInt32) (k14 : e2 = d2 + e1) (k15 : r = e2 &&& 63) : ∀ p q : Nat, p < 3 → q < 3 → ¬ p = q → lbit x p → lbit x q → 1 < r.toInt := by
  have e : r = pop6f x := by rw [k15, k14, k13, k12, k11, k10, k9, k8, k7, k6, k5, k4, k3, k2, k1]; rfl
  obtain ⟨n, hn, hn2, rfl⟩ := i_nI hx
  intro p q hp hq hne h1 h2
  rw [e]
  exact pop6d n (by omega) p hp q hq ⟨hne, h1, h2⟩
