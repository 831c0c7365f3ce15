section SFR5
variable {p : Program} {l : Launch} {e : Env} {R : Room} {s : State} {m : MethodId} {args : Array Value} {below : List Frame} {meth : Method} {c : Code} {H : Heap} {locs : List Loc} {cells slots : Nat} {Q : State → Prop}
variable {cc : ByteArray} {pc : Nat} {ls : Array Slot} {rest : List Value} {D : va_G} {cl : List vw_C} {A : Nat → Prop} {a : Nat} {tys : List (ClassId × FieldType)} {ws : va_W} {H0 : Heap}
theorem sf_lastU (hexec : p.tables.exec = Jvm.exec) (hb : c.code = cc) (hK : va_K D cl tys s) (hP : va_P D cl ws H) (hD : va_D A ws) (hS : va_S A H0 H locs) (q0 t0 : Nat) {cA : ClassId} {n : Nat} {f : Nat → Int64} (ha : ws[q0]? = some (a, .inl (cA, n, .inr (.inl f)))) (ht : tys[t0]? = some (cA, .long)) {i : Int32} {x : Int64} (hin : vp_in i n) (hdg : decode cc pc = .ok (.lastore, 1))
    (kk : ∀ (f1 : Nat → Int64), f1 i.toNatClampNeg = x → (∀ j, ¬ j = i.toNatClampNeg → f1 j = f j) → ∀ (H1 : Heap) (locs1 : List Loc), va_P D cl (ws.set q0 (a, .inl (cA, n, .inr (.inl f1)))) H1 → va_D A (ws.set q0 (a, .inl (cA, n, .inr (.inl f1)))) → va_S A H0 H1 locs1 → W p l e R s m args below meth c H1 locs1 cells slots Q (F0 m (pc + 1) ls rest)) : W p l e R s m args below meth c H locs cells slots Q (F0 m pc ls (.long x :: .int i :: .ref a :: rest)) :=
  va_last hexec hb hK hP hD hS q0 t0 ha ht hin hdg (fun H1 locs1 => kk _ (by simp [vp_updL]) (fun j hj => by simp [vp_updL, hj]) H1 locs1)
end SFR5
theorem okP_rng {k a b c d e : Int32} (h : okP k a b c d e) : 0 ≤ k.toInt ∧ k.toInt ≤ 14 := by
  rcases h with h | h | h | h | h | h | h | h | h | h | h | h | h | h | h
  all_goals (have := h.1; omega)
abbrev like (pl ph : Nat → Int64) (b p : Nat) : Prop := (pl (12 * b + p)).toInt = (pl (12 * b + p - 1)).toInt ∧ (ph (12 * b + p)).toInt = (ph (12 * b + p - 1)).toInt
def Cn (pl ph : Nat → Int64) (b : Nat) : Nat → Nat
  | 0 => 0
  | q + 1 => Cn pl ph b q + (if like pl ph b q then 0 else 1)
theorem Cn_y {pl ph : Nat → Int64} {b q r : Nat} (e : r = q + 1) (h : like pl ph b q) : Cn pl ph b r = Cn pl ph b q := by rw [e, Cn, if_pos h]; rfl
theorem Cn_n {pl ph : Nat → Int64} {b q r : Nat} (e : r = q + 1) (h : ¬ like pl ph b q) : Cn pl ph b r = Cn pl ph b q + 1 := by rw [e, Cn, if_neg h]
theorem Cn_mono {pl ph : Nat → Int64} {b p q : Nat} (h : p ≤ q) : Cn pl ph b p ≤ Cn pl ph b q := by
  induction q with
  | zero => rw [Nat.le_zero.mp h]; exact Nat.le_refl _
  | succ q ih =>
    by_cases e : p = q + 1
    · rw [e]; exact Nat.le_refl _
    · have := ih (by omega)
      rw [Cn]; omega
theorem Cn_lt {pl ph : Nat → Int64} {b p q : Nat} (h : Cn pl ph b p < Cn pl ph b q) : p < q := by
  rcases Nat.lt_or_ge p q with h1 | h1
  · exact h1
  · have := Cn_mono (pl := pl) (ph := ph) (b := b) h1; omega
