theorem nar_ge {f g : Nat → Int64} {X Y : Nat} {hi : Int64} (h : ∀ j : Nat, (j = Y → (g j).toInt ≤ (f j).toInt ∧ (g j).toInt ≤ hi.toInt ∧ ((g j).toInt = (f j).toInt ∨ (g j).toInt = hi.toInt)) ∧ (¬ j = Y → (g j).toInt = (f j).toInt)) (hh : 0 ≤ hi.toInt) (h0 : 0 ≤ (f X).toInt) : 0 ≤ (g X).toInt := by
  by_cases q : X = Y
  · have b := (h X).1 q
    omega
  · have b := (h X).2 q
    omega
