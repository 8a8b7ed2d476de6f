/-! The parser's small steps, case by case. -/
theorem errI_g {I : Nat → Int} {c : Int} (h : I 12 = 0) : errI I c 12 = c := by rw [errI_12, if_pos h]
theorem errI_b {I : Nat → Int} {c : Int} (h : ¬ I 12 = 0) : ¬ errI I c 12 = 0 := by rw [errI_12, if_neg h]; exact h
theorem nhI_D {I : Nat → Int} {a b : Int} (h : ¬ I 12 = 0) : nhI I a b = I := by
  unfold nhI
  rw [errI_id h, ite_self, errI_id h, ite_self]
theorem nhI_A {I : Nat → Int} {a b : Int} (h0 : I 12 = 0) (h : ¬ I 10 = 2) : nhI I a b = errI I 1 := by
  unfold nhI
  rw [if_neg h, errI_id (I := errI I 1) (c := 2) (by rw [errI_g h0]; decide), ite_self]
theorem nhI_B {I : Nat → Int} {a b : Int} (h : I 10 = 2) (h1 : a ≤ I 11 ∧ I 11 ≤ b) : nhI I a b = I := by
  unfold nhI
  rw [if_pos h1, if_pos h]
theorem nhI_C {I : Nat → Int} {a b : Int} (h : I 10 = 2) (h1 : ¬ (a ≤ I 11 ∧ I 11 ≤ b)) : nhI I a b = errI I 2 := by
  unfold nhI
  rw [if_neg h1, if_pos h]
theorem nhV_0 {I : Nat → Int} {a b : Int} (h : nhI I a b 12 = 0) : nhV I a b = I 11 := if_pos h
theorem srch_r {p : Nat → Bool} : ∀ (f k : Nat), -1 ≤ srch p f k ∧ srch p f k < (k + f : Nat) ∨ (f = 0 ∧ srch p f k = -1)
  | 0, k => Or.inr ⟨rfl, rfl⟩
  | f + 1, k => by
    unfold srch
    left
    split
    · omega
    · rcases srch_r (p := p) f (k + 1) with h | h <;> omega
theorem lnN_r {n : Net} {v : Int} (h : 0 ≤ n (-1) 0 ∧ n (-1) 0 ≤ 6) : -1 ≤ lnN n v ∧ lnN n v ≤ 5 ∧ (lnN n v < n (-1) 0 ∨ lnN n v = -1) := by
  unfold lnN
  rcases srch_r (p := fun k => decide (0 < v ∧ n k 0 = v)) (n (-1) 0).toNat 0 with h1 | h1 <;> omega
theorem nhV_r {I : Nat → Int} {a b : Int} (h : a ≤ b) : a ≤ nhV I a b ∧ nhV I a b ≤ b := by
  unfold nhV
  split
  · next c =>
    by_cases h1 : a ≤ I 11 ∧ I 11 ≤ b
    · exact h1
    · unfold nhI at c
      rw [if_neg h1] at c
      by_cases d : (if I 10 = 2 then I else errI I 1) 12 = 0
      · rw [errI_g d] at c; omega
      · exact absurd c (errI_b d)
  · omega
theorem ecV_r {F I : Nat → Int} : 0 ≤ ecV F I ∧ ecV F I ≤ 2 := by
  unfold ecV
  split
  · split
    · decide
    · split <;> decide
  · decide
