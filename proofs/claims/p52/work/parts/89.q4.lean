/-! Questions of what would be: they are played on another trunk. -/
theorem srch_t {p : Nat → Bool} {j k : Nat} (h : p k = true) : srch p (j + 1) k = (k : Int) := if_pos h
theorem srch_f {p : Nat → Bool} {j k : Nat} (h : ¬ p k = true) : srch p (j + 1) k = srch p j (k + 1) := if_neg h

