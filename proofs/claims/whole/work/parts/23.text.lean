/-- the j-th of the four bytes of a number, highest first -/
def bt (v : Int32) (j : Nat) : Int := ((v >>> (zI (24 - 8 * (j : Int)) &&& 31)).toInt8.toInt32).toInt8.toInt
def apF (F : Nat → Int) (base : Nat) (v : Int32) : Nat → (Nat → Int)
  | 0 => F
  | j + 1 => up (apF F base v j) (base + j) (bt v j)
def ap5 (F : Nat → Int) (base : Nat) (a b c d e : Int32) : Nat → Int := apF (apF (apF (apF (apF F base a 4) (base + 4) b 4) (base + 8) c 4) (base + 12) d 4) (base + 16) e 4
/-- the number of a name: k letters from the place s on -/
def nmF (F : Nat → Int) (s : Nat) : Nat → Int
  | 0 => 0
  | k + 1 => 27 * nmF F s k + F (s + k) - 96
def azF (F : Nat → Int) : Nat → Bool
  | 0 => true
  | k + 1 => azF F k && decide (97 ≤ F k ∧ F k ≤ 122)
theorem azF_s {F : Nat → Int} {k : Nat} : azF F (k + 1) = true ↔ azF F k = true ∧ 97 ≤ F k ∧ F k ≤ 122 := by
  rw [azF, Bool.and_eq_true, decide_eq_true_iff]
theorem azF_m {F : Nat → Int} {k : Nat} : ∀ m, azF F (k + m) = true → azF F k = true
  | 0, h => h
  | m + 1, h => azF_m m (azF_s.mp h).1
def fndN (F : Nat → Int) (z : Int) : Int := if (1 ≤ z ∧ z ≤ 6) ∧ azF F z.toNat = true then nmF F 0 z.toNat else 0
def lnN (n : Net) (v : Int) : Int := srch (fun k => decide (0 < v ∧ n k 0 = v)) (n (-1) 0).toNat 0
theorem up_eq {J : Nat → Int} {k : Nat} {x : Int} (h : J k = x) : up J k x = J := by
  funext i
  unfold up
  split
  · next e => rw [e, h]
  · rfl
