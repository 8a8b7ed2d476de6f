/-- the j-th of the four bytes of a number, highest first -/
def bt (v : Int32) (j : Nat) : Int := ((v >>> (zI (24 - 8 * (j : Int)) &&& 31)).toInt8.toInt32).toInt8.toInt
def apF (F : Nat → Int) (base : Nat) (v : Int32) : Nat → (Nat → Int)
  | 0 => F
  | j + 1 => up (apF F base v j) (base + j) (bt v j)
def ap5 (F : Nat → Int) (base : Nat) (a b c d e : Int32) : Nat → Int := apF (apF (apF (apF (apF F base a 4) (base + 4) b 4) (base + 8) c 4) (base + 12) d 4) (base + 16) e 4
/-- the number of a name: k letters from the place s on -/
def nmF (F : Nat → Int) (s : Nat) : Nat → Int
  | 0 => 0
  | k + 1 => 27 * nmF F s k + F (s + k) - 96
def lnN (n : Net) (v : Int) : Int := srch (fun k => decide (0 < v ∧ n k 0 = v)) (n (-1) 0).toNat 0
theorem nmF_r {F : Nat → Int} {s : Nat} : ∀ m, (∀ j, j < m → 97 ≤ F (s + j) ∧ F (s + j) ≤ 122) → 0 ≤ nmF F s m ∧ nmF F s m < pw 27 (m + 1)
  | 0, _ => ⟨Int.le_refl _, show (0 : Int) < pw 27 1 by decide⟩
  | m + 1, h => by
    have h1 := nmF_r m (fun j hj => h j (by omega))
    have h2 := h m (by omega)
    have h3 : pw 27 (m + 1) * 27 = pw 27 (m + 1 + 1) := pw_mul
    unfold nmF
    omega
