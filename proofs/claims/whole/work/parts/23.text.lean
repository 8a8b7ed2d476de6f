/-- the j-th of the four bytes of a number, highest first -/
def bt (v : Int32) (j : Nat) : Int := ((v >>> (zI (24 - 8 * (j : Int)) &&& 31)).toInt8.toInt32).toInt8.toInt
def apF (F : Nat → Int) (base : Nat) (v : Int32) : Nat → (Nat → Int)
  | 0 => F
  | j + 1 => up (apF F base v j) (base + j) (bt v j)
def ap5 (F : Nat → Int) (base : Nat) (a b c d e : Int32) : Nat → Int := apF (apF (apF (apF (apF F base a 4) (base + 4) b 4) (base + 8) c 4) (base + 12) d 4) (base + 16) e 4
/-- the number of a name: k letters from the place s on -/
def nmF (F : Nat → Int) (s : Nat) : Nat → Int
  | 0 => 0
  | k + 1 => 27 * nmF F s k + F (s + k) - 96
def azF (F : Nat → Int) : Nat → Bool
  | 0 => true
  | k + 1 => azF F k && decide (97 ≤ F k ∧ F k ≤ 122)
theorem azF_s {F : Nat → Int} {k : Nat} : azF F (k + 1) = true ↔ azF F k = true ∧ 97 ≤ F k ∧ F k ≤ 122 := by
  rw [azF, Bool.and_eq_true, decide_eq_true_iff]
theorem azF_m {F : Nat → Int} {k : Nat} : ∀ m, azF F (k + m) = true → azF F k = true
  | 0, h => h
  | m + 1, h => azF_m m (azF_s.mp h).1
def fndN (F : Nat → Int) (z : Int) : Int := if (1 ≤ z ∧ z ≤ 6) ∧ azF F z.toNat = true then nmF F 0 z.toNat else 0
def lnN (n : Net) (v : Int) : Int := srch (fun k => decide (0 < v ∧ n k 0 = v)) (n (-1) 0).toNat 0
theorem up_eq {J : Nat → Int} {k : Nat} {x : Int} (h : J k = x) : up J k x = J := by
  funext i
  unfold up
  split
  · next e => rw [e, h]
  · rfl
theorem bz_iff {p q : Prop} [Decidable p] [Decidable q] (h : p ↔ q) : bz p = bz q := by
  by_cases hp : p
  · rw [bz_t hp, bz_t (h.mp hp)]
  · rw [bz_f hp, bz_f (fun z => hp (h.mpr z))]
theorem azF_e {F : Nat → Int} : ∀ m, azF F m = true → ∀ j, j < m → 97 ≤ F j ∧ F j ≤ 122
  | 0, _, j, h => absurd h (by omega)
  | m + 1, h, j, hj => by
    by_cases e : j = m
    · subst e; exact (azF_s.mp h).2
    · exact azF_e m (azF_s.mp h).1 j (by omega)
theorem nmF_r {F : Nat → Int} {s : Nat} : ∀ m, (∀ j, j < m → 97 ≤ F (s + j) ∧ F (s + j) ≤ 122) → 0 ≤ nmF F s m ∧ nmF F s m < pw 27 (m + 1)
  | 0, _ => ⟨Int.le_refl _, show (0 : Int) < pw 27 1 by decide⟩
  | m + 1, h => by
    have h1 := nmF_r m (fun j hj => h j (by omega))
    have h2 := h m (by omega)
    have h3 : pw 27 (m + 1) * 27 = pw 27 (m + 1 + 1) := pw_mul
    unfold nmF
    omega
theorem fndN_r {F : Nat → Int} {z : Nat} (h : z ≤ 6) (ha : azF F z = true) : 0 ≤ nmF F 0 z ∧ nmF F 0 z < 387420489 := by
  have h1 := nmF_r (s := 0) z (fun j hj => by rw [Nat.zero_add]; exact azF_e z ha j hj)
  have h2 : pw 27 (z + 1) ≤ 387420489 := by
    have : ∀ i : Fin 7, pw 27 ((i : Nat) + 1) ≤ 387420489 := by decide +kernel
    exact this ⟨z, by omega⟩
  omega
theorem fndN_f {F : Nat → Int} {x : Int} {z : Nat} (hz : x = z) (h : ¬ ((1 ≤ x ∧ x ≤ 6) ∧ azF F z = true)) : fndN F x = 0 := by
  unfold fndN
  rw [show x.toNat = z by omega]
  exact if_neg h
theorem fndN_t {F : Nat → Int} {x : Int} {z : Nat} (hz : x = z) (h : (1 ≤ x ∧ x ≤ 6) ∧ azF F z = true) : fndN F x = nmF F 0 z := by
  unfold fndN
  rw [show x.toNat = z by omega]
  exact if_pos h
