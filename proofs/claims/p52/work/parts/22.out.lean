/-- the unit of the m-th digit from behind; none, if m is 0 -/
def pw (q : Nat) : Nat → Int
  | 0 => 0
  | k + 1 => ((q ^ k : Nat) : Int)
/-- the last m digits of a number -/
def dgQ (q : Nat) (c v : Int) : Nat → List Int
  | 0 => []
  | k + 1 => (c + v / pw q (k + 1) % q) :: dgQ q c v k
/-- the highest place of a number -/
def top (q : Nat) (v : Int) : Nat → Nat → Nat
  | 0, k => k
  | f + 1, k => if v / pw q (k + 1) < q then k else top q v f (k + 1)
def nam (v : Int) : List Int := if 0 < v then dgQ 27 96 v (top 27 v 10 0 + 1) else []
theorem pw_mul {q k : Nat} : pw q (k + 1) * q = pw q (k + 1 + 1) := by
  show ((q ^ k : Nat) : Int) * q = ((q ^ (k + 1) : Nat) : Int)
  rw [Nat.pow_succ, Int.natCast_mul]
theorem i8_c {v : Int} (h : 0 ≤ v ∧ v < 128) : ((zI v).toInt8.toInt32).toInt8.toInt = v := by
  have h0 : ∀ k : Fin 128, ((zI ((k : Nat) : Int)).toInt8.toInt32).toInt8.toInt = ((k : Nat) : Int) := by decide +kernel
  have h1 := h0 ⟨v.toNat, by omega⟩
  rw [show (((⟨v.toNat, by omega⟩ : Fin 128) : Nat) : Int) = v by show ((v.toNat : Nat) : Int) = v; omega] at h1
  exact h1
def oF (w : List Int) : Nat → Int := fun j => w.getD j 0
theorem oF_s (w : List Int) (c : Int) (j : Nat) (h : j < w.length + 1) : up (oF w) w.length c j = oF (w ++ [c]) j := by
  unfold up oF
  by_cases e : j = w.length
  · subst e
    rw [if_pos rfl, List.getD_eq_getElem?_getD, List.getElem?_append_right (Nat.le_refl _)]
    simp
  · rw [if_neg e, List.getD_eq_getElem?_getD, List.getD_eq_getElem?_getD, List.getElem?_append_left (by omega)]
