/-- the decimal digits of a number from the place k down -/
def dgs (v : Int) : Nat → List Int
  | 0 => [48 + v / 1 % 10]
  | k + 1 => (48 + v / ((10 ^ (k + 1) : Nat) : Int) % 10) :: dgs v k
/-- the highest place of a number -/
def top (q : Nat) (v : Int) : Nat → Nat → Nat
  | 0, k => k
  | f + 1, k => if v / ((q ^ k : Nat) : Int) < q then k else top q v f (k + 1)
def dec (v : Int) : List Int := dgs v (top 10 v 10 0)
/-- the letters of a name's number from the place k down -/
def lets (v : Int) : Nat → List Int
  | 0 => [96 + v / 1 % 27]
  | k + 1 => (96 + v / ((27 ^ (k + 1) : Nat) : Int) % 27) :: lets v k
def nam (v : Int) : List Int := if 0 < v then lets v (top 27 v 10 0) else []
theorem i8_c {v : Int} (h : 0 ≤ v ∧ v < 128) : ((zI v).toInt8.toInt32).toInt8.toInt = v := by
  have h0 : ∀ k : Fin 128, ((zI ((k : Nat) : Int)).toInt8.toInt32).toInt8.toInt = ((k : Nat) : Int) := by decide +kernel
  have h1 := h0 ⟨v.toNat, by omega⟩
  rw [show (((⟨v.toNat, by omega⟩ : Fin 128) : Nat) : Int) = v by show ((v.toNat : Nat) : Int) = v; omega] at h1
  exact h1
def oF (w : List Int) : Nat → Int := fun j => w.getD j 0
theorem oF_s (w : List Int) (c : Int) (j : Nat) (h : j < w.length + 1) : up (oF w) w.length c j = oF (w ++ [c]) j := by
  unfold up oF
  by_cases e : j = w.length
  · subst e
    rw [if_pos rfl, List.getD_eq_getElem?_getD, List.getElem?_append_right (Nat.le_refl _)]
    simp
  · rw [if_neg e, List.getD_eq_getElem?_getD, List.getD_eq_getElem?_getD, List.getElem?_append_left (by omega)]
