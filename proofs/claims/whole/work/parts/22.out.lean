/-- the unit of the m-th digit from behind; none, if m is 0 -/
def pw (q : Nat) : Nat → Int
  | 0 => 0
  | k + 1 => ((q ^ k : Nat) : Int)
/-- the last m digits of a number -/
def dgQ (q : Nat) (c v : Int) : Nat → List Int
  | 0 => []
  | k + 1 => (c + v / pw q (k + 1) % q) :: dgQ q c v k
/-- the highest place of a number -/
def top (q : Nat) (v : Int) : Nat → Nat → Nat
  | 0, k => k
  | f + 1, k => if v / pw q (k + 1) < q then k else top q v f (k + 1)
def dec (v : Int) : List Int := dgQ 10 48 v (top 10 v 10 0 + 1)
def nam (v : Int) : List Int := if 0 < v then dgQ 27 96 v (top 27 v 10 0 + 1) else []
theorem dgQ_len (q : Nat) (c v : Int) : ∀ m, (dgQ q c v m).length = m
  | 0 => rfl
  | k + 1 => congrArg (· + 1) (dgQ_len q c v k)
theorem pw_mul {q k : Nat} : pw q (k + 1) * q = pw q (k + 1 + 1) := by
  show ((q ^ k : Nat) : Int) * q = ((q ^ (k + 1) : Nat) : Int)
  rw [Nat.pow_succ, Int.natCast_mul]
theorem pw_div {q : Nat} (h : 2 ≤ q) : ∀ m, pw q (m + 1) / q = pw q m
  | 0 => by
    show ((q ^ 0 : Nat) : Int) / q = 0
    rw [Nat.pow_zero]
    exact Int.ediv_eq_zero_of_lt (by decide) (by omega)
  | k + 1 => by
    rw [← pw_mul]
    exact Int.mul_ediv_cancel _ (by omega)
theorem pw_pos {q : Nat} (h : 2 ≤ q) (m : Nat) : 0 < pw q (m + 1) := by
  show (0 : Int) < ((q ^ m : Nat) : Int)
  exact Int.natCast_pos.mpr (Nat.pow_pos (by omega))
theorem i8_c {v : Int} (h : 0 ≤ v ∧ v < 128) : ((zI v).toInt8.toInt32).toInt8.toInt = v := by
  have h0 : ∀ k : Fin 128, ((zI ((k : Nat) : Int)).toInt8.toInt32).toInt8.toInt = ((k : Nat) : Int) := by decide +kernel
  have h1 := h0 ⟨v.toNat, by omega⟩
  rw [show (((⟨v.toNat, by omega⟩ : Fin 128) : Nat) : Int) = v by show ((v.toNat : Nat) : Int) = v; omega] at h1
  exact h1
def oF (w : List Int) : Nat → Int := fun j => w.getD j 0
theorem oF_s (w : List Int) (c : Int) (j : Nat) (h : j < w.length + 1) : up (oF w) w.length c j = oF (w ++ [c]) j := by
  unfold up oF
  by_cases e : j = w.length
  · subst e
    rw [if_pos rfl, List.getD_eq_getElem?_getD, List.getElem?_append_right (Nat.le_refl _)]
    simp
  · rw [if_neg e, List.getD_eq_getElem?_getD, List.getD_eq_getElem?_getD, List.getElem?_append_left (by omega)]
theorem pw_nn (q : Nat) : ∀ m, 0 ≤ pw q m
  | 0 => Int.le_refl _
  | k + 1 => Int.natCast_nonneg _
theorem top_b {q : Nat} {v : Int} {j : Nat} (hq : 2 ≤ q) (hv : v < pw q (j + 1) * q) : ∀ f k, k ≤ j → top q v f k ≤ j := by
  intro f
  induction f with
  | zero => intro k h; exact h
  | succ f ih =>
    intro k h
    unfold top
    split
    · exact h
    · next c =>
      refine ih (k + 1) ?_
      by_cases e : k = j
      · subst e
        exact absurd (Int.ediv_lt_of_lt_mul (pw_pos hq k) (by rw [Int.mul_comm]; exact hv)) c
      · omega
theorem dec_len {v : Int} (j : Nat) (hv : v < pw 10 (j + 1) * 10) : (dec v).length ≤ j + 1 := by
  unfold dec
  rw [dgQ_len]
  have := top_b (q := 10) (by decide) hv 10 0 (by omega)
  omega
theorem nam_len {v : Int} (hv : v < 387420489) : (nam v).length ≤ 6 := by
  unfold nam
  split
  · rw [dgQ_len]
    have h : v < pw 27 (5 + 1) * 27 := by
      show v < ((27 ^ 5 : Nat) : Int) * 27
      rw [show ((27 ^ 5 : Nat) : Int) = 14348907 from rfl]
      omega
    have := top_b (q := 27) (by decide) h 10 0 (by omega)
    omega
  · exact Nat.zero_le _
/-- the counts of a line, written -/
def cntS (n : Net) (l : Int) : Nat → List Int
  | 0 => []
  | k + 1 => (if 0 < (k : Int) then cntS n l k ++ [44] else cntS n l k) ++ dec (n l (16 + k))
theorem cntS_len {b : Int} {n : Net} {l : Int} (hc : ∀ k, 16 ≤ k → k ≤ 27 → 0 ≤ n l k ∧ n l k ≤ b) (hb : b ≤ 900000000) : ∀ k : Nat, k ≤ 12 → (cntS n l k).length ≤ 10 * k := by
  intro k
  induction k with
  | zero => intro _; exact Nat.zero_le _
  | succ k ih =>
    intro h
    have h1 := ih (by omega)
    have h2 := hc (16 + k) (by omega) (by omega)
    have h3 : n l (16 + k) < pw 10 (8 + 1) * 10 := by
      show n l (16 + k) < ((10 ^ 8 : Nat) : Int) * 10
      rw [show ((10 ^ 8 : Nat) : Int) = 100000000 from rfl]
      omega
    have h4 := dec_len 8 h3
    unfold cntS
    rw [List.length_append]
    split
    · rw [List.length_append]
      show _ + 1 + _ ≤ _
      omega
    · omega
theorem len_app {w a : List Int} {m p : Nat} (h : w.length ≤ m) (ha : a.length ≤ p) : (w ++ a).length ≤ m + p := by
  rw [List.length_append]; omega
theorem len_if {w : List Int} {c : Int} {m : Nat} (p : Prop) [Decidable p] (h : w.length ≤ m) : (if p then w ++ [c] else w).length ≤ m + 1 := by
  split
  · rw [List.length_append]; show _ + 1 ≤ _; omega
  · omega
theorem dec_len1 {v : Int} (hv : v < 10) : (dec v).length ≤ 1 := dec_len 0 hv
theorem dec_len2 {v : Int} (hv : v < 100) : (dec v).length ≤ 2 := dec_len 1 hv
/-- an entry of the log, written -/
def logE (n : Net) (k : Int) : List Int := if n (-2) (5 * k + 2) = n (-2) (5 * k + 1) then dec (n (-2) (5 * k + 1)) else dec (n (-2) (5 * k + 1)) ++ [94] ++ dec (n (-2) (5 * k + 2))
def logS (n : Net) : Nat → List Int
  | 0 => []
  | m + 1 => logE n m ++ logS n m
def queS (n : Net) : Nat → List Int
  | 0 => []
  | k + 1 =>
    let w1 := if 0 < (k : Int) then queS n k ++ [32] else queS n k
    let w6 := w1 ++ nam (n k 0) ++ [58] ++ dec (n k 6) ++ [47] ++ dec (n k 7)
    let w7 := if 0 < n k 9 then w6 ++ [104] else w6
    let w8 := if n k 10 = 1 then w7 ++ [115] else w7
    if n k 11 = 1 then w8 ++ [112] else w8
