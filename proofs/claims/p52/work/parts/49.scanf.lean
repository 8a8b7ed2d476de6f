def skp (p : Int → Bool) (B : Int → Int) : Nat → Int → Int
  | 0, k => k
  | f + 1, k => if p (B k) = true then skp p B f (k + 1) else k
def isW (c : Int) : Bool := decide (c = 32 ∨ c = 10)
def isA (c : Int) : Bool := decide (97 ≤ c ∧ c ≤ 122)
def isD (c : Int) : Bool := decide (48 ≤ c ∧ c ≤ 57)
def nums (B : Int → Int) : Nat → Int → Int → Int × Int
  | 0, k, v => (k, v)
  | f + 1, k, v => if isD (B k) = true then nums B f (k + 1) (min 9999 (10 * v + B k - 48)) else (k, v)
def setI (I : Nat → Int) (e s t v : Int) : Nat → Int := up (up (up (up I 8 e) 9 s) 10 t) 11 v
/-- the next piece of the text, from the place next on -/
def scanI (F : Nat → Int) (I : Nat → Int) : Nat → Int :=
  let B := byt F (I 7)
  let s := skp isW B 500 (I 8)
  if B s = -1 then setI I s s 0 (I 11)
  else if 97 ≤ B s ∧ B s ≤ 122 then setI I (skp isA B 500 s) s 1 (I 11)
  else if 48 ≤ B s ∧ B s ≤ 57 then setI I (nums B 500 s 0).1 s 2 (nums B 500 s 0).2
  else setI I (s + 1) s 3 (B s)
theorem byt_k {F : Nat → Int} {ts k : Int} (h : ¬ byt F ts k = -1) : k < ts := by
  unfold byt at h
  by_cases c : k < ts
  · exact c
  · rw [if_neg c] at h
    exact absurd rfl h
