/-! The law's load: what it draws. -/
abbrev B7 (w : List Int) : Prop := ∀ x ∈ w, 0 ≤ x ∧ x < 128
theorem B7_app {u v : List Int} (hu : B7 u) (hv : B7 v) : B7 (u ++ v) := fun x hx => (List.mem_append.mp hx).elim (hu x) (hv x)
theorem B7_one {c : Int} (h : 0 ≤ c ∧ c < 128) : B7 [c] := fun x hx => by
  rcases List.mem_singleton.mp hx with rfl
  exact h
theorem dg_le (v : Int) : (dg v).length ≤ 3 := by
  unfold dg
  split
  · show 1 ≤ 3; decide
  · split
    · show 2 ≤ 3; decide
    · show 3 ≤ 3; decide
theorem dg_le2 (v : Int) (h : v < 100) : (dg v).length ≤ 2 := by
  unfold dg
  repeat' split
  all_goals first | (show 1 ≤ 2; decide) | (show 2 ≤ 2; decide) | (exfalso; omega)
def dD (L : Nat) (xs : Nat → Int32) : Int := if drw L xs 5 2 = 0 then 5 else 30
def dP (L : Nat) (xs : Nat → Int32) (k : Nat) : LinP :=
  (4 + drw L xs (1 + (k : Int)) (dD L xs), drw L xs (6 + (k : Int)) (4 + drw L xs (1 + (k : Int)) (dD L xs)), drw L xs (6 + (k : Int)) (4 + drw L xs (1 + (k : Int)) (dD L xs)) + 1 + drw L xs (10 + (k : Int)) (4 + drw L xs (1 + (k : Int)) (dD L xs) - drw L xs (6 + (k : Int)) (4 + drw L xs (1 + (k : Int)) (dD L xs))), 1 + drw L xs (14 + (k : Int)) 4, drw L xs (18 + (k : Int)) 4)
theorem dD_r (L : Nat) (xs : Nat → Int32) : dD L xs = 5 ∨ dD L xs = 30 := by unfold dD; split <;> omega
theorem dP_ok (L : Nat) (xs : Nat → Int32) : LPok (dP L xs) := by
  intro k
  have hd := dD_r L xs
  have h1 := drw_r (L := L) (xs := xs) (k := 1 + (k : Int)) (n := dD L xs) (by omega)
  unfold dP
  dsimp only
  have hcap : 4 ≤ 4 + drw L xs (1 + (k : Int)) (dD L xs) ∧ 4 + drw L xs (1 + (k : Int)) (dD L xs) ≤ 33 := by omega
  generalize 4 + drw L xs (1 + (k : Int)) (dD L xs) = cap at hcap ⊢
  have h2 := drw_r (L := L) (xs := xs) (k := 6 + (k : Int)) (n := cap) (by omega)
  generalize drw L xs (6 + (k : Int)) cap = lo at h2 ⊢
  have h3 := drw_r (L := L) (xs := xs) (k := 10 + (k : Int)) (n := cap - lo) (by omega)
  have h4 := drw_r (L := L) (xs := xs) (k := 14 + (k : Int)) (n := 4) (by decide)
  have h5 := drw_r (L := L) (xs := xs) (k := 18 + (k : Int)) (n := 4) (by decide)
  omega
def dLe (L : Nat) (xs : Nat → Int32) (m : Nat) : Nat := if 1 < (m : Int) ∧ drw L xs 22 2 = 0 then 1 else 0
def dX (L : Nat) (xs : Nat → Int32) (m : Nat) : Nat := (drw L xs 23 (m : Int)).toNat
def dY (L : Nat) (xs : Nat → Int32) (m : Nat) : Nat := ((drw L xs 23 (m : Int) + 1) % (m : Int)).toNat
def dT (L : Nat) (xs : Nat → Int32) : Int := 1 + drw L xs 24 5
def dN (L : Nat) (xs : Nat → Int32) (k : Nat) : Nat := (drw L xs (25 + (k : Int)) 9).toNat
def dL (L : Nat) (xs : Nat → Int32) (m k : Nat) : Nat := (drw L xs (27 + (k : Int)) (m : Int)).toNat
def dF (L : Nat) (xs : Nat → Int32) (i : Nat) : Int := if drw L xs (29 + (i : Int)) 4 = 0 then 13 else 1 + drw L xs (29 + (i : Int)) 127
theorem dF_r (L : Nat) (xs : Nat → Int32) (i : Nat) : 1 ≤ dF L xs i ∧ dF L xs i ≤ 127 := by
  have h := drw_r (L := L) (xs := xs) (k := 29 + (i : Int)) (n := 127) (by decide)
  unfold dF
  split <;> omega
theorem numsT_s (f : Nat → Int) : ∀ (m i : Nat) (R : List Int), numsT f i (m + 1) R = numsT f i m ([32] ++ (dg (f (i + m)) ++ R))
  | 0, i, R => rfl
  | m + 1, i, R => by
    show [32] ++ (dg (f i) ++ numsT f (i + 1) (m + 1) R) = [32] ++ (dg (f i) ++ numsT f (i + 1) m ([32] ++ (dg (f (i + (m + 1))) ++ R)))
    rw [numsT_s f m (i + 1) R, show i + 1 + m = i + (m + 1) by omega]
