/-! The log of the class: a ring of forty rows. -/
def lgI (z x : Int) (k : Nat) : Int := if k = 1 then z else x
theorem lgI_1 (z x : Int) : lgI z x 1 = z := rfl
theorem lgI_2 (z x : Int) : lgI z x 2 = x := rfl
def lgP (x k w : Int) : Int := (if x - 1 - k < 0 then x - 1 - k + 40 else x - 1 - k) * 5 + w
def lgU (f : Nat → Int) (x t s o v w : Int) : Nat → Int := up (up (up (up (up f (x * 5).toNat t) (x * 5 + 1).toNat s) (x * 5 + 2).toNat o) (x * 5 + 3).toNat v) (x * 5 + 4).toNat w
def LogR (f : Nat → Int) (x : Int) (n : Net) : Prop := ∀ k w, 0 ≤ k → k < n (-1) 7 → 0 ≤ w → w < 5 → f (lgP x k w).toNat = n (-2) (5 * k + w)
def lgN (x : Int) : Int := if x + 1 < 40 then x + 1 else 0
theorem LogR_add {f : Nat → Int} {x : Int} {n : Net} {l v wait : Int} (h : LogR f x n) (hx : 0 ≤ x ∧ x < 40) (h7 : 0 ≤ n (-1) 7 ∧ n (-1) 7 ≤ 40) : LogR (lgU f x (n (-1) 1) l (n (-1) 2) v wait) (lgN x) (nLog n l v wait) := by
  intro k w hk0 hk1 hw0 hw1
  have e7 : nLog n l v wait (-1) 7 = min 40 (n (-1) 7 + 1) := by unfold nLog; rw [un_s, ub_s]
  have e2 : nLog n l v wait (-2) = lLog n l v wait := by unfold nLog; rw [un_n (by decide), un_s]
  rw [e7] at hk1
  rw [e2]
  by_cases c : k = 0
  · subst c
    have ep : (lgP (lgN x) 0 w).toNat = (x * 5 + w).toNat := by
      unfold lgP lgN
      split <;> split <;> congr 1 <;> omega
    rw [ep]
    unfold lgU lLog up
    have hw : w = 0 ∨ w = 1 ∨ w = 2 ∨ w = 3 ∨ w = 4 := by omega
    rcases hw with rfl | rfl | rfl | rfl | rfl
    · rw [if_neg (by omega), if_neg (by omega), if_neg (by omega), if_neg (by omega), if_pos (by omega)]; rfl
    · rw [if_neg (by omega), if_neg (by omega), if_neg (by omega), if_pos (by omega)]; rfl
    · rw [if_neg (by omega), if_neg (by omega), if_pos (by omega)]; rfl
    · rw [if_neg (by omega), if_pos (by omega)]; rfl
    · rw [if_pos (by omega)]; rfl
  · have ep : lgP (lgN x) k w = lgP x (k - 1) w := by
      unfold lgP lgN
      split <;> split <;> split <;> omega
    have h1 := h (k - 1) w (by omega) (by omega) hw0 hw1
    have hne : lgP x (k - 1) w < x * 5 ∨ x * 5 + 5 ≤ lgP x (k - 1) w := by
      unfold lgP
      split <;> omega
    have h0 : 0 ≤ lgP x (k - 1) w := by
      unfold lgP
      split <;> omega
    rw [ep]
    unfold lgU lLog
    rw [up_n (by omega), up_n (by omega), up_n (by omega), up_n (by omega), up_n (by omega), h1]
    rw [if_neg (by omega), if_neg (by omega), if_neg (by omega), if_neg (by omega), if_neg (by omega)]
    congr 1
    omega
