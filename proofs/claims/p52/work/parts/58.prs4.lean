theorem goI_o {F I : Nat → Int} {i : Nat} (h : i ≠ 8 ∧ i ≠ 9 ∧ i ≠ 10 ∧ i ≠ 11) : goI F I i = I i := by
  unfold goI
  split
  · exact scanI_o h
  · rfl
theorem tyS_16 {F : Nat → Int} {l : Int} {s : tySt} (h : (tyS F l s).1 12 = 0) : (tyS F l s).1 16 = s.1 16 + 1 := by
  unfold tyS at h ⊢
  split
  · show goI F (up (tyJ s.1) 16 (s.1 16 + 1)) 16 = s.1 16 + 1
    rw [goI_o (i := 16) (by decide), up_s]
  · next c =>
    rw [if_neg c] at h
    exact absurd h c
