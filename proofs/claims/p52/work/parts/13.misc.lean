theorem up_lit (f : Nat → Int) (k : Nat) (v : Int) (j : Nat) : up f k v j = if j = k then v else f j := rfl
theorem nz_bz (p : Prop) [Decidable p] : narrow .boolean (.int (zI (bz p))) = .int (zI (bz p)) := by
  unfold bz; split <;> decide +kernel
theorem lx_drop (lv : List (Option Value)) (is : List Nat) {lv' : List (Option Value)} (h : (List.range lv.length).map (fun i => if i ∈ is then none else lv.getD i none) = lv') : ∀ (i : Nat) (v : Value), lv'[i]? = some (some v) → lv[i]? = some (some v) := by
  intro i v hi
  rw [← h, List.getElem?_map] at hi
  cases hr : (List.range lv.length)[i]? with
  | none => rw [hr] at hi; cases hi
  | some j =>
    have hl : i < lv.length := by have := (List.getElem?_eq_some_iff.mp hr).1; simpa using this
    have hj : j = i := by
      rw [List.getElem?_range hl] at hr
      exact (Option.some.inj hr).symm
    subst hj
    rw [hr] at hi
    simp only [Option.map_some, Option.some.injEq] at hi
    by_cases hm : j ∈ is
    · rw [if_pos hm] at hi; cases hi
    · rw [if_neg hm, List.getD_eq_getElem?_getD] at hi
      cases hg : lv[j]? with
      | none => rw [hg] at hi; cases hi
      | some o => rw [hg] at hi; exact congrArg some hi
theorem nle {a b : Nat} (h : Nat.ble a b = true) : a ≤ b := Nat.le_of_ble_eq_true h
theorem nlt {a b : Nat} (h : Nat.ble (a + 1) b = true) : a < b := Nat.le_of_ble_eq_true h
