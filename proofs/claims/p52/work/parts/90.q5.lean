/-! More questions of what would be. -/
theorem bType_18 {B : Blk} {v time : Int} (h : (0 ≤ B 7 ∧ B 7 ≤ B 1 ∧ B 1 ≤ 60) ∧ (0 ≤ B 8 ∧ B 8 ≤ 60) ∧ 0 ≤ B 6) : bType B v time 18 = B 18 + (if 0 < B 9 ∨ B 6 = B 1 then 1 else 0) := by
  have e0 : bStop (bIn B v time) 18 = B 18 := by rw [bStop_n (by decide) (by decide), bIn_n h.2.2 (by omega)]
  have e7 : bStop (bIn B v time) 7 = B 7 := by rw [bStop_n (by decide) (by decide), bIn_n h.2.2 (by omega)]
  have e1 : bStop (bIn B v time) 1 = B 1 := by rw [bStop_n (by decide) (by decide), bIn_n h.2.2 (by omega)]
  have e8 : bStop (bIn B v time) 8 = B 8 := by rw [bStop_n (by decide) (by decide), bIn_n h.2.2 (by omega)]
  unfold bType
  by_cases c : 0 < B 9 ∨ B 6 = B 1
  · rw [if_pos c, if_pos c]
    unfold inc
    rw [ub_s, ub_n (by decide)]
  · rw [if_neg c, if_neg c]
    split
    · unfold bOffer inc
      split <;> simp (disch := omega) only [ub_n] <;> omega
    · split
      · have h8 : 0 ≤ bStop (bIn B v time) 8 ∧ bStop (bIn B v time) 8 ≤ 60 := by rw [e8]; exact h.2.1
        have w : ∀ k, k < 8 ∨ 8 < k ∧ k < 208 → bWhole1 (bStop (bIn B v time)) v k = bStop (bIn B v time) k := fun k hk => bWhole1_n h8 hk
        unfold bWhole
        split
        · rw [ub_n (by decide)]
          rw [(bOffers_inv (by rw [w 7 (by omega), w 1 (by omega), e7, e1]; exact h.1) _).2 18 (by unfold okW; decide), w 18 (by omega), e0]; omega
        · rw [w 18 (by omega), e0]; omega
      · omega

