/-! What stands of a line between two acts, and of all lines; every act keeps it. -/
def mkS (B : Blk) : Prop := (B 3 ≤ B 6 → B 10 = 1) ∧ (B 6 ≤ B 2 → B 10 = 0)
def LS0 (B : Blk) : Prop := (0 < B 8 → B 5 = 2) ∧ B 16 = B 17 + B 18 + B 19 + B 6 ∧ B 20 = B 21 + B 22 + B 23 + B 7 ∧ B 26 ≤ B 17 ∧ (0 < B 9 → B 6 = 0 ∧ B 7 = 0) ∧ (0 ≤ B 14 ↔ 0 < B 21)
def LSt (B : Blk) : Prop := LS0 B ∧ mkS B
def wS (w : Int) : Prop := w = 2 ∨ w = 3 ∨ (5 ≤ w ∧ w ≤ 10) ∨ w = 14 ∨ (16 ≤ w ∧ w ≤ 23) ∨ w = 26
theorem LS0_eq {B C : Blk} (h : LS0 B) (e : ∀ w, wS w → ¬ w = 10 → C w = B w) : LS0 C := by
  have g : ∀ w, wS w → ¬ w = 10 → C w = B w := e
  unfold wS at g
  unfold LS0 at h ⊢
  rw [g 5 (by decide) (by decide), g 6 (by decide) (by decide), g 7 (by decide) (by decide), g 8 (by decide) (by decide), g 9 (by decide) (by decide), g 14 (by decide) (by decide), g 16 (by decide) (by decide), g 17 (by decide) (by decide), g 18 (by decide) (by decide), g 19 (by decide) (by decide), g 20 (by decide) (by decide), g 21 (by decide) (by decide), g 22 (by decide) (by decide), g 23 (by decide) (by decide), g 26 (by decide) (by decide)]
  exact h
theorem LSt_eq {B C : Blk} (h : LSt B) (e : ∀ w, wS w → C w = B w) : LSt C := by
  refine ⟨LS0_eq h.1 (fun w a _ => e w a), ?_⟩
  have g : ∀ w, wS w → C w = B w := e
  unfold wS at g
  have h2 := h.2
  unfold mkS at h2 ⊢
  rw [g 2 (by decide), g 3 (by decide), g 6 (by decide), g 10 (by decide)]
  exact h2
theorem mkS_stop {B : Blk} (h : B 2 < B 3) (h10 : B 10 = 0 ∨ B 10 = 1) : mkS (bStop B) := by
  unfold mkS
  rw [bStop_n (w := 3) (by decide) (by decide), bStop_n (w := 6) (by decide) (by decide), bStop_n (w := 2) (by decide) (by decide)]
  have e : bStop B 10 = if B 3 ≤ B 6 ∧ B 10 = 0 then 1 else if B 6 ≤ B 2 then 0 else B 10 := by
    unfold bStop
    split
    · unfold inc; rw [ub_n (by decide), ub_s]
    · split
      · rw [ub_s]
      · rfl
  rw [e]
  split
  · omega
  · split <;> omega
theorem LSt_stop {B : Blk} (h0 : LS0 B) (h : B 2 < B 3) (h10 : B 10 = 0 ∨ B 10 = 1) : LSt (bStop B) := by
  refine ⟨LS0_eq h0 (fun w a c => bStop_n c ?_), mkS_stop h h10⟩
  unfold wS at a
  omega

theorem LS0_in {B : Blk} {v t : Int} (h : LSt B) (h9 : ¬ 0 < B 9) (h6 : 0 ≤ B 6) : LS0 (bIn B v t) := by
  have c2 : (bIn B v t) 2 = B 2 := bIn_n h6 (by decide)
  have c3 : (bIn B v t) 3 = B 3 := bIn_n h6 (by decide)
  have c5 : (bIn B v t) 5 = B 5 := bIn_n h6 (by decide)
  have c6 : (bIn B v t) 6 = B 6 + 1 := by unfold bIn; rw [ub_s]
  have c7 : (bIn B v t) 7 = B 7 := bIn_n h6 (by decide)
  have c8 : (bIn B v t) 8 = B 8 := bIn_n h6 (by decide)
  have c9 : (bIn B v t) 9 = B 9 := bIn_n h6 (by decide)
  have c10 : (bIn B v t) 10 = B 10 := bIn_n h6 (by decide)
  have c14 : (bIn B v t) 14 = B 14 := bIn_n h6 (by decide)
  have c16 : (bIn B v t) 16 = B 16 + 1 := by unfold bIn inc; rw [ub_n (by decide), ub_n (by omega), ub_n (by omega), ub_s]
  have c17 : (bIn B v t) 17 = B 17 := bIn_n h6 (by decide)
  have c18 : (bIn B v t) 18 = B 18 := bIn_n h6 (by decide)
  have c19 : (bIn B v t) 19 = B 19 := bIn_n h6 (by decide)
  have c20 : (bIn B v t) 20 = B 20 := bIn_n h6 (by decide)
  have c21 : (bIn B v t) 21 = B 21 := bIn_n h6 (by decide)
  have c22 : (bIn B v t) 22 = B 22 := bIn_n h6 (by decide)
  have c23 : (bIn B v t) 23 = B 23 := bIn_n h6 (by decide)
  have c26 : (bIn B v t) 26 = B 26 := bIn_n h6 (by decide)
  generalize (bIn B v t) = D at *
  unfold LSt LS0 mkS at h
  unfold LS0
  omega

theorem LSt_in {B : Blk} {v t : Int} (h : LSt B) (h9 : ¬ 0 < B 9) (h6 : 0 ≤ B 6) (h23 : B 2 < B 3) (h10 : B 10 = 0 ∨ B 10 = 1) : LSt (bStop (bIn B v t)) :=
  LSt_stop (LS0_in h h9 h6) (by rw [bIn_n h6 (by decide), bIn_n h6 (by decide)]; exact h23) (by rw [bIn_n h6 (by decide)]; exact h10)

theorem LSt_offD {B : Blk} (h : LSt B) : LSt (inc (inc B 20) 22) := by
  have c2 : (inc (inc B 20) 22) 2 = B 2 := by unfold inc; rw [ub_n (by decide), ub_n (by decide)]
  have c3 : (inc (inc B 20) 22) 3 = B 3 := by unfold inc; rw [ub_n (by decide), ub_n (by decide)]
  have c5 : (inc (inc B 20) 22) 5 = B 5 := by unfold inc; rw [ub_n (by decide), ub_n (by decide)]
  have c6 : (inc (inc B 20) 22) 6 = B 6 := by unfold inc; rw [ub_n (by decide), ub_n (by decide)]
  have c7 : (inc (inc B 20) 22) 7 = B 7 := by unfold inc; rw [ub_n (by decide), ub_n (by decide)]
  have c8 : (inc (inc B 20) 22) 8 = B 8 := by unfold inc; rw [ub_n (by decide), ub_n (by decide)]
  have c9 : (inc (inc B 20) 22) 9 = B 9 := by unfold inc; rw [ub_n (by decide), ub_n (by decide)]
  have c10 : (inc (inc B 20) 22) 10 = B 10 := by unfold inc; rw [ub_n (by decide), ub_n (by decide)]
  have c14 : (inc (inc B 20) 22) 14 = B 14 := by unfold inc; rw [ub_n (by decide), ub_n (by decide)]
  have c16 : (inc (inc B 20) 22) 16 = B 16 := by unfold inc; rw [ub_n (by decide), ub_n (by decide)]
  have c17 : (inc (inc B 20) 22) 17 = B 17 := by unfold inc; rw [ub_n (by decide), ub_n (by decide)]
  have c18 : (inc (inc B 20) 22) 18 = B 18 := by unfold inc; rw [ub_n (by decide), ub_n (by decide)]
  have c19 : (inc (inc B 20) 22) 19 = B 19 := by unfold inc; rw [ub_n (by decide), ub_n (by decide)]
  have c20 : (inc (inc B 20) 22) 20 = B 20 + 1 := by unfold inc; rw [ub_n (by decide), ub_s]
  have c21 : (inc (inc B 20) 22) 21 = B 21 := by unfold inc; rw [ub_n (by decide), ub_n (by decide)]
  have c22 : (inc (inc B 20) 22) 22 = B 22 + 1 := by unfold inc; rw [ub_s, ub_n (by decide)]
  have c23 : (inc (inc B 20) 22) 23 = B 23 := by unfold inc; rw [ub_n (by decide), ub_n (by decide)]
  have c26 : (inc (inc B 20) 22) 26 = B 26 := by unfold inc; rw [ub_n (by decide), ub_n (by decide)]
  generalize (inc (inc B 20) 22) = D at *
  unfold LSt LS0 mkS at h
  unfold LSt LS0 mkS
  omega

theorem LSt_offA {B : Blk} {v : Int} (h : LSt B) (h9 : ¬ 0 < B 9) (h7 : 0 ≤ B 7) : LSt (ub (ub (inc B 20) (148 + B 7) v) 7 (B 7 + 1)) := by
  have c2 : (ub (ub (inc B 20) (148 + B 7) v) 7 (B 7 + 1)) 2 = B 2 := by unfold inc; rw [ub_n (by decide), ub_n (by omega), ub_n (by decide)]
  have c3 : (ub (ub (inc B 20) (148 + B 7) v) 7 (B 7 + 1)) 3 = B 3 := by unfold inc; rw [ub_n (by decide), ub_n (by omega), ub_n (by decide)]
  have c5 : (ub (ub (inc B 20) (148 + B 7) v) 7 (B 7 + 1)) 5 = B 5 := by unfold inc; rw [ub_n (by decide), ub_n (by omega), ub_n (by decide)]
  have c6 : (ub (ub (inc B 20) (148 + B 7) v) 7 (B 7 + 1)) 6 = B 6 := by unfold inc; rw [ub_n (by decide), ub_n (by omega), ub_n (by decide)]
  have c7 : (ub (ub (inc B 20) (148 + B 7) v) 7 (B 7 + 1)) 7 = B 7 + 1 := ub_s _ _ _
  have c8 : (ub (ub (inc B 20) (148 + B 7) v) 7 (B 7 + 1)) 8 = B 8 := by unfold inc; rw [ub_n (by decide), ub_n (by omega), ub_n (by decide)]
  have c9 : (ub (ub (inc B 20) (148 + B 7) v) 7 (B 7 + 1)) 9 = B 9 := by unfold inc; rw [ub_n (by decide), ub_n (by omega), ub_n (by decide)]
  have c10 : (ub (ub (inc B 20) (148 + B 7) v) 7 (B 7 + 1)) 10 = B 10 := by unfold inc; rw [ub_n (by decide), ub_n (by omega), ub_n (by decide)]
  have c14 : (ub (ub (inc B 20) (148 + B 7) v) 7 (B 7 + 1)) 14 = B 14 := by unfold inc; rw [ub_n (by decide), ub_n (by omega), ub_n (by decide)]
  have c16 : (ub (ub (inc B 20) (148 + B 7) v) 7 (B 7 + 1)) 16 = B 16 := by unfold inc; rw [ub_n (by decide), ub_n (by omega), ub_n (by decide)]
  have c17 : (ub (ub (inc B 20) (148 + B 7) v) 7 (B 7 + 1)) 17 = B 17 := by unfold inc; rw [ub_n (by decide), ub_n (by omega), ub_n (by decide)]
  have c18 : (ub (ub (inc B 20) (148 + B 7) v) 7 (B 7 + 1)) 18 = B 18 := by unfold inc; rw [ub_n (by decide), ub_n (by omega), ub_n (by decide)]
  have c19 : (ub (ub (inc B 20) (148 + B 7) v) 7 (B 7 + 1)) 19 = B 19 := by unfold inc; rw [ub_n (by decide), ub_n (by omega), ub_n (by decide)]
  have c20 : (ub (ub (inc B 20) (148 + B 7) v) 7 (B 7 + 1)) 20 = B 20 + 1 := by unfold inc; rw [ub_n (by decide), ub_n (by omega), ub_s]
  have c21 : (ub (ub (inc B 20) (148 + B 7) v) 7 (B 7 + 1)) 21 = B 21 := by unfold inc; rw [ub_n (by decide), ub_n (by omega), ub_n (by decide)]
  have c22 : (ub (ub (inc B 20) (148 + B 7) v) 7 (B 7 + 1)) 22 = B 22 := by unfold inc; rw [ub_n (by decide), ub_n (by omega), ub_n (by decide)]
  have c23 : (ub (ub (inc B 20) (148 + B 7) v) 7 (B 7 + 1)) 23 = B 23 := by unfold inc; rw [ub_n (by decide), ub_n (by omega), ub_n (by decide)]
  have c26 : (ub (ub (inc B 20) (148 + B 7) v) 7 (B 7 + 1)) 26 = B 26 := by unfold inc; rw [ub_n (by decide), ub_n (by omega), ub_n (by decide)]
  generalize (ub (ub (inc B 20) (148 + B 7) v) 7 (B 7 + 1)) = D at *
  unfold LSt LS0 mkS at h
  unfold LSt LS0 mkS
  omega

theorem LSt_offer {B : Blk} {v : Int} (h : LSt B) (h7 : 0 ≤ B 7) : LSt (bOffer B v) := by
  unfold bOffer
  split
  · exact LSt_offD h
  · next c => exact LSt_offA h (by omega) h7
theorem LSt_offers {f : Int → Int} {B : Blk} (h : LSt B) (h7 : 0 ≤ B 7 ∧ B 7 ≤ B 1 ∧ B 1 ≤ 60) : ∀ k, LSt (bOffers f k B)
  | 0 => h
  | k + 1 => LSt_offer (LSt_offers h h7 k) (bOffers_inv (f := f) h7 k).1.1

theorem LSt_w1 {B : Blk} {v : Int} (h : LSt B) (h5 : B 5 = 2) (h8 : 0 ≤ B 8) : LSt (ub (ub B (208 + B 8) v) 8 (B 8 + 1)) := by
  have c2 : (ub (ub B (208 + B 8) v) 8 (B 8 + 1)) 2 = B 2 := by rw [ub_n (by decide), ub_n (by omega)]
  have c3 : (ub (ub B (208 + B 8) v) 8 (B 8 + 1)) 3 = B 3 := by rw [ub_n (by decide), ub_n (by omega)]
  have c5 : (ub (ub B (208 + B 8) v) 8 (B 8 + 1)) 5 = B 5 := by rw [ub_n (by decide), ub_n (by omega)]
  have c6 : (ub (ub B (208 + B 8) v) 8 (B 8 + 1)) 6 = B 6 := by rw [ub_n (by decide), ub_n (by omega)]
  have c7 : (ub (ub B (208 + B 8) v) 8 (B 8 + 1)) 7 = B 7 := by rw [ub_n (by decide), ub_n (by omega)]
  have c8 : (ub (ub B (208 + B 8) v) 8 (B 8 + 1)) 8 = B 8 + 1 := ub_s _ _ _
  have c9 : (ub (ub B (208 + B 8) v) 8 (B 8 + 1)) 9 = B 9 := by rw [ub_n (by decide), ub_n (by omega)]
  have c10 : (ub (ub B (208 + B 8) v) 8 (B 8 + 1)) 10 = B 10 := by rw [ub_n (by decide), ub_n (by omega)]
  have c14 : (ub (ub B (208 + B 8) v) 8 (B 8 + 1)) 14 = B 14 := by rw [ub_n (by decide), ub_n (by omega)]
  have c16 : (ub (ub B (208 + B 8) v) 8 (B 8 + 1)) 16 = B 16 := by rw [ub_n (by decide), ub_n (by omega)]
  have c17 : (ub (ub B (208 + B 8) v) 8 (B 8 + 1)) 17 = B 17 := by rw [ub_n (by decide), ub_n (by omega)]
  have c18 : (ub (ub B (208 + B 8) v) 8 (B 8 + 1)) 18 = B 18 := by rw [ub_n (by decide), ub_n (by omega)]
  have c19 : (ub (ub B (208 + B 8) v) 8 (B 8 + 1)) 19 = B 19 := by rw [ub_n (by decide), ub_n (by omega)]
  have c20 : (ub (ub B (208 + B 8) v) 8 (B 8 + 1)) 20 = B 20 := by rw [ub_n (by decide), ub_n (by omega)]
  have c21 : (ub (ub B (208 + B 8) v) 8 (B 8 + 1)) 21 = B 21 := by rw [ub_n (by decide), ub_n (by omega)]
  have c22 : (ub (ub B (208 + B 8) v) 8 (B 8 + 1)) 22 = B 22 := by rw [ub_n (by decide), ub_n (by omega)]
  have c23 : (ub (ub B (208 + B 8) v) 8 (B 8 + 1)) 23 = B 23 := by rw [ub_n (by decide), ub_n (by omega)]
  have c26 : (ub (ub B (208 + B 8) v) 8 (B 8 + 1)) 26 = B 26 := by rw [ub_n (by decide), ub_n (by omega)]
  generalize (ub (ub B (208 + B 8) v) 8 (B 8 + 1)) = D at *
  unfold LSt LS0 mkS at h
  unfold LSt LS0 mkS
  omega

theorem LSt_w0 {B : Blk} (h : LSt B) : LSt (ub B 8 0) := by
  have c2 : (ub B 8 0) 2 = B 2 := ub_n (by decide)
  have c3 : (ub B 8 0) 3 = B 3 := ub_n (by decide)
  have c5 : (ub B 8 0) 5 = B 5 := ub_n (by decide)
  have c6 : (ub B 8 0) 6 = B 6 := ub_n (by decide)
  have c7 : (ub B 8 0) 7 = B 7 := ub_n (by decide)
  have c8 : (ub B 8 0) 8 = 0 := ub_s _ _ _
  have c9 : (ub B 8 0) 9 = B 9 := ub_n (by decide)
  have c10 : (ub B 8 0) 10 = B 10 := ub_n (by decide)
  have c14 : (ub B 8 0) 14 = B 14 := ub_n (by decide)
  have c16 : (ub B 8 0) 16 = B 16 := ub_n (by decide)
  have c17 : (ub B 8 0) 17 = B 17 := ub_n (by decide)
  have c18 : (ub B 8 0) 18 = B 18 := ub_n (by decide)
  have c19 : (ub B 8 0) 19 = B 19 := ub_n (by decide)
  have c20 : (ub B 8 0) 20 = B 20 := ub_n (by decide)
  have c21 : (ub B 8 0) 21 = B 21 := ub_n (by decide)
  have c22 : (ub B 8 0) 22 = B 22 := ub_n (by decide)
  have c23 : (ub B 8 0) 23 = B 23 := ub_n (by decide)
  have c26 : (ub B 8 0) 26 = B 26 := ub_n (by decide)
  generalize (ub B 8 0) = D at *
  unfold LSt LS0 mkS at h
  unfold LSt LS0 mkS
  omega

theorem LSt_whole {B : Blk} {v : Int} (h : LSt B) (h5 : B 5 = 2) (h8 : 0 ≤ B 8 ∧ B 8 ≤ 60) (h7 : 0 ≤ B 7 ∧ B 7 ≤ B 1 ∧ B 1 ≤ 60) : LSt (bWhole B v) := by
  have h1 : LSt (bWhole1 B v) := by
    unfold bWhole1
    split
    · exact LSt_w1 h h5 h8.1
    · exact h
  unfold bWhole
  split
  · refine LSt_w0 (LSt_offers h1 ?_ _)
    rw [bWhole1_n h8 (by decide), bWhole1_n h8 (by decide)]
    exact h7
  · exact h1

theorem LSt_tyD {B : Blk} (h : LSt B) : LSt (inc (inc B 16) 18) := by
  have c2 : (inc (inc B 16) 18) 2 = B 2 := by unfold inc; rw [ub_n (by decide), ub_n (by decide)]
  have c3 : (inc (inc B 16) 18) 3 = B 3 := by unfold inc; rw [ub_n (by decide), ub_n (by decide)]
  have c5 : (inc (inc B 16) 18) 5 = B 5 := by unfold inc; rw [ub_n (by decide), ub_n (by decide)]
  have c6 : (inc (inc B 16) 18) 6 = B 6 := by unfold inc; rw [ub_n (by decide), ub_n (by decide)]
  have c7 : (inc (inc B 16) 18) 7 = B 7 := by unfold inc; rw [ub_n (by decide), ub_n (by decide)]
  have c8 : (inc (inc B 16) 18) 8 = B 8 := by unfold inc; rw [ub_n (by decide), ub_n (by decide)]
  have c9 : (inc (inc B 16) 18) 9 = B 9 := by unfold inc; rw [ub_n (by decide), ub_n (by decide)]
  have c10 : (inc (inc B 16) 18) 10 = B 10 := by unfold inc; rw [ub_n (by decide), ub_n (by decide)]
  have c14 : (inc (inc B 16) 18) 14 = B 14 := by unfold inc; rw [ub_n (by decide), ub_n (by decide)]
  have c16 : (inc (inc B 16) 18) 16 = B 16 + 1 := by unfold inc; rw [ub_n (by decide), ub_s]
  have c17 : (inc (inc B 16) 18) 17 = B 17 := by unfold inc; rw [ub_n (by decide), ub_n (by decide)]
  have c18 : (inc (inc B 16) 18) 18 = B 18 + 1 := by unfold inc; rw [ub_s, ub_n (by decide)]
  have c19 : (inc (inc B 16) 18) 19 = B 19 := by unfold inc; rw [ub_n (by decide), ub_n (by decide)]
  have c20 : (inc (inc B 16) 18) 20 = B 20 := by unfold inc; rw [ub_n (by decide), ub_n (by decide)]
  have c21 : (inc (inc B 16) 18) 21 = B 21 := by unfold inc; rw [ub_n (by decide), ub_n (by decide)]
  have c22 : (inc (inc B 16) 18) 22 = B 22 := by unfold inc; rw [ub_n (by decide), ub_n (by decide)]
  have c23 : (inc (inc B 16) 18) 23 = B 23 := by unfold inc; rw [ub_n (by decide), ub_n (by decide)]
  have c26 : (inc (inc B 16) 18) 26 = B 26 := by unfold inc; rw [ub_n (by decide), ub_n (by decide)]
  generalize (inc (inc B 16) 18) = D at *
  unfold LSt LS0 mkS at h
  unfold LSt LS0 mkS
  omega

theorem LSt_type {b lines time l v t : Int} {B : Blk} (hL : LineOk b lines time l B) (h : LSt B) : LSt (bType B v t) := by
  unfold LineOk at hL
  unfold bType
  split
  · exact LSt_tyD h
  · next c =>
    have h1 : LSt (bStop (bIn B v t)) := LSt_in h (by omega) (by omega) (by omega) (by omega)
    have e : ∀ w, (w < 6 ∨ 6 < w ∧ w < 16) → ¬ w = 10 → bStop (bIn B v t) w = B w := fun w a c => (bStop_n c (by omega)).trans (bIn_n (by omega) (by omega))
    have e1 := e 1 (by decide) (by decide)
    have e5 := e 5 (by decide) (by decide)
    have e7 := e 7 (by decide) (by decide)
    have e8 := e 8 (by decide) (by decide)
    split
    · exact LSt_offer h1 (by omega)
    · split
      · exact LSt_whole h1 (by omega) (by omega) (by omega)
      · exact h1

theorem LSt_del {B : Blk} (h : LSt B) (h21 : 0 ≤ B 21) (h7 : 0 < B 7 ∧ B 7 ≤ 60) (hv : 1 ≤ B 148) : LSt (inc (bDrop (ub B 14 (B 148)) 148 7) 21) := by
  have c2 : (inc (bDrop (ub B 14 (B 148)) 148 7) 21) 2 = B 2 := by unfold inc; rw [ub_n (by decide), bDrop_n (by decide) (by omega), ub_n (by decide)]
  have c3 : (inc (bDrop (ub B 14 (B 148)) 148 7) 21) 3 = B 3 := by unfold inc; rw [ub_n (by decide), bDrop_n (by decide) (by omega), ub_n (by decide)]
  have c5 : (inc (bDrop (ub B 14 (B 148)) 148 7) 21) 5 = B 5 := by unfold inc; rw [ub_n (by decide), bDrop_n (by decide) (by omega), ub_n (by decide)]
  have c6 : (inc (bDrop (ub B 14 (B 148)) 148 7) 21) 6 = B 6 := by unfold inc; rw [ub_n (by decide), bDrop_n (by decide) (by omega), ub_n (by decide)]
  have c7 : (inc (bDrop (ub B 14 (B 148)) 148 7) 21) 7 = B 7 - 1 := by unfold inc; rw [ub_n (by decide), bDrop_s, ub_n (by decide)]
  have c8 : (inc (bDrop (ub B 14 (B 148)) 148 7) 21) 8 = B 8 := by unfold inc; rw [ub_n (by decide), bDrop_n (by decide) (by omega), ub_n (by decide)]
  have c9 : (inc (bDrop (ub B 14 (B 148)) 148 7) 21) 9 = B 9 := by unfold inc; rw [ub_n (by decide), bDrop_n (by decide) (by omega), ub_n (by decide)]
  have c10 : (inc (bDrop (ub B 14 (B 148)) 148 7) 21) 10 = B 10 := by unfold inc; rw [ub_n (by decide), bDrop_n (by decide) (by omega), ub_n (by decide)]
  have c14 : (inc (bDrop (ub B 14 (B 148)) 148 7) 21) 14 = B 148 := by unfold inc; rw [ub_n (by decide), bDrop_n (by decide) (by omega), ub_s]
  have c16 : (inc (bDrop (ub B 14 (B 148)) 148 7) 21) 16 = B 16 := by unfold inc; rw [ub_n (by decide), bDrop_n (by decide) (by omega), ub_n (by decide)]
  have c17 : (inc (bDrop (ub B 14 (B 148)) 148 7) 21) 17 = B 17 := by unfold inc; rw [ub_n (by decide), bDrop_n (by decide) (by omega), ub_n (by decide)]
  have c18 : (inc (bDrop (ub B 14 (B 148)) 148 7) 21) 18 = B 18 := by unfold inc; rw [ub_n (by decide), bDrop_n (by decide) (by omega), ub_n (by decide)]
  have c19 : (inc (bDrop (ub B 14 (B 148)) 148 7) 21) 19 = B 19 := by unfold inc; rw [ub_n (by decide), bDrop_n (by decide) (by omega), ub_n (by decide)]
  have c20 : (inc (bDrop (ub B 14 (B 148)) 148 7) 21) 20 = B 20 := by unfold inc; rw [ub_n (by decide), bDrop_n (by decide) (by omega), ub_n (by decide)]
  have c21 : (inc (bDrop (ub B 14 (B 148)) 148 7) 21) 21 = B 21 + 1 := by unfold inc; rw [ub_s, bDrop_n (by decide) (by omega), ub_n (by decide)]
  have c22 : (inc (bDrop (ub B 14 (B 148)) 148 7) 21) 22 = B 22 := by unfold inc; rw [ub_n (by decide), bDrop_n (by decide) (by omega), ub_n (by decide)]
  have c23 : (inc (bDrop (ub B 14 (B 148)) 148 7) 21) 23 = B 23 := by unfold inc; rw [ub_n (by decide), bDrop_n (by decide) (by omega), ub_n (by decide)]
  have c26 : (inc (bDrop (ub B 14 (B 148)) 148 7) 21) 26 = B 26 := by unfold inc; rw [ub_n (by decide), bDrop_n (by decide) (by omega), ub_n (by decide)]
  generalize (inc (bDrop (ub B 14 (B 148)) 148 7) 21) = D at *
  unfold LSt LS0 mkS at h
  unfold LSt LS0 mkS
  omega

theorem LSt_deliver {b lines time l : Int} {B : Blk} (hL : LineOk b lines time l B) (h : LSt B) : LSt (bDeliver B) := by
  have h21 := LineOk_c hL (k := 21) (by decide) (by decide)
  have hv := LineOk_o hL (j := 0)
  rw [show (148 : Int) + 0 = 148 from rfl] at hv
  unfold LineOk at hL
  unfold bDeliver
  split
  · exact h
  · next c => exact LSt_del h h21.1 (by omega) (hv (by decide) (by omega)).1

theorem bSend_w (B : Blk) (e w : Int) {k : Int} (h : ¬ k = 15 ∧ ¬ k = 27 ∧ ¬ k = 26 ∧ ¬ k = 17) : bSend B e w k = bStop (bSend0 B) k := by
  unfold bSend inc
  rw [ub_n h.1, ub_n h.2.1, ub_n h.2.2.1, ub_n h.2.2.2]
theorem LSt_send {B : Blk} {e w : Int} (h : LSt B) (h6 : 0 < B 6 ∧ B 6 ≤ 60) (h9 : ¬ 0 < B 9) (he : e = 0 ∨ e = 1) (h23 : B 2 < B 3) (h10 : B 10 = 0 ∨ B 10 = 1) : LSt (bSend B e w) := by
  have s : ∀ k, ¬ k = 6 → ¬ (28 ≤ k ∧ k < 148) → bSend0 B k = B k := fun k a c => bSend0_n (by omega) a c
  have s6 := bSend0_6 B
  have m : mkS (bStop (bSend0 B)) := mkS_stop (by rw [s 2 (by decide) (by decide), s 3 (by decide) (by decide)]; exact h23) (by rw [s 10 (by decide) (by decide)]; exact h10)
  have c17 : bSend B e w 17 = B 17 + 1 := bSend_17 B e w (by omega)
  have c26 : bSend B e w 26 = B 26 + e := by
    unfold bSend inc
    rw [ub_n (by decide), ub_n (by decide), ub_s, ub_n (by decide), bStop_n (by decide) (by decide), s 26 (by decide) (by decide)]
  have c6 : bSend B e w 6 = B 6 - 1 := by rw [bSend_w B e w (by decide), bStop_n (by decide) (by decide), s6]
  have t : ∀ k, ¬ k = 15 ∧ ¬ k = 27 ∧ ¬ k = 26 ∧ ¬ k = 17 → ¬ k = 10 → ¬ k = 24 → ¬ k = 6 → ¬ (28 ≤ k ∧ k < 148) → bSend B e w k = B k := fun k a c d f g => by rw [bSend_w B e w a, bStop_n c d, s k f g]
  have c5 := t 5 (by decide) (by decide) (by decide) (by decide) (by decide)
  have c7 := t 7 (by decide) (by decide) (by decide) (by decide) (by decide)
  have c8 := t 8 (by decide) (by decide) (by decide) (by decide) (by decide)
  have c9 := t 9 (by decide) (by decide) (by decide) (by decide) (by decide)
  have c14 := t 14 (by decide) (by decide) (by decide) (by decide) (by decide)
  have c16 := t 16 (by decide) (by decide) (by decide) (by decide) (by decide)
  have c18 := t 18 (by decide) (by decide) (by decide) (by decide) (by decide)
  have c19 := t 19 (by decide) (by decide) (by decide) (by decide) (by decide)
  have c20 := t 20 (by decide) (by decide) (by decide) (by decide) (by decide)
  have c21 := t 21 (by decide) (by decide) (by decide) (by decide) (by decide)
  have c22 := t 22 (by decide) (by decide) (by decide) (by decide) (by decide)
  have c23 := t 23 (by decide) (by decide) (by decide) (by decide) (by decide)
  refine ⟨?_, ?_⟩
  · generalize bSend B e w = D at *
    unfold LSt LS0 mkS at h
    unfold LS0
    omega
  · unfold mkS at m ⊢
    rw [bSend_w B e w (k := 3) (by decide), bSend_w B e w (k := 6) (by decide), bSend_w B e w (k := 10) (by decide), bSend_w B e w (k := 2) (by decide)]
    exact m

theorem LSt_held {B : Blk} (h : LSt B) : LSt (ub B 9 (max 0 (B 9 - 1))) := by
  have c2 : (ub B 9 (max 0 (B 9 - 1))) 2 = B 2 := ub_n (by decide)
  have c3 : (ub B 9 (max 0 (B 9 - 1))) 3 = B 3 := ub_n (by decide)
  have c5 : (ub B 9 (max 0 (B 9 - 1))) 5 = B 5 := ub_n (by decide)
  have c6 : (ub B 9 (max 0 (B 9 - 1))) 6 = B 6 := ub_n (by decide)
  have c7 : (ub B 9 (max 0 (B 9 - 1))) 7 = B 7 := ub_n (by decide)
  have c8 : (ub B 9 (max 0 (B 9 - 1))) 8 = B 8 := ub_n (by decide)
  have c9 : (ub B 9 (max 0 (B 9 - 1))) 9 = max 0 (B 9 - 1) := ub_s _ _ _
  have c10 : (ub B 9 (max 0 (B 9 - 1))) 10 = B 10 := ub_n (by decide)
  have c14 : (ub B 9 (max 0 (B 9 - 1))) 14 = B 14 := ub_n (by decide)
  have c16 : (ub B 9 (max 0 (B 9 - 1))) 16 = B 16 := ub_n (by decide)
  have c17 : (ub B 9 (max 0 (B 9 - 1))) 17 = B 17 := ub_n (by decide)
  have c18 : (ub B 9 (max 0 (B 9 - 1))) 18 = B 18 := ub_n (by decide)
  have c19 : (ub B 9 (max 0 (B 9 - 1))) 19 = B 19 := ub_n (by decide)
  have c20 : (ub B 9 (max 0 (B 9 - 1))) 20 = B 20 := ub_n (by decide)
  have c21 : (ub B 9 (max 0 (B 9 - 1))) 21 = B 21 := ub_n (by decide)
  have c22 : (ub B 9 (max 0 (B 9 - 1))) 22 = B 22 := ub_n (by decide)
  have c23 : (ub B 9 (max 0 (B 9 - 1))) 23 = B 23 := ub_n (by decide)
  have c26 : (ub B 9 (max 0 (B 9 - 1))) 26 = B 26 := ub_n (by decide)
  generalize (ub B 9 (max 0 (B 9 - 1))) = D at *
  unfold LSt LS0 mkS at h
  unfold LSt LS0 mkS
  omega

theorem LS0_break0 {B : Blk} {t : Int} (h : LSt B) : LS0 (bBreak0 B t) := by
  have c2 : (bBreak0 B t) 2 = B 2 := by unfold bBreak0 inc; rw [ub_n (by decide), ub_n (by decide), ub_n (by decide), ub_n (by decide), ub_n (by decide), ub_n (by decide), ub_n (by decide)]
  have c3 : (bBreak0 B t) 3 = B 3 := by unfold bBreak0 inc; rw [ub_n (by decide), ub_n (by decide), ub_n (by decide), ub_n (by decide), ub_n (by decide), ub_n (by decide), ub_n (by decide)]
  have c5 : (bBreak0 B t) 5 = B 5 := by unfold bBreak0 inc; rw [ub_n (by decide), ub_n (by decide), ub_n (by decide), ub_n (by decide), ub_n (by decide), ub_n (by decide), ub_n (by decide)]
  have c6 : (bBreak0 B t) 6 = 0 := by unfold bBreak0; rw [ub_n (by decide), ub_n (by decide), ub_n (by decide), ub_s]
  have c7 : (bBreak0 B t) 7 = 0 := by unfold bBreak0; rw [ub_n (by decide), ub_n (by decide), ub_s]
  have c8 : (bBreak0 B t) 8 = 0 := by unfold bBreak0; rw [ub_n (by decide), ub_s]
  have c9 : (bBreak0 B t) 9 = t := by unfold bBreak0; rw [ub_s]
  have c10 : (bBreak0 B t) 10 = B 10 := by unfold bBreak0 inc; rw [ub_n (by decide), ub_n (by decide), ub_n (by decide), ub_n (by decide), ub_n (by decide), ub_n (by decide), ub_n (by decide)]
  have c14 : (bBreak0 B t) 14 = B 14 := by unfold bBreak0 inc; rw [ub_n (by decide), ub_n (by decide), ub_n (by decide), ub_n (by decide), ub_n (by decide), ub_n (by decide), ub_n (by decide)]
  have c16 : (bBreak0 B t) 16 = B 16 := by unfold bBreak0 inc; rw [ub_n (by decide), ub_n (by decide), ub_n (by decide), ub_n (by decide), ub_n (by decide), ub_n (by decide), ub_n (by decide)]
  have c17 : (bBreak0 B t) 17 = B 17 := by unfold bBreak0 inc; rw [ub_n (by decide), ub_n (by decide), ub_n (by decide), ub_n (by decide), ub_n (by decide), ub_n (by decide), ub_n (by decide)]
  have c18 : (bBreak0 B t) 18 = B 18 := by unfold bBreak0 inc; rw [ub_n (by decide), ub_n (by decide), ub_n (by decide), ub_n (by decide), ub_n (by decide), ub_n (by decide), ub_n (by decide)]
  have c19 : (bBreak0 B t) 19 = B 19 + B 6 := by unfold bBreak0 inc; rw [ub_n (by decide), ub_n (by decide), ub_n (by decide), ub_n (by decide), ub_n (by decide), ub_n (by decide), ub_s]
  have c20 : (bBreak0 B t) 20 = B 20 := by unfold bBreak0 inc; rw [ub_n (by decide), ub_n (by decide), ub_n (by decide), ub_n (by decide), ub_n (by decide), ub_n (by decide), ub_n (by decide)]
  have c21 : (bBreak0 B t) 21 = B 21 := by unfold bBreak0 inc; rw [ub_n (by decide), ub_n (by decide), ub_n (by decide), ub_n (by decide), ub_n (by decide), ub_n (by decide), ub_n (by decide)]
  have c22 : (bBreak0 B t) 22 = B 22 := by unfold bBreak0 inc; rw [ub_n (by decide), ub_n (by decide), ub_n (by decide), ub_n (by decide), ub_n (by decide), ub_n (by decide), ub_n (by decide)]
  have c23 : (bBreak0 B t) 23 = B 23 + B 7 := by unfold bBreak0 inc; rw [ub_n (by decide), ub_n (by decide), ub_n (by decide), ub_n (by decide), ub_n (by decide), ub_s]
  have c26 : (bBreak0 B t) 26 = B 26 := by unfold bBreak0 inc; rw [ub_n (by decide), ub_n (by decide), ub_n (by decide), ub_n (by decide), ub_n (by decide), ub_n (by decide), ub_n (by decide)]
  generalize (bBreak0 B t) = D at *
  unfold LSt LS0 mkS at h
  unfold LS0
  omega

theorem LSt_break {b lines time l t : Int} {B : Blk} (hL : LineOk b lines time l B) (h : LSt B) : LSt (bBreak B t) := by
  unfold LineOk at hL
  have e : ∀ w, ¬ w = 19 → ¬ w = 23 → ¬ w = 25 → ¬ w = 6 → ¬ w = 7 → ¬ w = 8 → ¬ w = 9 → bBreak0 B t w = B w := fun w a1 a2 a3 a4 a5 a6 a7 => by
    unfold bBreak0 inc
    rw [ub_n a7, ub_n a6, ub_n a5, ub_n a4, ub_n a3, ub_n a2, ub_n a1]
  exact LSt_stop (LS0_break0 h) (by rw [e 2 (by decide) (by decide) (by decide) (by decide) (by decide) (by decide) (by decide), e 3 (by decide) (by decide) (by decide) (by decide) (by decide) (by decide) (by decide)]; omega) (by rw [e 10 (by decide) (by decide) (by decide) (by decide) (by decide) (by decide) (by decide)]; omega)
theorem LSt_echo {B : Blk} {v : Int} (h : LSt B) : LSt (ub (ub B 5 v) 8 0) := by
  have c2 : (ub (ub B 5 v) 8 0) 2 = B 2 := by rw [ub_n (by decide), ub_n (by decide)]
  have c3 : (ub (ub B 5 v) 8 0) 3 = B 3 := by rw [ub_n (by decide), ub_n (by decide)]
  have c5 : (ub (ub B 5 v) 8 0) 5 = v := by rw [ub_n (by decide), ub_s]
  have c6 : (ub (ub B 5 v) 8 0) 6 = B 6 := by rw [ub_n (by decide), ub_n (by decide)]
  have c7 : (ub (ub B 5 v) 8 0) 7 = B 7 := by rw [ub_n (by decide), ub_n (by decide)]
  have c8 : (ub (ub B 5 v) 8 0) 8 = 0 := ub_s _ _ _
  have c9 : (ub (ub B 5 v) 8 0) 9 = B 9 := by rw [ub_n (by decide), ub_n (by decide)]
  have c10 : (ub (ub B 5 v) 8 0) 10 = B 10 := by rw [ub_n (by decide), ub_n (by decide)]
  have c14 : (ub (ub B 5 v) 8 0) 14 = B 14 := by rw [ub_n (by decide), ub_n (by decide)]
  have c16 : (ub (ub B 5 v) 8 0) 16 = B 16 := by rw [ub_n (by decide), ub_n (by decide)]
  have c17 : (ub (ub B 5 v) 8 0) 17 = B 17 := by rw [ub_n (by decide), ub_n (by decide)]
  have c18 : (ub (ub B 5 v) 8 0) 18 = B 18 := by rw [ub_n (by decide), ub_n (by decide)]
  have c19 : (ub (ub B 5 v) 8 0) 19 = B 19 := by rw [ub_n (by decide), ub_n (by decide)]
  have c20 : (ub (ub B 5 v) 8 0) 20 = B 20 := by rw [ub_n (by decide), ub_n (by decide)]
  have c21 : (ub (ub B 5 v) 8 0) 21 = B 21 := by rw [ub_n (by decide), ub_n (by decide)]
  have c22 : (ub (ub B 5 v) 8 0) 22 = B 22 := by rw [ub_n (by decide), ub_n (by decide)]
  have c23 : (ub (ub B 5 v) 8 0) 23 = B 23 := by rw [ub_n (by decide), ub_n (by decide)]
  have c26 : (ub (ub B 5 v) 8 0) 26 = B 26 := by rw [ub_n (by decide), ub_n (by decide)]
  generalize (ub (ub B 5 v) 8 0) = D at *
  unfold LSt LS0 mkS at h
  unfold LSt LS0 mkS
  omega
theorem LS0_eq' {B C : Blk} (h : LS0 B) (e : ∀ w, (5 ≤ w ∧ w ≤ 9) ∨ w = 14 ∨ (16 ≤ w ∧ w ≤ 23) ∨ w = 26 → C w = B w) : LS0 C := by
  unfold LS0 at h ⊢
  rw [e 5 (by decide), e 6 (by decide), e 7 (by decide), e 8 (by decide), e 9 (by decide), e 14 (by decide), e 16 (by decide), e 17 (by decide), e 18 (by decide), e 19 (by decide), e 20 (by decide), e 21 (by decide), e 22 (by decide), e 23 (by decide), e 26 (by decide)]
  exact h
theorem LSt_marks {B : Blk} {a c : Int} (h : LSt B) (ha : a < c) (h10 : B 10 = 0 ∨ B 10 = 1) : LSt (bStop (ub (ub B 2 a) 3 c)) :=
  LSt_stop (LS0_eq' h.1 (fun w hw => by rw [ub_n (by omega), ub_n (by omega)])) (by rw [ub_n (by decide), ub_s, ub_s]; exact ha) (by rw [ub_n (by decide), ub_n (by decide)]; exact h10)
theorem LSt_ub {B : Blk} {k v : Int} (h : LSt B) (hk : k = 4 ∨ k = 11 ∨ k = 12 ∨ k = 13) : LSt (ub B k v) := LSt_eq h (fun w hw => ub_n (by unfold wS at hw; omega))
/-! all lines -/
def SOK (n : Net) : Prop := n (-1) 1 = n (-1) 4 + n (-1) 5 ∧ ∀ l, 0 ≤ l → l < n (-1) 0 → LSt (n l)
theorem SOK_un {n : Net} {l : Int} {B : Blk} (h : SOK n) (hl : 0 ≤ l) (hB : LSt B) : SOK (un n l B) := by
  unfold SOK
  rw [un_n (by omega)]
  refine ⟨h.1, fun j h0 h1 => ?_⟩
  by_cases e : j = l
  · subst e; rw [un_s]; exact hB
  · rw [un_n e]; exact h.2 j h0 h1
theorem SOK_pass {n : Net} (h : SOK n) : SOK (nPass n) := by
  unfold SOK
  rw [nPass_h (w := 1) (by decide), nPass_h (w := 4) (by decide), nPass_h (w := 5) (by decide), nPass_h (w := 0) (by decide)]
  exact ⟨h.1, fun l h0 h1 => LSt_eq (h.2 l h0 h1) (fun w hw => nPass_c (by omega) (by unfold wS at hw; omega))⟩
theorem nSend2_j {n : Net} {l j : Int} (hl : 0 ≤ l) (hj : 0 ≤ j) : nSend2 n l j = if j = l then bSend (n l) (if l = n (-1) 2 then 0 else 1) (nWait n l) else n j := by
  unfold nSend2 nSend1
  rw [un_n (by omega)]
  by_cases e : j = l
  · subst e; rw [un_s, if_pos rfl]
  · rw [un_n e, if_neg e]
    exact nLog_n (by omega) (by omega)
theorem LSt_send2 {b : Int} {n : Net} {l j : Int} (hN : NetOk b n) (hs : ∀ l, 0 ≤ l → l < n (-1) 0 → LSt (n l)) (hl : 0 ≤ l ∧ l < n (-1) 0) (c : ¬ 0 < n l 9 ∧ 0 < n l 6) (hj : 0 ≤ j ∧ j < n (-1) 0) : LSt (nSend2 n l j) := by
  rw [nSend2_j hl.1 hj.1]
  split
  · have hL := hN.2.2 l hl.1 hl.2
    unfold LineOk at hL
    exact LSt_send (hs l hl.1 hl.2) (by omega) c.1 (by split <;> omega) (by omega) (by omega)
  · exact hs j hj.1 hj.2
theorem nSend_h {n : Net} {l w : Int} (hl : 0 ≤ l) (hw : w = 0 ∨ w = 1 ∨ w = 5) : nSend n l (-1) w = n (-1) w := by
  unfold nSend
  split
  · rw [nPass_h (by omega), nSend2_h hl (by omega)]
  · rw [nSend2_h hl (by omega)]
theorem LSt_nSend {b : Int} {n : Net} {l j : Int} (hN : NetOk b n) (hs : ∀ l, 0 ≤ l → l < n (-1) 0 → LSt (n l)) (hl : 0 ≤ l ∧ l < n (-1) 0) (c : ¬ 0 < n l 9 ∧ 0 < n l 6) (hj : 0 ≤ j ∧ j < n (-1) 0) : LSt (nSend n l j) := by
  have h2 := LSt_send2 hN hs hl c hj
  unfold nSend
  split
  · exact LSt_eq h2 (fun w hw => nPass_c (by omega) (by unfold wS at hw; omega))
  · exact h2
theorem nLook_S {b : Int} : ∀ (k : Nat) {n : Net}, NetOk b n → (∀ l, 0 ≤ l → l < n (-1) 0 → LSt (n l)) → (∀ l, 0 ≤ l → l < n (-1) 0 → LSt ((nLook k n).1 l)) ∧ (nLook k n).1 (-1) 1 = n (-1) 1 ∧ (nLook k n).1 (-1) 5 = n (-1) 5 := by
  intro k
  induction k with
  | zero => intro n _ hs; exact ⟨hs, rfl, rfl⟩
  | succ k ih =>
    intro n h hs
    have hq := nSender_ok h
    unfold nLook
    split
    · next c => exact ⟨fun l h0 h1 => LSt_nSend h hs hq c ⟨h0, h1⟩, nSend_h hq.1 (by decide), nSend_h hq.1 (by decide)⟩
    · have e : ∀ w, w = 0 ∨ w = 1 ∨ w = 5 → nPass n (-1) w = n (-1) w := fun w hw => nPass_h (by omega)
      have h1 := ih (NetOk_pass h) (fun l h0 h1 => LSt_eq (hs l h0 (by rw [← e 0 (by decide)]; exact h1)) (fun w hw => nPass_c (by omega) (by unfold wS at hw; omega)))
      rw [e 0 (by decide), e 1 (by decide), e 5 (by decide)] at h1
      exact h1
theorem SOK_tick {b : Int} {n : Net} (h : NetOk b n) (hs : SOK n) : SOK (nTick n) ∧ nTick n (-1) 1 = n (-1) 1 + 1 := by
  have hH := h.1
  unfold HeadOk at hH
  have h1 := NetOk_time (NetOk_mono h (show b ≤ b + 1 by omega)) (by omega)
  have h2 := NetOk_held h1
  have e0 : nHeld (nTime n) (-1) 0 = n (-1) 0 := by rw [nHeld_h, nTime_0 _ (by decide)]
  have e5 : nHeld (nTime n) (-1) 5 = n (-1) 5 := by rw [nHeld_h, nTime_0 _ (by decide)]
  have e1 : nHeld (nTime n) (-1) 1 = n (-1) 1 + 1 := by rw [nHeld_h]; unfold nTime; rw [un_s, ub_s]
  have hl : ∀ l, 0 ≤ l → l < nHeld (nTime n) (-1) 0 → LSt (nHeld (nTime n) l) := by
    intro l u v
    rw [e0] at v
    have eT : nTime n l = n l := by unfold nTime; exact un_n (by omega)
    have eH : nHeld (nTime n) l = ub (n l) 9 (max 0 (n l 9 - 1)) := by
      unfold nHeld
      rw [if_pos ⟨u, by rw [nTime_0 _ (by decide)]; exact v⟩, eT]
    rw [eH]
    exact LSt_held (hs.2 l u v)
  have g := nLook_S (n (-1) 0).toNat h2 hl
  have gN := nLook_ok (n (-1) 0).toNat h2
  have g0 := nLook_0 (n (-1) 0).toNat h2
  rw [e0] at g g0
  rw [e1, e5] at g
  have t0 := NetOk_tick0 h
  have te := nTick_eff h
  have eLk : nLooks n = nLook (n (-1) 0).toNat (nHeld (nTime n)) := rfl
  have k1 : nTick0 n (-1) 1 = n (-1) 1 + 1 := by
    unfold nTick0
    rw [eLk]
    split
    · unfold nIdle; rw [un_s, ub_n (by decide)]; exact g.2.1
    · exact g.2.1
  have kl : ∀ l, 0 ≤ l → l < n (-1) 0 → LSt (nTick0 n l) := by
    intro l u v
    unfold nTick0
    rw [eLk]
    split
    · unfold nIdle; rw [un_n (by omega)]; exact g.1 l u v
    · exact g.1 l u v
  have o1 : nTick n (-1) 1 = nTick0 n (-1) 1 := nTick_o (by decide)
  have o5 : nTick n (-1) 5 = nTick0 n (-1) 5 := nTick_o (by decide)
  refine ⟨⟨?_, fun l u v => ?_⟩, o1.trans k1⟩
  · have hs1 := hs.1
    rw [o1, k1, o5]
    by_cases c : (nLooks n).2 = -1
    · have k5 : nTick0 n (-1) 5 = n (-1) 5 + 1 := by
        unfold nTick0
        rw [if_pos c, eLk]
        unfold nIdle
        rw [un_s, ub_s, g.2.2]
      have := (te.1 c).1
      omega
    · have k5 : nTick0 n (-1) 5 = n (-1) 5 := by
        unfold nTick0
        rw [if_neg c, eLk]
        exact g.2.2
      have := (te.2 c).1
      omega
  · rw [nTick_0 h] at v
    rw [nTick_K h]
    unfold nDelK
    rw [if_pos ⟨u, v⟩]
    exact LSt_deliver (t0.1.2.2 l u (by rw [t0.2]; exact v)) (kl l u v)
theorem SOK_ticks {b : Int} {n : Net} (h : NetOk b n) (hs : SOK n) : ∀ k : Nat, SOK (nTicks k n) ∧ nTicks k n (-1) 1 = n (-1) 1 + k
  | 0 => ⟨hs, by show n (-1) 1 = n (-1) 1 + ((0 : Nat) : Int); omega⟩
  | k + 1 => by
    have ih := SOK_ticks h hs k
    have h1 := SOK_tick (NetOk_ticks h k) ih.1
    refine ⟨h1.1, ?_⟩
    have e := h1.2
    rw [ih.2] at e
    show nTick (nTicks k n) (-1) 1 = _
    rw [e]
    omega
theorem SOK_types {b : Int} {n : Net} {l v : Int} (h : NetOk b n) (hs : SOK n) (hl : 0 ≤ l ∧ l < n (-1) 0) (hv : 1 ≤ v ∧ v ≤ 127) : ∀ k : Nat, SOK (nTypes l v k n) ∧ nTypes l v k n (-1) 1 = n (-1) 1
  | 0 => ⟨hs, rfl⟩
  | k + 1 => by
    have ih := SOK_types h hs hl hv k
    have h2 := nTypes_ok h hl hv k
    refine ⟨SOK_un ih.1 hl.1 (LSt_type (h2.1.2.2 l hl.1 (by rw [h2.2]; exact hl.2)) (ih.1.2 l hl.1 (by rw [h2.2]; exact hl.2))), ?_⟩
    show un _ l _ (-1) 1 = _
    rw [un_n (by omega)]
    exact ih.2
theorem SOK_offers {b : Int} {n : Net} {l v : Int} (h : NetOk b n) (hs : SOK n) (hl : 0 ≤ l ∧ l < n (-1) 0) (hv : 1 ≤ v ∧ v ≤ 127) : ∀ k : Nat, SOK (nOffers l v k n) ∧ nOffers l v k n (-1) 1 = n (-1) 1
  | 0 => ⟨hs, rfl⟩
  | k + 1 => by
    have ih := SOK_offers h hs hl hv k
    have h2 := nOffers_ok h hl hv k
    have hL := h2.1.2.2 l hl.1 (by rw [h2.2]; exact hl.2)
    unfold LineOk at hL
    refine ⟨SOK_un ih.1 hl.1 (LSt_offer (ih.1.2 l hl.1 (by rw [h2.2]; exact hl.2)) (by omega)), ?_⟩
    show un _ l _ (-1) 1 = _
    rw [un_n (by omega)]
    exact ih.2
