/-! What always holds is kept by what the lines do. -/
theorem qs_congr {f g : Int → Int} (k : Nat) (h : ∀ j : Int, 0 ≤ j → j < k → f j = g j) : qs f k = qs g k := by
  induction k with
  | zero => rfl
  | succ k ih =>
    unfold qs
    rw [ih (fun j h0 h1 => h j h0 (by omega)), h k (by omega) (by omega)]
theorem qs_shift (f : Int → Int) (k : Nat) : qs (fun j => f (j + 1)) k + f 0 = qs f (k + 1) := by
  induction k with
  | zero => simp [qs]
  | succ k ih =>
    show qs (fun j => f (j + 1)) k + f ((k : Int) + 1) + f 0 = qs f (k + 1) + f ((k + 1 : Nat) : Int)
    have e : ((k + 1 : Nat) : Int) = (k : Int) + 1 := by omega
    rw [e]
    omega
theorem qs_add (f : Int → Int) (c : Int) (k : Nat) : qs (fun j => f j + c) k = qs f k + k * c := by
  induction k with
  | zero => simp [qs]
  | succ k ih =>
    show qs (fun j => f j + c) k + (f k + c) = qs f k + f k + ((k + 1 : Nat) : Int) * c
    have e : ((k + 1 : Nat) : Int) = (k : Int) + 1 := by omega
    rw [e, ih, Int.add_mul]
    omega
theorem qs_one {f g : Int → Int} {s c : Int} (k : Nat) (h0 : 0 ≤ s) (h1 : s < k) (hs : g s = f s + c) (hn : ∀ j, j ≠ s → g j = f j) : qs g k = qs f k + c := by
  induction k with
  | zero => exfalso; omega
  | succ k ih =>
    show qs g k + g k = qs f k + f k + c
    by_cases e : s = k
    · subst e
      rw [hs, qs_congr (f := g) (g := f) k (fun j a b => hn j (by omega))]
      omega
    · rw [ih (by omega), hn k (fun z => e z.symm)]
      omega
theorem qs_nonneg {f : Int → Int} (k : Nat) (h : ∀ j : Int, 0 ≤ j → j < k → 0 ≤ f j) : 0 ≤ qs f k := by
  induction k with
  | zero => exact Int.le_refl _
  | succ k ih =>
    have := ih (fun j a b => h j a (by omega))
    have := h k (by omega) (by omega)
    show 0 ≤ qs f k + f k
    omega
/-- LineOk reads a block at these places alone -/
theorem LineOk_mono {b b' lines time l : Int} {B : Blk} (h : LineOk b lines time l B) (hb : b ≤ b') : LineOk b' lines time l B := by
  obtain ⟨h0, h1, h2, h3, h4, h5, h6, h7, h8, h9, h10, h11, h12, h13, h14, h15, h16⟩ := h
  exact ⟨h0, h1, h2, h3, h4, h5, h6, h7, h8, h9, h10, h11, h12, h13, h14, fun k a c => ⟨(h15 k a c).1, Int.le_trans (h15 k a c).2 hb⟩, h16⟩
theorem LineOk_time {b lines time l : Int} {B : Blk} (h : LineOk b lines time l B) : LineOk b lines (time + 1) l B := by
  obtain ⟨h0, h1, h2, h3, h4, h5, h6, h7, h8, h9, h10, h11, h12, h13, h14, h15, h16, h17, h18⟩ := h
  refine ⟨h0, h1, h2, h3, h4, h5, h6, h7, h8, h9, h10, h11, h12, h13, ⟨h14.1, ?_⟩, h15, h16, fun j a c => ⟨(h17 j a c).1, by have := (h17 j a c).2; omega⟩, h18⟩
  have e : qs (fun j => time + 1 - B (88 + j)) (B 6).toNat = qs (fun j => time - B (88 + j)) (B 6).toNat + ((B 6).toNat : Int) * 1 := by
    rw [← qs_add]
    exact qs_congr _ (fun j _ _ => by omega)
  rw [e]
  have := h14.2
  omega
/-- a change of one place that isn't a queue's, a count's, the wait's -/
theorem LineOk_ub {b lines time l : Int} {B : Blk} {k v : Int} (h : LineOk b lines time l B)
    (hk : k = 4 ∧ 1 ≤ v ∧ v ≤ 9 ∨ k = 9 ∧ 0 ≤ v ∧ v ≤ 50 ∨ k = 10 ∧ (v = 0 ∨ v = 1) ∨ k = 11 ∧ (v = 0 ∨ v = 1) ∨ k = 5 ∧ 0 ≤ v ∧ v ≤ 2 ∨ k = 8 ∧ v = 0 ∨ k = 14 ∧ -1 ≤ v ∧ v ≤ 127 ∨ k = 12 ∧ 0 ≤ v ∧ v ≤ 99 ∧ (0 < v → B 13 < lines ∧ B 13 ≠ l)) : LineOk b lines time l (ub B k v) := by
  obtain ⟨h0, h1, h2, h3, h4, h5, h6, h7, h8, h9, h10, h11, h12, h13, h14, h15, h16, h17, h18, h19⟩ := h
  have e0 : ub B k v 0 = B 0 := ub_n (by omega)
  have e1 : ub B k v 1 = B 1 := ub_n (by omega)
  have e2 : ub B k v 2 = B 2 := ub_n (by omega)
  have e3 : ub B k v 3 = B 3 := ub_n (by omega)
  have e6 : ub B k v 6 = B 6 := ub_n (by omega)
  have e7 : ub B k v 7 = B 7 := ub_n (by omega)
  have e13 : ub B k v 13 = B 13 := ub_n (by omega)
  have e15 : ub B k v 15 = B 15 := ub_n (by omega)
  have eq : ∀ w, 16 ≤ w → ub B k v w = B w := fun w hw => ub_n (by omega)
  have eqs : qs (fun j => time - ub B k v (88 + j)) (B 6).toNat = qs (fun j => time - B (88 + j)) (B 6).toNat := qs_congr _ (fun j a _ => by rw [eq _ (by omega)])
  have c : ∀ w, ub B k v w = if w = k then v else B w := fun w => rfl
  unfold LineOk
  rw [e0, e1, e2, e3, e6, e7, e13, e15, eqs]
  refine ⟨h0, h1, h2, ?_, ?_, h5, h6, ?_, ?_, ?_, ?_, ?_, ?_, ?_, h14, fun w a d => by rw [eq w a]; exact h15 w a d, fun j a d => by rw [eq _ (by omega)]; exact h16 j a d, fun j a d => by rw [eq _ (by omega)]; exact h17 j a d, fun j a d => by rw [eq _ (by omega)]; exact h18 j a d, ?_⟩
  · rw [c]; split <;> omega
  · rw [c]; split <;> omega
  · rw [c]; split <;> omega
  · rw [c]; split <;> omega
  · rw [c]; split <;> omega
  · rw [c]; split <;> omega
  · rw [c]; split <;> omega
  · rw [c]
    refine ⟨h12.1, h12.2.1, ?_⟩
    split <;> intro hz <;> omega
  · rw [c]; split <;> omega
  · rw [c]
    intro j a d
    rw [eq _ (by omega)]
    refine h19 j a ?_
    split at d <;> omega
theorem LineOk_inc {b lines time l : Int} {B : Blk} {k : Int} (h : LineOk b lines time l B) (hk : 16 ≤ k ∧ k ≤ 27) (c : Int) (hc : 0 ≤ B k + c ∧ B k + c ≤ b) : LineOk b lines time l (ub B k (B k + c)) := by
  obtain ⟨h0, h1, h2, h3, h4, h5, h6, h7, h8, h9, h10, h11, h12, h13, h14, h15, h16, h17, h18, h19⟩ := h
  have e : ∀ w, ¬ w = k → ub B k (B k + c) w = B w := fun w hw => ub_n hw
  have eqs : qs (fun j => time - ub B k (B k + c) (88 + j)) (B 6).toNat = qs (fun j => time - B (88 + j)) (B 6).toNat := qs_congr _ (fun j a _ => by rw [e _ (by omega)])
  unfold LineOk
  rw [e 0 (by omega), e 1 (by omega), e 2 (by omega), e 3 (by omega), e 4 (by omega), e 5 (by omega), e 6 (by omega), e 7 (by omega), e 8 (by omega), e 9 (by omega), e 10 (by omega), e 11 (by omega), e 12 (by omega), e 13 (by omega), e 14 (by omega), e 15 (by omega), eqs]
  refine ⟨h0, h1, h2, h3, h4, h5, h6, h7, h8, h9, h10, h11, h12, h13, h14, fun w a d => ?_, fun j a d => by rw [e _ (by omega)]; exact h16 j a d, fun j a d => by rw [e _ (by omega)]; exact h17 j a d, fun j a d => by rw [e _ (by omega)]; exact h18 j a d, fun j a d => by rw [e _ (by omega)]; exact h19 j a d⟩
  by_cases hw : w = k
  · subst hw
    rw [ub_s]
    exact hc
  · rw [e w hw]
    exact h15 w a d
theorem NetOk_mono {b b' : Int} {n : Net} (h : NetOk b n) (hb : b ≤ b') : NetOk b' n := by
  obtain ⟨⟨a0, a1, a2, a3, a4, a5, a6, a7, a8⟩, h2, h3⟩ := h
  exact ⟨⟨a0, ⟨a1.1, by omega⟩, a2, a3, ⟨a4.1, by omega⟩, ⟨a5.1, by omega⟩, a6, a7, a8⟩, h2, fun l u v => LineOk_mono (h3 l u v) hb⟩
/-- a line's block changed, its count of sent bytes not -/
theorem NetOk_un {b : Int} {n : Net} {l : Int} {B : Blk} (h : NetOk b n) (hl : 0 ≤ l) (hB : LineOk b (n (-1) 0) (n (-1) 1) l B) (h17 : B 17 = n l 17) : NetOk b (un n l B) := by
  obtain ⟨⟨a0, a1, a2, a3, a4, a5, a6, a7, a8⟩, h2, h3⟩ := h
  have e1 : un n l B (-1) = n (-1) := un_n (by omega)
  have e2 : un n l B (-2) = n (-2) := un_n (by omega)
  refine ⟨?_, ?_, ?_⟩
  · unfold HeadOk
    rw [e1]
    refine ⟨a0, a1, a2, a3, a4, a5, a6, a7, ?_⟩
    rw [a8]
    refine qs_congr _ (fun j _ _ => ?_)
    by_cases hj : j = l
    · subst hj; rw [un_s, h17]
    · rw [un_n hj]
  · unfold LogOk
    rw [e1, e2]
    exact h2
  · rw [e1]
    intro j u v
    by_cases hj : j = l
    · subst hj; rw [un_s]; exact hB
    · rw [un_n hj]; exact h3 j u v
/-- the head changed, but not the lines, nor the sum of sent bytes, nor how many entries the log has -/
theorem NetOk_hd {b : Int} {n : Net} {H : Blk} (h : NetOk b n) (h0 : H 0 = n (-1) 0) (h1 : H 1 = n (-1) 1) (h2 : 0 ≤ H 2 ∧ H 2 < n (-1) 0) (h3 : 1 ≤ H 3 ∧ H 3 ≤ 9) (h4 : H 4 = n (-1) 4) (h5 : 0 ≤ H 5 ∧ H 5 ≤ b) (h6 : H 6 = 0 ∨ H 6 = 1) (h7 : H 7 = n (-1) 7) : NetOk b (un n (-1) H) := by
  obtain ⟨⟨a0, a1, a2, a3, a4, a5, a6, a7, a8⟩, g2, g3⟩ := h
  have e1 : un n (-1) H (-1) = H := un_s _ _ _
  have e : ∀ j, ¬ j = -1 → un n (-1) H j = n j := fun j hj => un_n hj
  refine ⟨?_, ?_, ?_⟩
  · unfold HeadOk
    rw [e1, h0, h1, h4, h7]
    refine ⟨a0, a1, h2, h3, a4, h5, h6, a7, ?_⟩
    rw [a8]
    exact qs_congr _ (fun j u v => by rw [e j (by omega)])
  · unfold LogOk
    rw [e1, e (-2) (by omega), h0, h1, h7]
    exact g2
  · rw [e1, h0, h1]
    intro j u v
    rw [e j (by omega)]
    exact g3 j u v
theorem nPass0_h (n : Net) (w : Int) (h : 0 ≤ n (-1) 2) : nPass0 n (-1) w = n (-1) w := by
  unfold nPass0; split
  · rw [un_n (by omega)]
  · rfl
theorem NetOk_pass0 {b : Int} {n : Net} (h : NetOk b n) : NetOk b (nPass0 n) := by
  have hH := h.1
  unfold HeadOk at hH
  unfold nPass0
  split
  · next c =>
    have hT := h.2.2 (n (-1) 2) (by omega) (by omega)
    refine NetOk_un h (by omega) (LineOk_ub hT ?_) (ub_n (by decide))
    unfold LineOk at hT
    omega
  · exact h
theorem nNext_ok {b : Int} {n : Net} (h : NetOk b n) : 0 ≤ nNext n ∧ nNext n < n (-1) 0 := by
  have hH := h.1
  unfold HeadOk at hH
  unfold nNext
  exact ⟨Int.emod_nonneg _ (by omega), Int.emod_lt_of_pos _ (by omega)⟩
theorem NetOk_pass {b : Int} {n : Net} (h : NetOk b n) : NetOk b (nPass n) := by
  have hH := h.1
  unfold HeadOk at hH
  have hn := nNext_ok h
  have hT := h.2.2 (nNext n) (by omega) (by omega)
  unfold LineOk at hT
  have hp := nPass0_h n
  unfold nPass
  have c : ∀ w, ¬ w = 2 ∧ ¬ w = 3 ∧ ¬ w = 6 → ub (ub (ub (n (-1)) 2 (nNext n)) 3 (n (nNext n) 4)) 6 0 w = n (-1) w := fun w hw => by rw [ub_n hw.2.2, ub_n hw.2.1, ub_n hw.1]
  have c2 : ub (ub (ub (n (-1)) 2 (nNext n)) 3 (n (nNext n) 4)) 6 0 2 = nNext n := by rw [ub_n (by decide), ub_n (by decide), ub_s]
  have c3 : ub (ub (ub (n (-1)) 2 (nNext n)) 3 (n (nNext n) 4)) 6 0 3 = n (nNext n) 4 := by rw [ub_n (by decide), ub_s]
  refine NetOk_hd (NetOk_pass0 h) ?_ ?_ ?_ ?_ ?_ ?_ (Or.inl (ub_s _ _ _)) ?_
  · rw [hp _ (by omega), c _ (by decide)]
  · rw [hp _ (by omega), c _ (by decide)]
  · rw [hp _ (by omega), c2]; exact hn
  · rw [c3]; omega
  · rw [hp _ (by omega), c _ (by decide)]
  · rw [c _ (by decide)]; omega
  · rw [hp _ (by omega), c _ (by decide)]
theorem nPass_h {n : Net} {w : Int} (h : ¬ w = 2 ∧ ¬ w = 3 ∧ ¬ w = 6) : nPass n (-1) w = n (-1) w := by
  unfold nPass; rw [un_s, ub_n h.2.2, ub_n h.2.1, ub_n h.1]
theorem NetOk_held {b : Int} {n : Net} (h : NetOk b n) : NetOk b (nHeld n) := by
  have hH := h.1
  unfold HeadOk at hH
  obtain ⟨⟨a0, a1, a2, a3, a4, a5, a6, a7, a8⟩, g2, g3⟩ := h
  have e1 : nHeld n (-1) = n (-1) := if_neg (by omega)
  have e2 : nHeld n (-2) = n (-2) := if_neg (by omega)
  refine ⟨?_, ?_, ?_⟩
  · unfold HeadOk
    rw [e1]
    refine ⟨a0, a1, a2, a3, a4, a5, a6, a7, ?_⟩
    rw [a8]
    refine qs_congr _ (fun j u v => ?_)
    unfold nHeld
    rw [if_pos (by omega), ub_n (by decide)]
  · unfold LogOk
    rw [e1, e2]
    exact g2
  · rw [e1]
    intro j u v
    unfold nHeld
    rw [if_pos ⟨u, v⟩]
    have hT := g3 j u v
    refine LineOk_ub hT ?_
    unfold LineOk at hT
    omega
theorem NetOk_time {b : Int} {n : Net} (h : NetOk b n) (hb : n (-1) 1 + 1 ≤ b) : NetOk b (nTime n) := by
  have hH := h.1
  unfold HeadOk at hH
  obtain ⟨⟨a0, a1, a2, a3, a4, a5, a6, a7, a8⟩, g2, g3⟩ := h
  have e1 : nTime n (-1) = ub (n (-1)) 1 (n (-1) 1 + 1) := un_s _ _ _
  have e : ∀ j, ¬ j = -1 → nTime n j = n j := fun j hj => un_n hj
  have c : ∀ w, ¬ w = 1 → ub (n (-1)) 1 (n (-1) 1 + 1) w = n (-1) w := fun w hw => ub_n hw
  refine ⟨?_, ?_, ?_⟩
  · unfold HeadOk
    rw [e1, ub_s, c 0 (by decide), c 2 (by decide), c 3 (by decide), c 4 (by decide), c 5 (by decide), c 6 (by decide), c 7 (by decide)]
    refine ⟨a0, by omega, a2, a3, a4, a5, a6, a7, ?_⟩
    rw [a8]
    exact qs_congr _ (fun j u v => by rw [e j (by omega)])
  · unfold LogOk
    rw [e1, e (-2) (by omega), ub_s, c 0 (by decide), c 7 (by decide)]
    intro k u v
    have := g2 k u v
    omega
  · rw [e1, ub_s, c 0 (by decide)]
    intro j u v
    rw [e j (by omega)]
    exact LineOk_time (g3 j u v)
theorem bSend0_6 (B : Blk) : bSend0 B 6 = B 6 - 1 := by
  unfold bSend0
  rw [bDrop_s, ub_s]
theorem bSend0_n {B : Blk} {k : Int} (h0 : 0 ≤ B 6 ∧ B 6 ≤ 60) (a : ¬ k = 6) (c : ¬ (28 ≤ k ∧ k < 148)) : bSend0 B k = B k := by
  unfold bSend0
  rw [bDrop_n a (by rw [ub_s]; omega), ub_n a, bDrop_n a (by omega)]
theorem bSend0_i {B : Blk} {j : Int} (h0 : B 6 ≤ 60) (a : 0 ≤ j) (c : j < B 6 - 1) : bSend0 B (28 + j) = B (28 + (j + 1)) := by
  unfold bSend0
  have e : bDrop (ub (bDrop B 88 6) 6 (B 6)) 28 6 (28 + j) = (ub (bDrop B 88 6) 6 (B 6)) (28 + j + 1) := by
    have e6 : ub (bDrop B 88 6) 6 (B 6) 6 = B 6 := ub_s _ _ _
    show (if 28 + j = 6 then _ else if 28 ≤ 28 + j ∧ 28 + j < 28 + ub (bDrop B 88 6) 6 (B 6) 6 - 1 then _ else _) = _
    rw [if_neg (by omega), e6, if_pos (by omega)]
  rw [e, ub_n (by omega), bDrop_n (by omega) (by omega), show 28 + j + 1 = 28 + (j + 1) by omega]
theorem bSend0_t {B : Blk} {j : Int} (h0 : B 6 ≤ 60) (a : 0 ≤ j) (c : j < B 6 - 1) : bSend0 B (88 + j) = B (88 + (j + 1)) := by
  unfold bSend0
  rw [bDrop_n (by omega) (by rw [ub_s]; omega), ub_n (by omega)]
  unfold bDrop
  rw [if_neg (by omega), if_pos ⟨by omega, by omega⟩, show 88 + j + 1 = 88 + (j + 1) by omega]
theorem LineOk_drop {B : Blk} {b lines time l w : Int} (h : LineOk b lines time l B) (p6 : 0 < B 6) (hw : w = time - B 88) : LineOk b lines time l (ub (bSend0 B) 15 (B 15 + w)) := by
  obtain ⟨h0, h1, h2, h3, h4, h5, h6, h7, h8, h9, h10, h11, h12, h13, h14, h15, h16, h17, h18, h19⟩ := h
  have c : ∀ k, ¬ k = 15 → ¬ k = 6 → ¬ (28 ≤ k ∧ k < 148) → ub (bSend0 B) 15 (B 15 + w) k = B k := fun k a1 a2 a3 => by rw [ub_n a1, bSend0_n (by omega) a2 a3]
  have c6 : ub (bSend0 B) 15 (B 15 + w) 6 = B 6 - 1 := by rw [ub_n (by decide), bSend0_6]
  have eq : qs (fun j => time - ub (bSend0 B) 15 (B 15 + w) (88 + j)) (B 6 - 1).toNat + w = qs (fun j => time - B (88 + j)) (B 6).toNat := by
    have e1 : (B 6).toNat = (B 6 - 1).toNat + 1 := by omega
    rw [e1, ← qs_shift, hw]
    congr 1
    exact qs_congr _ (fun j a d => by rw [ub_n (by omega), bSend0_t (by omega) a (by omega)])
  have w0 : 0 ≤ w := by have := h17 0 (by omega) p6; rw [show (88 : Int) + 0 = 88 from rfl] at this; omega
  unfold LineOk
  rw [c 0 (by decide) (by decide) (by decide), c 1 (by decide) (by decide) (by decide), c 2 (by decide) (by decide) (by decide), c 3 (by decide) (by decide) (by decide), c 4 (by decide) (by decide) (by decide), c 5 (by decide) (by decide) (by decide), c6, c 7 (by decide) (by decide) (by decide), c 8 (by decide) (by decide) (by decide), c 9 (by decide) (by decide) (by decide), c 10 (by decide) (by decide) (by decide), c 11 (by decide) (by decide) (by decide), c 12 (by decide) (by decide) (by decide), c 13 (by decide) (by decide) (by decide), c 14 (by decide) (by decide) (by decide), ub_s]
  refine ⟨h0, h1, h2, h3, h4, by omega, h6, h7, h8, h9, h10, h11, h12, h13, by omega, fun k a d => by rw [c k (by omega) (by omega) (by omega)]; exact h15 k a d, fun j a d => ?_, fun j a d => ?_, fun j a d => by rw [c _ (by omega) (by omega) (by omega)]; exact h18 j a d, fun j a d => by rw [c _ (by omega) (by omega) (by omega)]; exact h19 j a d⟩
  · rw [ub_n (by omega), bSend0_i (by omega) a d]
    exact h16 (j + 1) (by omega) (by omega)
  · rw [ub_n (by omega), bSend0_t (by omega) a d]
    exact h17 (j + 1) (by omega) (by omega)
theorem LineOk_stop {b lines time l : Int} {B : Blk} (h : LineOk b lines time l B) (hc : B 24 + 1 ≤ b) : LineOk b lines time l (bStop B) := by
  unfold bStop
  split
  · have h1 := LineOk_ub (k := 10) (v := 1) h (by omega)
    refine LineOk_inc h1 (by omega) 1 ?_
    have := h1
    unfold LineOk at h
    rw [ub_n (by decide)]
    have := h.2.2.2.2.2.2.2.2.2.2.2.2.2.2.2.1 24 (by decide) (by decide)
    omega
  · split
    · exact LineOk_ub h (by omega)
    · exact h
theorem ub_comm {B : Blk} {i j x y : Int} (h : ¬ i = j) : ub (ub B i x) j y = ub (ub B j y) i x := by
  funext w
  unfold ub
  by_cases h1 : w = j
  · rw [if_pos h1, if_neg (fun z => h (by omega)), if_pos h1]
  · rw [if_neg h1]
    by_cases h2 : w = i
    · rw [if_pos h2, if_pos h2]
    · rw [if_neg h2, if_neg h2, if_neg h1]
theorem bStop_ub {B : Blk} {v : Int} : bStop (ub B 15 v) = ub (bStop B) 15 v := by
  unfold bStop inc
  rw [ub_n (show ¬ (3 : Int) = 15 by decide), ub_n (show ¬ (6 : Int) = 15 by decide), ub_n (show ¬ (10 : Int) = 15 by decide), ub_n (show ¬ (2 : Int) = 15 by decide)]
  split
  · rw [ub_comm (show ¬ (15 : Int) = 10 by decide), ub_n (show ¬ (24 : Int) = 15 by decide), ub_comm (show ¬ (15 : Int) = 24 by decide)]
  · split
    · rw [ub_comm (show ¬ (15 : Int) = 10 by decide)]
    · rfl
theorem LineOk_cnt {b lines time l : Int} {B : Blk} {k v : Int} (h : LineOk b lines time l B) (hk : 16 ≤ k ∧ k ≤ 27) (hv : 0 ≤ v ∧ v ≤ b) : LineOk b lines time l (ub B k v) := by
  have h1 := LineOk_inc h hk (v - B k) (by omega)
  rw [show B k + (v - B k) = v by omega] at h1
  exact h1
theorem LineOk_c {b lines time l : Int} {B : Blk} {k : Int} (h : LineOk b lines time l B) (h1 : 16 ≤ k) (h2 : k ≤ 27) : 0 ≤ B k ∧ B k ≤ b := h.2.2.2.2.2.2.2.2.2.2.2.2.2.2.2.1 k h1 h2
theorem bSend_eq (B : Blk) (e w : Int) (h0 : 0 ≤ B 6 ∧ B 6 ≤ 60) : bSend B e w = ub (ub (inc (bStop (ub (bSend0 B) 15 (B 15 + w))) 17) 26 (bSend0 B 26 + e)) 27 (max (bSend0 B 27) w) := by
  have e15 : bSend0 B 15 = B 15 := bSend0_n h0 (by decide) (by decide)
  unfold bSend inc
  simp (disch := omega) only [ub_n, ub_s, bStop_n, bStop_ub]
  rw [e15]
  rw [ub_comm (i := 15) (j := 17) (by decide), ub_comm (i := 15) (j := 26) (by decide), ub_comm (i := 15) (j := 27) (by decide)]
theorem LineOk_send {b lines time l : Int} {B : Blk} {e w : Int} (h : LineOk b lines time l B) (p6 : 0 < B 6) (hw : w = time - B 88) (htb : time ≤ b) (he : e = 0 ∨ e = 1) : LineOk (b + 1) lines time l (bSend B e w) := by
  have hB := h
  unfold LineOk at hB
  have w0 : 0 ≤ B 88 ∧ B 88 ≤ time := by
    have h17 := h.2.2.2.2.2.2.2.2.2.2.2.2.2.2.2.2.2.1 0 (by omega) p6
    rw [show (88 : Int) + 0 = 88 from rfl] at h17
    exact h17
  have hcb := fun k a c => LineOk_c (k := k) h a c
  have e24 : bSend0 B 24 = B 24 := bSend0_n (by omega) (by decide) (by decide)
  have e26 : bSend0 B 26 = B 26 := bSend0_n (by omega) (by decide) (by decide)
  have e27 : bSend0 B 27 = B 27 := bSend0_n (by omega) (by decide) (by decide)
  have e17 : bSend0 B 17 = B 17 := bSend0_n (by omega) (by decide) (by decide)
  rw [bSend_eq B e w (by omega), e26, e27]
  have d1 := LineOk_mono (LineOk_drop h p6 hw) (show b ≤ b + 1 by omega)
  have d2 := LineOk_stop d1 (by rw [ub_n (by decide), e24]; have := hcb 24 (by decide) (by decide); omega)
  have f17 : bStop (ub (bSend0 B) 15 (B 15 + w)) 17 = B 17 := by rw [bStop_n (by decide) (by decide), ub_n (by decide), e17]
  have d3 := LineOk_inc d2 (k := 17) (by decide) 1 (by rw [f17]; have := hcb 17 (by decide) (by decide); omega)
  have d4 := LineOk_cnt (k := 26) (v := B 26 + e) d3 (by decide) (by have := hcb 26 (by decide) (by decide); omega)
  exact LineOk_cnt (k := 27) (v := max (B 27) w) d4 (by decide) (by have := hcb 27 (by decide) (by decide); omega)
theorem bSend_17 (B : Blk) (e w : Int) (h0 : 0 ≤ B 6 ∧ B 6 ≤ 60) : bSend B e w 17 = B 17 + 1 := by
  rw [bSend_eq B e w h0]
  unfold inc
  simp (disch := omega) only [ub_n, ub_s, bStop_n]
  rw [bSend0_n h0 (by decide) (by decide)]
theorem nPass_left {n : Net} {x : Int} (h2 : 0 ≤ n (-1) 2) (hN : 0 ≤ nNext n) : nPass (un n (-1) (ub (n (-1)) 3 x)) = nPass n := by
  have e1 : un n (-1) (ub (n (-1)) 3 x) (-1) = ub (n (-1)) 3 x := un_s _ _ _
  have c : ∀ w, ¬ w = 3 → ub (n (-1)) 3 x w = n (-1) w := fun w hw => ub_n hw
  have eN : nNext (un n (-1) (ub (n (-1)) 3 x)) = nNext n := by
    unfold nNext
    rw [e1, c 2 (by decide), c 0 (by decide)]
  have e0 : un (nPass0 (un n (-1) (ub (n (-1)) 3 x))) (-1) = un (nPass0 n) (-1) := by
    funext B
    unfold nPass0
    rw [e1, c 2 (by decide), c 6 (by decide), un_n (by omega)]
    funext j
    unfold un
    by_cases hj : j = -1
    · rw [if_pos hj, if_pos hj]
    · rw [if_neg hj, if_neg hj]
      split
      · dsimp only
        by_cases h3 : j = n (-1) 2
        · rw [if_pos h3, if_pos h3]
        · rw [if_neg h3, if_neg h3, if_neg hj]
      · dsimp only
        rw [if_neg hj]
  unfold nPass
  rw [eN, e0, e1, un_n (by omega)]
  congr 1
  funext w
  unfold ub
  by_cases h6 : w = 6
  · rw [if_pos h6, if_pos h6]
  · rw [if_neg h6, if_neg h6]
    by_cases h3 : w = 3
    · rw [if_pos h3, if_pos h3]
    · rw [if_neg h3, if_neg h3]
      by_cases h4 : w = 2
      · simp only [if_pos h4, if_neg h3]
      · simp only [if_neg h4, if_neg h3]
theorem NetOk_log {b : Int} {n : Net} {l v wait : Int} (h : NetOk b n) (hl : 0 ≤ l ∧ l < n (-1) 0) (hv : 1 ≤ v ∧ v ≤ 127) (hw : 0 ≤ wait ∧ wait ≤ n (-1) 1) : NetOk b (nLog n l v wait) := by
  obtain ⟨⟨a0, a1, a2, a3, a4, a5, a6, a7, a8⟩, g2, g3⟩ := h
  have e : ∀ w, ¬ w = 7 → nLog n l v wait (-1) w = n (-1) w := fun w hw => nLog_h hw
  have e7 : nLog n l v wait (-1) 7 = min 40 (n (-1) 7 + 1) := by unfold nLog; rw [un_s, ub_s]
  have ej : ∀ j, ¬ j = -1 → ¬ j = -2 → nLog n l v wait j = n j := fun j h1 h2 => nLog_n h1 h2
  have e2 : nLog n l v wait (-2) = lLog n l v wait := by unfold nLog; rw [un_n (by decide), un_s]
  refine ⟨?_, ?_, ?_⟩
  · unfold HeadOk
    rw [e 0 (by decide), e 1 (by decide), e 2 (by decide), e 3 (by decide), e 4 (by decide), e 5 (by decide), e 6 (by decide), e7]
    refine ⟨a0, a1, a2, a3, a4, a5, a6, by omega, ?_⟩
    rw [a8]
    exact qs_congr _ (fun j u w => by rw [ej j (by omega) (by omega)])
  · unfold LogOk
    rw [e 0 (by decide), e 1 (by decide), e7, e2]
    intro k u w
    have s5 : ∀ i, 5 ≤ i → lLog n l v wait i = n (-2) (i - 5) := by
      intro i hi
      unfold lLog
      rw [if_neg (by omega), if_neg (by omega), if_neg (by omega), if_neg (by omega), if_neg (by omega)]
    by_cases hk : k = 0
    · subst hk
      show (0 ≤ lLog n l v wait 0 ∧ lLog n l v wait 0 ≤ _) ∧ (0 ≤ lLog n l v wait 1 ∧ lLog n l v wait 1 < _) ∧ (0 ≤ lLog n l v wait 2 ∧ lLog n l v wait 2 < _) ∧ (1 ≤ lLog n l v wait 3 ∧ lLog n l v wait 3 ≤ 127) ∧ (0 ≤ lLog n l v wait 4 ∧ lLog n l v wait 4 ≤ _)
      exact ⟨⟨a1.1, Int.le_refl _⟩, hl, a2, hv, hw⟩
    · have g := g2 (k - 1) (by omega) (by omega)
      rw [s5 _ (by omega), s5 _ (by omega), s5 _ (by omega), s5 _ (by omega), s5 _ (by omega)]
      rw [show 5 * k - 5 = 5 * (k - 1) by omega, show 5 * k + 1 - 5 = 5 * (k - 1) + 1 by omega, show 5 * k + 2 - 5 = 5 * (k - 1) + 2 by omega, show 5 * k + 3 - 5 = 5 * (k - 1) + 3 by omega, show 5 * k + 4 - 5 = 5 * (k - 1) + 4 by omega]
      exact g
  · rw [e 0 (by decide), e 1 (by decide)]
    intro j u w
    rw [ej j (by omega) (by omega)]
    exact g3 j u w
theorem nSend1_h {n : Net} {l w : Int} (hl : 0 ≤ l) (hw : ¬ w = 7) : nSend1 n l (-1) w = n (-1) w := by
  unfold nSend1; rw [un_n (by omega), nLog_h hw]
theorem NetOk_send2 {b : Int} {n : Net} {l x : Int} (h : NetOk b n) (hl : 0 ≤ l ∧ l < n (-1) 0) (p6 : 0 < n l 6) (hx : 1 ≤ x ∧ x ≤ 9) : NetOk (b + 1) (un (nSend2 n l) (-1) (ub (nSend2 n l (-1)) 3 x)) := by
  have hH := h.1
  unfold HeadOk at hH
  have hT := h.2.2 l hl.1 hl.2
  have q0 := hT.2.2.2.2.2.2.2.2.2.2.2.2.2.2.2.2.2.1 0 (by omega) p6
  rw [show (88 : Int) + 0 = 88 from rfl] at q0
  have q1 := hT.2.2.2.2.2.2.2.2.2.2.2.2.2.2.2.2.1 0 (by omega) p6
  rw [show (28 : Int) + 0 = 28 from rfl] at q1
  have hL := NetOk_mono (NetOk_log (l := l) (v := n l 28) (wait := nWait n l) h hl q1 (by unfold nWait; omega)) (show b ≤ b + 1 by omega)
  have hsd := LineOk_send (e := if l = n (-1) 2 then 0 else 1) (w := nWait n l) hT p6 rfl (by omega) (by split <;> omega)
  have h17 : bSend (n l) (if l = n (-1) 2 then 0 else 1) (nWait n l) 17 = n l 17 + 1 := by
    unfold LineOk at hT
    exact bSend_17 _ _ _ (by omega)
  generalize hBe : bSend (n l) (if l = n (-1) 2 then 0 else 1) (nWait n l) = Bs at hsd h17
  have eS : un (nSend2 n l) (-1) (ub (nSend2 n l (-1)) 3 x) = un (un (nLog n l (n l 28) (nWait n l)) l Bs) (-1) (ub (ub (ub (nLog n l (n l 28) (nWait n l) (-1)) 4 (n (-1) 4 + 1)) 6 1) 3 x) := by
    unfold nSend2 nSend1
    rw [hBe, un_un, un_s, un_n (show ¬ (-1 : Int) = l by omega)]
    congr 1
    funext w
    unfold ub
    split <;> rfl
  rw [eS]
  obtain ⟨⟨a0, a1, a2, a3, a4, a5, a6, a7, a8⟩, g2, g3⟩ := hL
  generalize hm : nLog n l (n l 28) (nWait n l) = m at *
  have m0 : m (-1) 0 = n (-1) 0 := by rw [← hm]; exact nLog_h (by decide)
  have m1 : m (-1) 1 = n (-1) 1 := by rw [← hm]; exact nLog_h (by decide)
  have m4 : m (-1) 4 = n (-1) 4 := by rw [← hm]; exact nLog_h (by decide)
  have ml : m l = n l := by rw [← hm]; exact nLog_n (by omega) (by omega)
  have eh : un (un m l Bs) (-1) (ub (ub (ub (m (-1)) 4 (n (-1) 4 + 1)) 6 1) 3 x) (-1) = ub (ub (ub (m (-1)) 4 (n (-1) 4 + 1)) 6 1) 3 x := un_s _ _ _
  have c : ∀ w, ¬ w = 3 → ¬ w = 6 → ¬ w = 4 → ub (ub (ub (m (-1)) 4 (n (-1) 4 + 1)) 6 1) 3 x w = m (-1) w := fun w x1 x2 x3 => by rw [ub_n x1, ub_n x2, ub_n x3]
  have c4 : ub (ub (ub (m (-1)) 4 (n (-1) 4 + 1)) 6 1) 3 x 4 = n (-1) 4 + 1 := by rw [ub_n (by decide), ub_n (by decide), ub_s]
  have c6 : ub (ub (ub (m (-1)) 4 (n (-1) 4 + 1)) 6 1) 3 x 6 = 1 := by rw [ub_n (by decide), ub_s]
  have el : ∀ j, ¬ j = -1 → un (un m l Bs) (-1) (ub (ub (ub (m (-1)) 4 (n (-1) 4 + 1)) 6 1) 3 x) j = un m l Bs j := fun j hj => un_n hj
  refine ⟨?_, ?_, ?_⟩
  · unfold HeadOk
    rw [eh, c 0 (by decide) (by decide) (by decide), c 1 (by decide) (by decide) (by decide), c 2 (by decide) (by decide) (by decide), ub_s, c4, c 5 (by decide) (by decide) (by decide), c6, c 7 (by decide) (by decide) (by decide)]
    refine ⟨a0, a1, a2, hx, by omega, a5, Or.inr rfl, a7, ?_⟩
    have hq := qs_one (f := fun j => m j 17) (g := fun j => un (un m l Bs) (-1) (ub (ub (ub (m (-1)) 4 (n (-1) 4 + 1)) 6 1) 3 x) j 17) (s := l) (c := 1) (m (-1) 0).toNat hl.1 (by omega) (by
      show un (un m l Bs) (-1) _ l 17 = m l 17 + 1
      rw [el l (by omega), un_s, h17, ml]) (fun j hj => by
      show un (un m l Bs) (-1) _ j 17 = m j 17
      by_cases hj1 : j = -1
      · subst hj1
        rw [eh, c 17 (by decide) (by decide) (by decide)]
      · rw [el j hj1, un_n hj])
    have h4 : n (-1) 4 + 1 = qs (fun j => m j 17) (m (-1) 0).toNat + 1 := by rw [← m4, a8]
    exact h4.trans hq.symm
  · unfold LogOk
    rw [eh, el (-2) (by decide), un_n (by omega), c 0 (by decide) (by decide) (by decide), c 1 (by decide) (by decide) (by decide), c 7 (by decide) (by decide) (by decide)]
    exact g2
  · rw [eh, c 0 (by decide) (by decide) (by decide), c 1 (by decide) (by decide) (by decide)]
    intro j u w
    rw [el j (by omega)]
    by_cases hj : j = l
    · subst hj
      rw [un_s, m0, m1]
      exact hsd
    · rw [un_n hj]
      exact g3 j u w
theorem nSend_ok {b : Int} {n : Net} {l : Int} (h : NetOk b n) (hl : 0 ≤ l ∧ l < n (-1) 0) (p6 : 0 < n l 6) : NetOk (b + 1) (nSend n l) := by
  have hH := h.1
  unfold HeadOk at hH
  have e2 : ∀ w, ¬ w = 4 → ¬ w = 6 → ¬ w = 3 → nSend2 n l (-1) w = nSend1 n l (-1) w := fun w a c d => by unfold nSend2; rw [un_s, ub_n d, ub_n c, ub_n a]
  have e3 : nSend2 n l (-1) 3 = n (-1) 3 - 1 := by unfold nSend2; rw [un_s, ub_s]
  unfold nSend
  split
  · next c =>
    have h9 := NetOk_send2 (x := 1) h hl p6 (by decide)
    have h8 := NetOk_pass h9
    rw [nPass_left] at h8
    · exact h8
    · rw [e2 2 (by decide) (by decide) (by decide), nSend1_h hl.1 (by decide)]; omega
    · unfold nNext
      rw [e2 2 (by decide) (by decide) (by decide), nSend1_h hl.1 (by decide), e2 0 (by decide) (by decide) (by decide), nSend1_h hl.1 (by decide)]
      exact Int.emod_nonneg _ (by omega)
  · next c =>
    have h9 := NetOk_send2 (x := n (-1) 3 - 1) h hl p6 (by omega)
    rw [show un (nSend2 n l) (-1) (ub (nSend2 n l (-1)) 3 (n (-1) 3 - 1)) = nSend2 n l from by
      rw [← e3]
      funext j
      unfold un
      by_cases hj : j = -1
      · rw [if_pos hj]
        funext w
        unfold ub
        split
        · next e => rw [e, hj]
        · rw [hj]
      · rw [if_neg hj]] at h9
    exact h9
theorem nSender_ok {b : Int} {n : Net} (h : NetOk b n) : 0 ≤ nSender n ∧ nSender n < n (-1) 0 := by
  have hH := h.1
  unfold HeadOk at hH
  have hT := h.2.2 (n (-1) 2) (by omega) (by omega)
  unfold LineOk at hT
  unfold nSender
  split <;> omega
theorem nLook_ok {b : Int} : ∀ (k : Nat) {n : Net}, NetOk b n → NetOk (b + 1) (nLook k n).1 ∧ -1 ≤ (nLook k n).2 ∧ (nLook k n).2 < n (-1) 0 := by
  intro k
  induction k with
  | zero =>
    intro n h
    have hH := h.1
    unfold HeadOk at hH
    exact ⟨NetOk_mono h (by omega), Int.le_refl _, by show (-1 : Int) < _; omega⟩
  | succ k ih =>
    intro n h
    have hs := nSender_ok h
    unfold nLook
    split
    · next c => exact ⟨nSend_ok h hs c.2, by dsimp only; omega, hs.2⟩
    · have h1 := ih (NetOk_pass h)
      rw [nPass_h (by decide)] at h1
      exact h1
theorem NetOk_idle {b : Int} {n : Net} (h : NetOk b n) : NetOk (b + 1) (nIdle n) := by
  have hH := h.1
  unfold HeadOk at hH
  have c : ∀ w, ¬ w = 5 → ub (n (-1)) 5 (n (-1) 5 + 1) w = n (-1) w := fun w hw => ub_n hw
  refine NetOk_hd (NetOk_mono h (by omega)) (c _ (by decide)) (c _ (by decide)) ?_ ?_ (c _ (by decide)) ?_ ?_ (c _ (by decide))
  · rw [c _ (by decide)]; omega
  · rw [c _ (by decide)]; omega
  · rw [ub_s]; omega
  · rw [c _ (by decide)]; omega
theorem bDrop_q {B : Blk} {j : Int} (h7 : B 7 ≤ 60) (a : 0 ≤ j) (c : j < B 7 - 1) : bDrop B 148 7 (148 + j) = B (148 + (j + 1)) := by
  unfold bDrop
  rw [if_neg (by omega), if_pos ⟨by omega, by omega⟩, show 148 + j + 1 = 148 + (j + 1) by omega]
theorem LineOk_deliver {b lines time l : Int} {B : Blk} (h : LineOk b lines time l B) : LineOk (b + 1) lines time l (bDeliver B) := by
  unfold bDeliver
  split
  · exact LineOk_mono h (by omega)
  · next cc =>
    have hB := h
    unfold LineOk at hB
    have q1 := h.2.2.2.2.2.2.2.2.2.2.2.2.2.2.2.2.2.2.1 0 (by omega) (by omega)
    rw [show (148 : Int) + 0 = 148 from rfl] at q1
    have h1 := LineOk_mono (LineOk_ub (k := 14) (v := B 148) h (by omega)) (show b ≤ b + 1 by omega)
    have hc := LineOk_c (k := 21) h (by decide) (by decide)
    generalize hD : ub B 14 (B 148) = D at h1
    have d7 : D 7 = B 7 := by rw [← hD]; exact ub_n (by decide)
    have d21 : D 21 = B 21 := by rw [← hD]; exact ub_n (by decide)
    have c : ∀ k, ¬ k = 7 → ¬ (148 ≤ k ∧ k < 208) → bDrop D 148 7 k = D k := fun k a1 a2 => bDrop_n a1 (by omega)
    have h2 : LineOk (b + 1) lines time l (bDrop D 148 7) := by
      obtain ⟨h0, h1, h2, h3, h4, h5, h6, h7, h8, h9, h10, h11, h12, h13, h14, h15, h16, h17, h18, h19⟩ := h1
      have eq : qs (fun j => time - bDrop D 148 7 (88 + j)) (D 6).toNat = qs (fun j => time - D (88 + j)) (D 6).toNat := qs_congr _ (fun j a d => by rw [c _ (by omega) (by omega)])
      unfold LineOk
      rw [c 0 (by decide) (by decide), c 1 (by decide) (by decide), c 2 (by decide) (by decide), c 3 (by decide) (by decide), c 4 (by decide) (by decide), c 5 (by decide) (by decide), c 6 (by decide) (by decide), bDrop_s, c 8 (by decide) (by decide), c 9 (by decide) (by decide), c 10 (by decide) (by decide), c 11 (by decide) (by decide), c 12 (by decide) (by decide), c 13 (by decide) (by decide), c 14 (by decide) (by decide), c 15 (by decide) (by decide), eq]
      refine ⟨h0, h1, h2, h3, h4, h5, by omega, h7, h8, h9, h10, h11, h12, h13, h14, fun k a d => by rw [c k (by omega) (by omega)]; exact h15 k a d, fun j a d => by rw [c _ (by omega) (by omega)]; exact h16 j a d, fun j a d => by rw [c _ (by omega) (by omega)]; exact h17 j a d, fun j a d => ?_, fun j a d => by rw [c _ (by omega) (by omega)]; exact h19 j a d⟩
      rw [bDrop_q (by omega) a d]
      exact h18 (j + 1) (by omega) (by omega)
    exact LineOk_inc h2 (by decide) 1 (by rw [c _ (by decide) (by decide), d21]; omega)
theorem bDeliver_17 {B : Blk} (h7 : 0 ≤ B 7 ∧ B 7 ≤ 60) : bDeliver B 17 = B 17 := by
  unfold bDeliver
  split
  · rfl
  · unfold inc
    rw [ub_n (by decide), bDrop_n (by decide) (by rw [ub_n (by decide)]; omega), ub_n (by decide)]
theorem NetOk_deliver {b : Int} {n : Net} (h : NetOk b n) : NetOk (b + 1) (nDeliver n) := by
  have hH := h.1
  unfold HeadOk at hH
  obtain ⟨⟨a0, a1, a2, a3, a4, a5, a6, a7, a8⟩, g2, g3⟩ := h
  have e1 : nDeliver n (-1) = n (-1) := if_neg (by omega)
  have e2 : nDeliver n (-2) = n (-2) := if_neg (by omega)
  refine ⟨?_, ?_, ?_⟩
  · unfold HeadOk
    rw [e1]
    refine ⟨a0, ⟨a1.1, by omega⟩, a2, a3, ⟨a4.1, by omega⟩, ⟨a5.1, by omega⟩, a6, a7, ?_⟩
    rw [a8]
    refine qs_congr _ (fun j u v => ?_)
    unfold nDeliver
    rw [if_pos (by omega)]
    have hT := g3 j (by omega) (by omega)
    unfold LineOk at hT
    exact (bDeliver_17 (by omega)).symm
  · unfold LogOk
    rw [e1, e2]
    exact g2
  · rw [e1]
    intro j u v
    unfold nDeliver
    rw [if_pos ⟨u, v⟩]
    exact LineOk_deliver (g3 j u v)
theorem NetOk_tick {b : Int} {n : Net} (h : NetOk b n) : NetOk (b + 4) (nTick n) := by
  have hH := h.1
  unfold HeadOk at hH
  have h1 := NetOk_time (NetOk_mono h (show b ≤ b + 1 by omega)) (by omega)
  have h2 := (nLook_ok (n (-1) 0).toNat (NetOk_held h1)).1
  unfold nTick nLooks
  have h3 : NetOk (b + 3) (if (nLook (n (-1) 0).toNat (nHeld (nTime n))).2 = -1 then nIdle (nLook (n (-1) 0).toNat (nHeld (nTime n))).1 else (nLook (n (-1) 0).toNat (nHeld (nTime n))).1) := by
    split
    · have := NetOk_idle h2
      rw [show b + 1 + 1 + 1 = b + 3 by omega] at this
      exact this
    · exact NetOk_mono h2 (by omega)
  have := NetOk_deliver h3
  rw [show b + 3 + 1 = b + 4 by omega] at this
  exact this
theorem NetOk_ticks {b : Int} {n : Net} (h : NetOk b n) : ∀ k : Nat, NetOk (b + 4 * k) (nTicks k n) := by
  intro k
  induction k with
  | zero => rw [show b + 4 * ((0 : Nat) : Int) = b by omega]; exact h
  | succ k ih =>
    have := NetOk_tick ih
    rw [show b + 4 * (k : Int) + 4 = b + 4 * ((k + 1 : Nat) : Int) by omega] at this
    exact this
theorem enc_shift0 (n : Net) (j : Nat) (hj : j < 1816) : enc n j = enc (un n (-2) (lShift (n (-2)) 199)) j := by
  unfold enc
  by_cases h1 : j < 8
  · rw [if_pos h1, if_pos h1, un_n (by decide)]
  · rw [if_neg h1, if_neg h1]
    by_cases h2 : j < 1616
    · rw [if_pos h2, if_pos h2, un_n (by omega)]
    · rw [if_neg h2, if_neg h2, un_s]
      unfold lShift
      rw [if_neg (by omega)]
theorem enc_log_eq {n : Net} {l v wait k : Int} (hk : k = 4) (j : Nat) (hj : j < 1816) : enc (un (un n (-2) (ub (ub (ub (ub (ub (lShift (n (-2)) k) 0 (n (-1) 1)) 1 l) 2 (n (-1) 2)) 3 v) 4 wait)) (-1) (ub (n (-1)) 7 (min 40 (n (-1) 7 + 1)))) j = enc (nLog n l v wait) j := by
  unfold nLog enc
  by_cases h1 : j < 8
  · rw [if_pos h1, if_pos h1, un_s, un_s]
  · rw [if_neg h1, if_neg h1]
    by_cases h2 : j < 1616
    · rw [if_pos h2, if_pos h2, un_n (by omega), un_n (by omega), un_n (by omega), un_n (by omega)]
    · rw [if_neg h2, if_neg h2, un_n (show ¬ (-2 : Int) = -1 by decide), un_s, un_n (show ¬ (-2 : Int) = -1 by decide), un_s]
      exact lLog_eq hk (n (-2)) (fun _ _ _ => rfl) _ (by omega) (by omega)
