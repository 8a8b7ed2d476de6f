theorem LineOk_in {b lines time l v : Int} {B : Blk} (h : LineOk b lines time l B) (h6 : B 6 < B 1) (hv : 1 ≤ v ∧ v ≤ 127) (ht : 0 ≤ time) : LineOk (b + 1) lines time l (bIn B v time) := by
  unfold LineOk at h
  obtain ⟨h0, h1, h2, h3, h4, h5, h7, h8, h9, ha, hb, hc, hd, he, ⟨hf, hq⟩, hg, hi, hj, hk, hm⟩ := h
  have c : ∀ w, ¬ w = 16 → ¬ w = 6 → ¬ w = 28 + B 6 → ¬ w = 88 + B 6 → bIn B v time w = B w := fun w a d e f => by
    unfold bIn inc
    rw [ub_n d, ub_n f, ub_n e, ub_n a]
  have e6 : bIn B v time 6 = B 6 + 1 := ub_s _ _ _
  have e16 : bIn B v time 16 = B 16 + 1 := by
    unfold bIn inc
    rw [ub_n (by decide), ub_n (by omega), ub_n (by omega), ub_s]
  have ev : bIn B v time (28 + B 6) = v := by
    unfold bIn inc
    rw [ub_n (by omega), ub_n (by omega), ub_s]
  have et : bIn B v time (88 + B 6) = time := by
    unfold bIn inc
    rw [ub_n (by omega), ub_s]
  have c' : ∀ w, w < 6 ∨ 6 < w ∧ w < 16 → bIn B v time w = B w := fun w a => c w (by omega) (by omega) (by omega) (by omega)
  unfold LineOk
  rw [c' 0 (by decide), c' 1 (by decide), c' 2 (by decide), c' 3 (by decide), c' 4 (by decide), c' 5 (by decide), c' 7 (by decide), c' 8 (by decide), c' 9 (by decide), c' 10 (by decide), c' 11 (by decide), c' 12 (by decide), c' 13 (by decide), c' 14 (by decide), c' 15 (by decide), e6]
  refine ⟨h0, h1, h2, h3, h4, by omega, h7, h8, h9, ha, hb, hc, hd, he, ⟨hf, ?_⟩, fun k u w => ?_, fun j u w => ?_, fun j u w => ?_, fun j u w => ?_, fun j u w => ?_⟩
  · rw [show (B 6 + 1).toNat = (B 6).toNat + 1 by omega]
    unfold qs
    rw [show (((B 6).toNat : Nat) : Int) = B 6 by omega, et, qs_congr (g := fun j => time - B (88 + j)) _ (fun j u w => by rw [c _ (by omega) (by omega) (by omega) (by omega)])]
    omega
  · by_cases e : k = 16
    · subst e
      rw [e16]
      have := hg 16 (by decide) (by decide)
      omega
    · rw [c k e (by omega) (by omega) (by omega)]
      have := hg k u w
      omega
  · by_cases e : j = B 6
    · subst e; rw [ev]; exact hv
    · rw [c _ (by omega) (by omega) (by omega) (by omega)]
      exact hi j u (by omega)
  · by_cases e : j = B 6
    · subst e; rw [et]; exact ⟨ht, Int.le_refl _⟩
    · rw [c _ (by omega) (by omega) (by omega) (by omega)]
      exact hj j u (by omega)
  · rw [c _ (by omega) (by omega) (by omega) (by omega)]
    exact hk j u w
  · rw [c _ (by omega) (by omega) (by omega) (by omega)]
    exact hm j u w
/-- a byte more behind one of the two queues that hold no times -/
theorem LineOk_put {b lines time l v q s : Int} {B : Blk} (h : LineOk b lines time l B) (hq : q = 148 ∧ s = 7 ∧ B 7 < B 1 ∨ q = 208 ∧ s = 8 ∧ B 8 < 60) (hv : 1 ≤ v ∧ v ≤ 127) : LineOk b lines time l (ub (ub B (q + B s) v) s (B s + 1)) := by
  unfold LineOk at h
  obtain ⟨h0, h1, h2, h3, h4, h5, h7, h8, h9, ha, hb, hc, hd, he, ⟨hf, hs⟩, hg, hi, hj, hk, hm⟩ := h
  have c : ∀ w, ¬ w = s → ¬ w = q + B s → ub (ub B (q + B s) v) s (B s + 1) w = B w := fun w a d => by rw [ub_n a, ub_n d]
  have es : ub (ub B (q + B s) v) s (B s + 1) s = B s + 1 := ub_s _ _ _
  have ev : ub (ub B (q + B s) v) s (B s + 1) (q + B s) = v := by
    rw [ub_n (by rcases hq with ⟨rfl, rfl, _⟩ | ⟨rfl, rfl, _⟩ <;> omega), ub_s]
  generalize eC : ub (ub B (q + B s) v) s (B s + 1) = C at c es ev ⊢
  have hqs : qs (fun j => time - C (88 + j)) (B 6).toNat = qs (fun j => time - B (88 + j)) (B 6).toNat :=
    qs_congr _ (fun j u w => by rw [c _ (by rcases hq with ⟨rfl, rfl, _⟩ | ⟨rfl, rfl, _⟩ <;> omega) (by rcases hq with ⟨rfl, rfl, _⟩ | ⟨rfl, rfl, _⟩ <;> omega)])
  rcases hq with ⟨rfl, rfl, hq⟩ | ⟨rfl, rfl, hq⟩
  · unfold LineOk
    have c' : ∀ w, w < 7 ∨ 7 < w ∧ w < 148 → C w = B w := fun w a => c w (by omega) (by omega)
    rw [c' 0 (by decide), c' 1 (by decide), c' 2 (by decide), c' 3 (by decide), c' 4 (by decide), c' 5 (by decide), c' 6 (by decide), c' 8 (by decide), c' 9 (by decide), c' 10 (by decide), c' 11 (by decide), c' 12 (by decide), c' 13 (by decide), c' 14 (by decide), c' 15 (by decide), es, hqs]
    refine ⟨h0, h1, h2, h3, h4, h5, by omega, h8, h9, ha, hb, hc, hd, he, ⟨hf, hs⟩, fun k u w => by rw [c' k (by omega)]; exact hg k u w, fun j u w => by rw [c' _ (by omega)]; exact hi j u w, fun j u w => by rw [c' _ (by omega)]; exact hj j u w, fun j u w => ?_, fun j u w => by rw [c _ (by omega) (by omega)]; exact hm j u w⟩
    by_cases e : j = B 7
    · subst e; rw [ev]; exact hv
    · rw [c _ (by omega) (by omega)]
      exact hk j u (by omega)
  · unfold LineOk
    have c' : ∀ w, w < 8 ∨ 8 < w ∧ w < 208 → C w = B w := fun w a => c w (by omega) (by omega)
    rw [c' 0 (by decide), c' 1 (by decide), c' 2 (by decide), c' 3 (by decide), c' 4 (by decide), c' 5 (by decide), c' 6 (by decide), c' 7 (by decide), c' 9 (by decide), c' 10 (by decide), c' 11 (by decide), c' 12 (by decide), c' 13 (by decide), c' 14 (by decide), c' 15 (by decide), es, hqs]
    refine ⟨h0, h1, h2, h3, h4, h5, h7, by omega, h9, ha, hb, hc, hd, he, ⟨hf, hs⟩, fun k u w => by rw [c' k (by omega)]; exact hg k u w, fun j u w => by rw [c' _ (by omega)]; exact hi j u w, fun j u w => by rw [c' _ (by omega)]; exact hj j u w, fun j u w => by rw [c' _ (by omega)]; exact hk j u w, fun j u w => ?_⟩
    by_cases e : j = B 8
    · subst e; rw [ev]; exact hv
    · rw [c _ (by omega) (by omega)]
      exact hm j u (by omega)
theorem LineOk_inc1 {b lines time l : Int} {B : Blk} {k : Int} (h : LineOk b lines time l B) (hk : 16 ≤ k ∧ k ≤ 27) : LineOk (b + 1) lines time l (inc B k) := by
  have := LineOk_c h hk.1 hk.2
  exact LineOk_inc (LineOk_mono h (by omega)) hk 1 (by omega)
theorem LineOk_offer {b lines time l v : Int} {B : Blk} (h : LineOk b lines time l B) (hv : 1 ≤ v ∧ v ≤ 127) : LineOk (b + 2) lines time l (bOffer B v) := by
  have h1 := LineOk_inc1 h (k := 20) (by decide)
  have hB := h
  unfold LineOk at hB
  unfold bOffer
  split
  · have h2 := LineOk_inc1 h1 (k := 22) (by decide)
    rw [show b + 1 + 1 = b + 2 by omega] at h2
    exact h2
  · have e7 : inc B 20 7 = B 7 := ub_n (by decide)
    have e1 : inc B 20 1 = B 1 := ub_n (by decide)
    have h2 := LineOk_put (v := v) (q := 148) (s := 7) h1 (Or.inl ⟨rfl, rfl, by omega⟩) hv
    rw [e7] at h2
    exact LineOk_mono h2 (by omega)
theorem LineOk_offers {lines time l : Int} {f : Int → Int} {B : Blk} : ∀ (k : Nat) {b : Int}, LineOk b lines time l B → (∀ j : Int, 0 ≤ j → j < k → 1 ≤ f j ∧ f j ≤ 127) → LineOk (b + 2 * k) lines time l (bOffers f k B) := by
  intro k
  induction k with
  | zero => intro b h _; rw [show b + 2 * ((0 : Nat) : Int) = b by omega]; exact h
  | succ k ih =>
    intro b h hf
    have h1 := ih h (fun j u w => hf j u (by omega))
    have h2 := LineOk_offer h1 (hf k (by omega) (by omega))
    rw [show b + 2 * (k : Int) + 2 = b + 2 * ((k + 1 : Nat) : Int) by omega] at h2
    exact h2
theorem LineOk_whole {b lines time l v : Int} {B : Blk} (h : LineOk b lines time l B) (hv : 1 ≤ v ∧ v ≤ 127) : LineOk (b + 120) lines time l (bWhole B v) := by
  have h1 : LineOk b lines time l (bWhole1 B v) := by
    unfold bWhole1
    split
    · next c => exact LineOk_put (q := 208) (s := 8) h (Or.inr ⟨rfl, rfl, c⟩) hv
    · exact h
  have hB := h1
  unfold LineOk at hB
  unfold bWhole
  split
  · have h2 := LineOk_offers (f := fun k => bWhole1 B v (208 + k)) (bWhole1 B v 8).toNat h1 (fun j u w => LineOk_w h1 u (by omega))
    exact LineOk_ub (LineOk_mono h2 (by omega)) (by omega)
  · exact LineOk_mono h1 (by omega)
theorem LineOk_type {b lines time l v : Int} {B : Blk} (h : LineOk b lines time l B) (hv : 1 ≤ v ∧ v ≤ 127) (ht : 0 ≤ time) : LineOk (b + 122) lines time l (bType B v time) := by
  have hB := h
  unfold LineOk at hB
  unfold bType
  split
  · have h1 := LineOk_inc1 (LineOk_inc1 h (k := 16) (by decide)) (k := 18) (by decide)
    exact LineOk_mono h1 (by omega)
  · have h1 := LineOk_in h (by omega) hv ht
    have h2 := LineOk_stop (LineOk_mono h1 (show b + 1 ≤ b + 2 by omega)) (by have := LineOk_c h1 (k := 24) (by decide) (by decide); omega)
    split
    · exact LineOk_mono (LineOk_offer h2 hv) (by omega)
    · split
      · exact LineOk_mono (LineOk_whole h2 hv) (by omega)
      · exact LineOk_mono h2 (by omega)
theorem bOffer_17 {B : Blk} {v : Int} (h7 : 0 ≤ B 7) : bOffer B v 17 = B 17 := by
  unfold bOffer inc
  split
  · rw [ub_n (by decide), ub_n (by decide)]
  · rw [ub_n (by decide), ub_n (by omega), ub_n (by decide)]
theorem bWhole1_n {B : Blk} {v w : Int} (h8 : 0 ≤ B 8 ∧ B 8 ≤ 60) (hw : w < 8 ∨ 8 < w ∧ w < 208) : bWhole1 B v w = B w := by
  unfold bWhole1
  split
  · rw [ub_n (by omega), ub_n (by omega)]
  · rfl
theorem bWhole_17 {B : Blk} {v : Int} (h : 0 ≤ B 7 ∧ B 7 ≤ B 1 ∧ B 1 ≤ 60) (h8 : 0 ≤ B 8 ∧ B 8 ≤ 60) : bWhole B v 17 = B 17 := by
  have e1 := bWhole1_n (v := v) h8 (w := 1) (by decide)
  have e7 := bWhole1_n (v := v) h8 (w := 7) (by decide)
  have e17 := bWhole1_n (v := v) h8 (w := 17) (by decide)
  unfold bWhole
  split
  · rw [ub_n (by decide), (bOffers_inv (B := bWhole1 B v) (by rw [e1, e7]; exact h) _).2 17 (by unfold okW; omega), e17]
  · exact e17
theorem bIn_n {B : Blk} {v time w : Int} (h6 : 0 ≤ B 6) (hw : w < 6 ∨ 6 < w ∧ w < 16 ∨ 16 < w ∧ w < 28) : bIn B v time w = B w := by
  unfold bIn inc
  rw [ub_n (by omega), ub_n (by omega), ub_n (by omega), ub_n (by omega)]
theorem bType_17 {b lines time l v : Int} {B : Blk} (h : LineOk b lines time l B) : bType B v time 17 = B 17 := by
  unfold LineOk at h
  have e : ∀ w, ¬ w = 10 → ¬ w = 24 → (w < 6 ∨ 6 < w ∧ w < 16 ∨ 16 < w ∧ w < 28) → bStop (bIn B v time) w = B w := fun w a c d => by
    rw [bStop_n a c, bIn_n (by omega) d]
  unfold bType
  split
  · unfold inc; rw [ub_n (by decide), ub_n (by decide)]
  · split
    · rw [bOffer_17 (by rw [e 7 (by decide) (by decide) (by decide)]; omega), e 17 (by decide) (by decide) (by decide)]
    · split
      · rw [bWhole_17 (by rw [e 7 (by decide) (by decide) (by decide), e 1 (by decide) (by decide) (by decide)]; omega) (by rw [e 8 (by decide) (by decide) (by decide)]; omega), e 17 (by decide) (by decide) (by decide)]
      · exact e 17 (by decide) (by decide) (by decide)
theorem NetOk_type {b : Int} {n : Net} {l v : Int} (h : NetOk b n) (hl : 0 ≤ l ∧ l < n (-1) 0) (hv : 1 ≤ v ∧ v ≤ 127) : NetOk (b + 122) (un n l (bType (n l) v (n (-1) 1))) := by
  have hH := h.1
  unfold HeadOk at hH
  exact NetOk_un (NetOk_mono h (by omega)) hl.1 (LineOk_type (h.2.2 l hl.1 hl.2) hv hH.2.1.1) (bType_17 (h.2.2 l hl.1 hl.2))
theorem NetOk_offer {b : Int} {n : Net} {l v : Int} (h : NetOk b n) (hl : 0 ≤ l ∧ l < n (-1) 0) (hv : 1 ≤ v ∧ v ≤ 127) : NetOk (b + 2) (un n l (bOffer (n l) v)) := by
  have hL := h.2.2 l hl.1 hl.2
  exact NetOk_un (NetOk_mono h (by omega)) hl.1 (LineOk_offer hL hv) (bOffer_17 (by unfold LineOk at hL; omega))
theorem nDrop_ok {b : Int} {n : Net} {l : Int} (h : NetOk b n) (hl : 0 ≤ l ∧ l < n (-1) 0) : ∀ k : Nat, NetOk (b + 126 * k) (nDrop l k n) ∧ nDrop l k n (-1) 0 = n (-1) 0 := by
  intro k
  induction k with
  | zero => exact ⟨by rw [show b + 126 * ((0 : Nat) : Int) = b by omega]; exact h, rfl⟩
  | succ k ih =>
    have h1 := NetOk_type (v := 127) ih.1 (by rw [ih.2]; exact hl) (by decide)
    have h2 := NetOk_tick h1
    rw [show b + 126 * (k : Int) + 122 + 4 = b + 126 * ((k + 1 : Nat) : Int) by omega] at h2
    refine ⟨h2, ?_⟩
    show nTick (un (nDrop l k n) l (bType (nDrop l k n l) 127 (nDrop l k n (-1) 1))) (-1) 0 = _
    rw [nTick_0 h1, un_n (by omega), ih.2]
/-- some bytes typed on a line, or offered to it -/
def nTypes (l v : Int) : Nat → Net → Net
  | 0, n => n
  | k + 1, n => un (nTypes l v k n) l (bType (nTypes l v k n l) v (nTypes l v k n (-1) 1))
def nOffers (l v : Int) : Nat → Net → Net
  | 0, n => n
  | k + 1, n => un (nOffers l v k n) l (bOffer (nOffers l v k n l) v)
theorem nTypes_ok {b : Int} {n : Net} {l v : Int} (h : NetOk b n) (hl : 0 ≤ l ∧ l < n (-1) 0) (hv : 1 ≤ v ∧ v ≤ 127) : ∀ k : Nat, NetOk (b + 122 * k) (nTypes l v k n) ∧ nTypes l v k n (-1) 0 = n (-1) 0 := by
  intro k
  induction k with
  | zero => exact ⟨by rw [show b + 122 * ((0 : Nat) : Int) = b by omega]; exact h, rfl⟩
  | succ k ih =>
    have h1 := NetOk_type (v := v) ih.1 (by rw [ih.2]; exact hl) hv
    rw [show b + 122 * (k : Int) + 122 = b + 122 * ((k + 1 : Nat) : Int) by omega] at h1
    refine ⟨h1, ?_⟩
    show un (nTypes l v k n) l _ (-1) 0 = _
    rw [un_n (by omega), ih.2]
theorem nOffers_ok {b : Int} {n : Net} {l v : Int} (h : NetOk b n) (hl : 0 ≤ l ∧ l < n (-1) 0) (hv : 1 ≤ v ∧ v ≤ 127) : ∀ k : Nat, NetOk (b + 2 * k) (nOffers l v k n) ∧ nOffers l v k n (-1) 0 = n (-1) 0 := by
  intro k
  induction k with
  | zero => exact ⟨by rw [show b + 2 * ((0 : Nat) : Int) = b by omega]; exact h, rfl⟩
  | succ k ih =>
    have h1 := NetOk_offer (v := v) ih.1 (by rw [ih.2]; exact hl) hv
    rw [show b + 2 * (k : Int) + 2 = b + 2 * ((k + 1 : Nat) : Int) by omega] at h1
    refine ⟨h1, ?_⟩
    show un (nOffers l v k n) l _ (-1) 0 = _
    rw [un_n (by omega), ih.2]
