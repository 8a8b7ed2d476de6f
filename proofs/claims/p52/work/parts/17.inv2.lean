theorem LineOk_v {b lines time l : Int} {B : Blk} (h : LineOk b lines time l B) {j : Int} (h0 : 0 ≤ j) (h1 : j < B 6) : 1 ≤ B (28 + j) ∧ B (28 + j) ≤ 127 := h.2.2.2.2.2.2.2.2.2.2.2.2.2.2.2.2.1 j h0 h1
theorem LineOk_t {b lines time l : Int} {B : Blk} (h : LineOk b lines time l B) {j : Int} (h0 : 0 ≤ j) (h1 : j < B 6) : 0 ≤ B (88 + j) ∧ B (88 + j) ≤ time := h.2.2.2.2.2.2.2.2.2.2.2.2.2.2.2.2.2.1 j h0 h1
theorem LineOk_o {b lines time l : Int} {B : Blk} (h : LineOk b lines time l B) {j : Int} (h0 : 0 ≤ j) (h1 : j < B 7) : 1 ≤ B (148 + j) ∧ B (148 + j) ≤ 127 := h.2.2.2.2.2.2.2.2.2.2.2.2.2.2.2.2.2.2.1 j h0 h1
theorem LineOk_w {b lines time l : Int} {B : Blk} (h : LineOk b lines time l B) {j : Int} (h0 : 0 ≤ j) (h1 : j < B 8) : 1 ≤ B (208 + j) ∧ B (208 + j) ≤ 127 := h.2.2.2.2.2.2.2.2.2.2.2.2.2.2.2.2.2.2.2 j h0 h1
theorem nSend2_h {n : Net} {l w : Int} (hl : 0 ≤ l) (h : ¬ w = 3 ∧ ¬ w = 4 ∧ ¬ w = 6 ∧ ¬ w = 7) : nSend2 n l (-1) w = n (-1) w := by
  unfold nSend2
  rw [un_s, ub_n h.1, ub_n h.2.2.1, ub_n h.2.1, nSend1_h hl h.2.2.2]
theorem nSend2_6 (n : Net) (l : Int) : nSend2 n l (-1) 6 = 1 := by
  unfold nSend2
  rw [un_s, ub_n (by decide), ub_s]
theorem nSend2_3 (n : Net) (l : Int) : nSend2 n l (-1) 3 = n (-1) 3 - 1 := by
  unfold nSend2
  rw [un_s, ub_s]
theorem nSend2_12 {b : Int} {n : Net} {l t : Int} (h : NetOk b n) (hl : 0 ≤ l ∧ l < n (-1) 0) (p6 : 0 < n l 6) (ht : 0 ≤ t ∧ t < n (-1) 0) : 0 ≤ nSend2 n l t 12 ∧ nSend2 n l t 12 ≤ 99 := by
  have h2 := (NetOk_send2 h hl p6 (x := 1) (by decide)).2.2 t ht.1 (by rw [un_s, ub_n (by decide), nSend2_h hl.1 (by decide)]; exact ht.2)
  rw [un_n (show ¬ t = -1 by omega)] at h2
  unfold LineOk at h2
  omega
theorem nSend_0 {n : Net} {l : Int} (hl : 0 ≤ l) : nSend n l (-1) 0 = n (-1) 0 := by
  unfold nSend
  split
  · rw [nPass_h (by decide), nSend2_h hl (by decide)]
  · rw [nSend2_h hl (by decide)]
theorem nLook_0 {b : Int} : ∀ (k : Nat) {n : Net}, NetOk b n → (nLook k n).1 (-1) 0 = n (-1) 0 := by
  intro k
  induction k with
  | zero => intro n _; rfl
  | succ k ih =>
    intro n h
    have hs := nSender_ok h
    unfold nLook
    split
    · exact nSend_0 hs.1
    · rw [ih (NetOk_pass h), nPass_h (by decide)]
def nHeldK (n : Net) (k : Int) : Net := fun l => if 0 ≤ l ∧ l < k then ub (n l) 9 (max 0 (n l 9 - 1)) else n l
def nDelK (n : Net) (k : Int) : Net := fun l => if 0 ≤ l ∧ l < k then bDeliver (n l) else n l
theorem nHeldK_o {n : Net} {k l : Int} (h : ¬ (0 ≤ l ∧ l < k)) : nHeldK n k l = n l := if_neg h
theorem nDelK_o {n : Net} {k l : Int} (h : ¬ (0 ≤ l ∧ l < k)) : nDelK n k l = n l := if_neg h
theorem nHeldK_s (n : Net) {k : Int} (h : 0 ≤ k) : un (nHeldK n k) k (ub (n k) 9 (max 0 (n k 9 - 1))) = nHeldK n (k + 1) := by
  funext l
  unfold un nHeldK
  by_cases e : l = k
  · subst e; rw [if_pos rfl, if_pos (by omega)]
  · rw [if_neg e]
    by_cases c : 0 ≤ l ∧ l < k
    · rw [if_pos c, if_pos (by omega)]
    · rw [if_neg c, if_neg (by omega)]
theorem nDelK_s (n : Net) {k : Int} (h : 0 ≤ k) : un (nDelK n k) k (bDeliver (n k)) = nDelK n (k + 1) := by
  funext l
  unfold un nDelK
  by_cases e : l = k
  · subst e; rw [if_pos rfl, if_pos (by omega)]
  · rw [if_neg e]
    by_cases c : 0 ≤ l ∧ l < k
    · rw [if_pos c, if_pos (by omega)]
    · rw [if_neg c, if_neg (by omega)]
theorem nHeldK_0 (n : Net) : nHeldK n 0 = n := by
  funext l; exact if_neg (by omega)
theorem nDelK_0 (n : Net) : nDelK n 0 = n := by
  funext l; exact if_neg (by omega)
def nTick0 (n : Net) : Net := if (nLooks n).2 = -1 then nIdle (nLooks n).1 else (nLooks n).1
theorem nTime_0 (n : Net) {w : Int} (h : ¬ w = 1) : nTime n (-1) w = n (-1) w := by
  unfold nTime; rw [un_s, ub_n h]
theorem nHeld_h (n : Net) (w : Int) : nHeld n (-1) w = n (-1) w := by
  unfold nHeld; rw [if_neg (by omega)]
theorem NetOk_tick0 {b : Int} {n : Net} (h : NetOk b n) : NetOk (b + 3) (nTick0 n) ∧ nTick0 n (-1) 0 = n (-1) 0 := by
  have hH := h.1
  unfold HeadOk at hH
  have h1 := NetOk_time (NetOk_mono h (show b ≤ b + 1 by omega)) (by omega)
  have h2 := (nLook_ok (n (-1) 0).toNat (NetOk_held h1)).1
  have h0 := nLook_0 (n (-1) 0).toNat (NetOk_held h1)
  rw [nHeld_h, nTime_0 _ (by decide)] at h0
  unfold nTick0 nLooks
  split
  · have := NetOk_idle h2
    rw [show b + 1 + 1 + 1 = b + 3 by omega] at this
    refine ⟨this, ?_⟩
    unfold nIdle
    rw [un_s, ub_n (by decide)]
    exact h0
  · exact ⟨NetOk_mono h2 (by omega), h0⟩
theorem nTick_K {b : Int} {n : Net} (h : NetOk b n) : nTick n = nDelK (nTick0 n) (n (-1) 0) := by
  have e := (NetOk_tick0 h).2
  rw [← e]
  rfl
theorem nHeld_K (n : Net) : nHeldK (nTime n) (n (-1) 0) = nHeld (nTime n) := by
  rw [← nTime_0 n (show ¬ (0 : Int) = 1 by decide)]
  rfl
