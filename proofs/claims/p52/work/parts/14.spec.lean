/-! What the system does, in whole numbers: a line is a block of 268 numbers (the reference's own layout), a net is six such blocks, a head (-1) and a log (-2). -/
abbrev Blk : Type := Int → Int
abbrev Net : Type := Int → Int → Int
def ub (B : Blk) (w v : Int) : Blk := fun j => if j = w then v else B j
def un (N : Net) (l : Int) (B : Blk) : Net := fun j => if j = l then B else N j
theorem ub_s (B : Blk) (w v : Int) : ub B w v w = v := if_pos rfl
theorem ub_n {B : Blk} {w v j : Int} (h : ¬ j = w) : ub B w v j = B j := if_neg h
theorem un_s (N : Net) (l : Int) (B : Blk) : un N l B l = B := if_pos rfl
theorem un_n {N : Net} {l j : Int} {B : Blk} (h : ¬ j = l) : un N l B j = N j := if_neg h
theorem ub_lit (B : Blk) (w v j : Int) : ub B w v j = if j = w then v else B j := rfl
theorem un_lit (N : Net) (l : Int) (B : Blk) (j : Int) : un N l B j = if j = l then B else N j := rfl
theorem un_un (N : Net) (l : Int) (B B' : Blk) : un (un N l B) l B' = un N l B' := by
  funext j; unfold un; split <;> rfl
theorem un_id (N : Net) (l : Int) : un N l (N l) = N := by
  funext j; unfold un; split
  · next h => rw [h]
  · rfl
def inc (B : Blk) (w : Int) : Blk := ub B w (B w + 1)
/-- a net as one row of 1816 places -/
def enc (N : Net) (j : Nat) : Int := if j < 8 then N (-1) j else if j < 1616 then N ((j - 8) / 268 : Nat) ((j - 8) % 268 : Nat) else N (-2) ((j - 1616 : Nat))
def encU (N : Net) (j : Nat) (x : Int) : Net := if j < 8 then un N (-1) (ub (N (-1)) j x) else if j < 1616 then un N ((j - 8) / 268 : Nat) (ub (N ((j - 8) / 268 : Nat)) ((j - 8) % 268 : Nat) x) else un N (-2) (ub (N (-2)) ((j - 1616 : Nat)) x)
theorem enc_line (N : Net) {l w : Int} (hl : 0 ≤ l ∧ l < 6) (hw : 0 ≤ w ∧ w < 268) : enc N (8 + 268 * l + w).toNat = N l w := by
  obtain ⟨a, rfl⟩ := Int.eq_ofNat_of_zero_le hl.1
  obtain ⟨b, rfl⟩ := Int.eq_ofNat_of_zero_le hw.1
  have e : (8 + 268 * (a : Int) + (b : Int)).toNat = 8 + 268 * a + b := by omega
  rw [e]
  unfold enc
  rw [if_neg (by omega), if_pos (by omega)]
  have e1 : (8 + 268 * a + b - 8) / 268 = a := by omega
  have e2 : (8 + 268 * a + b - 8) % 268 = b := by omega
  rw [e1, e2]
theorem enc_head (N : Net) {w : Int} (hw : 0 ≤ w ∧ w < 8) : enc N w.toNat = N (-1) w := by
  obtain ⟨b, rfl⟩ := Int.eq_ofNat_of_zero_le hw.1
  show enc N b = _
  unfold enc
  rw [if_pos (by omega)]
theorem enc_log (N : Net) {w : Int} (hw : 0 ≤ w ∧ w < 200) : enc N (1616 + w).toNat = N (-2) w := by
  obtain ⟨b, rfl⟩ := Int.eq_ofNat_of_zero_le hw.1
  have e : (1616 + (b : Int)).toNat = 1616 + b := by omega
  rw [e]
  unfold enc
  rw [if_neg (by omega), if_neg (by omega)]
  have e1 : 1616 + b - 1616 = b := by omega
  rw [e1]
theorem encU_line (N : Net) {l w x : Int} (hl : 0 ≤ l ∧ l < 6) (hw : 0 ≤ w ∧ w < 268) : encU N (8 + 268 * l + w).toNat x = un N l (ub (N l) w x) := by
  obtain ⟨a, rfl⟩ := Int.eq_ofNat_of_zero_le hl.1
  obtain ⟨b, rfl⟩ := Int.eq_ofNat_of_zero_le hw.1
  have e : (8 + 268 * (a : Int) + (b : Int)).toNat = 8 + 268 * a + b := by omega
  rw [e]
  unfold encU
  rw [if_neg (by omega), if_pos (by omega)]
  have e1 : (8 + 268 * a + b - 8) / 268 = a := by omega
  have e2 : (8 + 268 * a + b - 8) % 268 = b := by omega
  rw [e1, e2]
theorem encU_head (N : Net) {w x : Int} (hw : 0 ≤ w ∧ w < 8) : encU N w.toNat x = un N (-1) (ub (N (-1)) w x) := by
  obtain ⟨b, rfl⟩ := Int.eq_ofNat_of_zero_le hw.1
  show encU N b x = _
  unfold encU
  rw [if_pos (by omega)]
theorem enc_encU (N : Net) {j : Nat} (x : Int) (hj : j < 1816) (i : Nat) (hi : i < 1816) : enc (encU N j x) i = up (enc N) j x i := by
  unfold up enc encU
  by_cases h1 : j < 8
  · rw [if_pos h1]
    by_cases h2 : i < 8
    · rw [if_pos h2, if_pos h2, un_s]
      by_cases h3 : i = j
      · subst h3; rw [ub_s, if_pos rfl]
      · rw [if_neg h3, ub_n (by omega)]
    · rw [if_neg h2, if_neg h2, if_neg (show ¬ i = j by omega)]
      by_cases h3 : i < 1616
      · rw [if_pos h3, if_pos h3, un_n (by omega)]
      · rw [if_neg h3, if_neg h3, un_n (by omega)]
  · rw [if_neg h1]
    by_cases h4 : j < 1616
    · rw [if_pos h4]
      by_cases h2 : i < 8
      · rw [if_pos h2, if_pos h2, un_n (by omega), if_neg (show ¬ i = j by omega)]
      · rw [if_neg h2, if_neg h2]
        by_cases h3 : i < 1616
        · rw [if_pos h3, if_pos h3]
          by_cases h5 : (i - 8) / 268 = (j - 8) / 268
          · rw [h5, un_s]
            by_cases h6 : i = j
            · subst h6; rw [ub_s, if_pos rfl]
            · rw [if_neg h6, ub_n (by omega)]
          · rw [un_n (by omega), if_neg (show ¬ i = j from fun z => h5 (by rw [z]))]
        · rw [if_neg h3, if_neg h3, un_n (by omega), if_neg (show ¬ i = j by omega)]
    · rw [if_neg h4]
      by_cases h2 : i < 8
      · rw [if_pos h2, if_pos h2, un_n (by omega), if_neg (show ¬ i = j by omega)]
      · rw [if_neg h2, if_neg h2]
        by_cases h3 : i < 1616
        · rw [if_pos h3, if_pos h3, un_n (by omega), if_neg (show ¬ i = j by omega)]
        · rw [if_neg h3, if_neg h3, un_s]
          by_cases h6 : i = j
          · subst h6; rw [ub_s, if_pos rfl]
          · rw [if_neg h6, ub_n (by omega)]
/-! ### what the calls do -/
def bStop (B : Blk) : Blk := if B 3 ≤ B 6 ∧ B 10 = 0 then inc (ub B 10 1) 24 else if B 6 ≤ B 2 then ub B 10 0 else B
def bOffer (B : Blk) (v : Int) : Blk := if 0 < B 9 ∨ B 7 = B 1 then inc (inc B 20) 22 else ub (ub (inc B 20) (148 + B 7) v) 7 (B 7 + 1)
def bOffers (f : Int → Int) : Nat → Blk → Blk
  | 0, B => B
  | k + 1, B => bOffer (bOffers f k B) (f k)
def bWhole1 (B : Blk) (v : Int) : Blk := if B 8 < 60 then ub (ub B (208 + B 8) v) 8 (B 8 + 1) else B
def bWhole (B : Blk) (v : Int) : Blk := if v = 13 then ub (bOffers (fun k => bWhole1 B v (208 + k)) (bWhole1 B v 8).toNat (bWhole1 B v)) 8 0 else bWhole1 B v
def bIn (B : Blk) (v time : Int) : Blk := ub (ub (ub (inc B 16) (28 + B 6) v) (88 + B 6) time) 6 (B 6 + 1)
def bType (B : Blk) (v time : Int) : Blk := if 0 < B 9 ∨ B 6 = B 1 then inc (inc B 16) 18 else if B 5 = 1 then bOffer (bStop (bIn B v time)) v else if B 5 = 2 then bWhole (bStop (bIn B v time)) v else bStop (bIn B v time)
def bDrop (B : Blk) (q s : Int) : Blk := fun w => if w = s then B s - 1 else if q ≤ w ∧ w < q + B s - 1 then B (w + 1) else B w
def nSender (n : Net) : Int := if 0 < n (n (-1) 2) 12 then n (n (-1) 2) 13 else n (-1) 2
def nPass0 (n : Net) : Net := if 0 < n (n (-1) 2) 12 ∧ n (-1) 6 = 1 then un n (n (-1) 2) (ub (n (n (-1) 2)) 12 (n (n (-1) 2) 12 - 1)) else n
def nNext (n : Net) : Int := (n (-1) 2 + 1) % n (-1) 0
def nPass (n : Net) : Net := un (nPass0 n) (-1) (ub (ub (ub (n (-1)) 2 (nNext n)) 3 (n (nNext n) 4)) 6 0)
def lLog (n : Net) (l v wait : Int) : Blk := fun w => if w = 0 then n (-1) 1 else if w = 1 then l else if w = 2 then n (-1) 2 else if w = 3 then v else if w = 4 then wait else n (-2) (w - 5)
def nLog (n : Net) (l v wait : Int) : Net := un (un n (-2) (lLog n l v wait)) (-1) (ub (n (-1)) 7 (min 40 (n (-1) 7 + 1)))
def bSend0 (B : Blk) : Blk := bDrop (ub (bDrop B 88 6) 6 (B 6)) 28 6
def bSend (B : Blk) (e wait : Int) : Blk :=
  let C := inc (bStop (bSend0 B)) 17
  ub (ub (ub C 26 (C 26 + e)) 27 (max (C 27) wait)) 15 (C 15 + wait)
def nWait (n : Net) (l : Int) : Int := n (-1) 1 - n l 88
def nSend1 (n : Net) (l : Int) : Net := un (nLog n l (n l 28) (nWait n l)) l (bSend (n l) (if l = n (-1) 2 then 0 else 1) (nWait n l))
def nSend2 (n : Net) (l : Int) : Net := un (nSend1 n l) (-1) (ub (ub (ub (nSend1 n l (-1)) 4 (n (-1) 4 + 1)) 6 1) 3 (n (-1) 3 - 1))
def nSend (n : Net) (l : Int) : Net := if n (-1) 3 - 1 = 0 then nPass (nSend2 n l) else nSend2 n l
def nLook : Nat → Net → Net × Int
  | 0, n => (n, -1)
  | k + 1, n => if ¬ 0 < n (nSender n) 9 ∧ 0 < n (nSender n) 6 then (nSend n (nSender n), nSender n) else nLook k (nPass n)
def bDeliver (B : Blk) : Blk := if 0 < B 9 ∨ B 11 = 1 ∨ B 7 = 0 then B else inc (bDrop (ub B 14 (B 148)) 148 7) 21
def nHeld (n : Net) : Net := fun l => if 0 ≤ l ∧ l < n (-1) 0 then ub (n l) 9 (max 0 (n l 9 - 1)) else n l
def nDeliver (n : Net) : Net := fun l => if 0 ≤ l ∧ l < n (-1) 0 then bDeliver (n l) else n l
def nTime (n : Net) : Net := un n (-1) (ub (n (-1)) 1 (n (-1) 1 + 1))
def nLooks (n : Net) : Net × Int := nLook (n (-1) 0).toNat (nHeld (nTime n))
def nIdle (n : Net) : Net := un n (-1) (ub (n (-1)) 5 (n (-1) 5 + 1))
def nTick (n : Net) : Net := nDeliver (if (nLooks n).2 = -1 then nIdle (nLooks n).1 else (nLooks n).1)
def nTicks : Nat → Net → Net
  | 0, n => n
  | k + 1, n => nTick (nTicks k n)
def bBreak0 (B : Blk) (many : Int) : Blk := ub (ub (ub (ub (inc (ub (ub B 19 (B 19 + B 6)) 23 (B 23 + B 7)) 25) 6 0) 7 0) 8 0) 9 many
def bBreak (B : Blk) (many : Int) : Blk := bStop (bBreak0 B many)
def bLend (B : Blk) (other turns : Int) : Blk := ub (ub B 13 other) 12 turns
/-- the sum of f over 0 .. k - 1 -/
def qs (f : Int → Int) : Nat → Int
  | 0 => 0
  | k + 1 => qs f k + f k
/-! ### what always holds -/
def LineOk (b lines time l : Int) (B : Blk) : Prop :=
  (0 ≤ B 0 ∧ B 0 < 387420489) ∧ (4 ≤ B 1 ∧ B 1 ≤ 60) ∧ (0 ≤ B 2 ∧ B 2 < B 3 ∧ B 3 ≤ B 1) ∧ (1 ≤ B 4 ∧ B 4 ≤ 9) ∧ (0 ≤ B 5 ∧ B 5 ≤ 2) ∧ (0 ≤ B 6 ∧ B 6 ≤ B 1) ∧ (0 ≤ B 7 ∧ B 7 ≤ B 1) ∧ (0 ≤ B 8 ∧ B 8 ≤ 60) ∧ (0 ≤ B 9 ∧ B 9 ≤ 50) ∧ (B 10 = 0 ∨ B 10 = 1) ∧ (B 11 = 0 ∨ B 11 = 1) ∧ (0 ≤ B 12 ∧ B 12 ≤ 99) ∧ (0 ≤ B 13 ∧ B 13 ≤ 5 ∧ (0 < B 12 → B 13 < lines ∧ B 13 ≠ l)) ∧ (-1 ≤ B 14 ∧ B 14 ≤ 127) ∧
  (0 ≤ B 15 ∧ B 15 + qs (fun j => time - B (88 + j)) (B 6).toNat ≤ 60 * time) ∧ (∀ k, 16 ≤ k → k ≤ 27 → 0 ≤ B k ∧ B k ≤ b) ∧ (∀ j, 0 ≤ j → j < B 6 → 1 ≤ B (28 + j) ∧ B (28 + j) ≤ 127) ∧ (∀ j, 0 ≤ j → j < B 6 → 0 ≤ B (88 + j) ∧ B (88 + j) ≤ time) ∧ (∀ j, 0 ≤ j → j < B 7 → 1 ≤ B (148 + j) ∧ B (148 + j) ≤ 127) ∧ ∀ j, 0 ≤ j → j < B 8 → 1 ≤ B (208 + j) ∧ B (208 + j) ≤ 127
def LogOk (n : Net) : Prop := ∀ k, 0 ≤ k → k < n (-1) 7 → (0 ≤ n (-2) (5 * k) ∧ n (-2) (5 * k) ≤ n (-1) 1) ∧ (0 ≤ n (-2) (5 * k + 1) ∧ n (-2) (5 * k + 1) < n (-1) 0) ∧ (0 ≤ n (-2) (5 * k + 2) ∧ n (-2) (5 * k + 2) < n (-1) 0) ∧ (1 ≤ n (-2) (5 * k + 3) ∧ n (-2) (5 * k + 3) ≤ 127) ∧ (0 ≤ n (-2) (5 * k + 4) ∧ n (-2) (5 * k + 4) ≤ n (-1) 1)
def HeadOk (b : Int) (n : Net) : Prop := (1 ≤ n (-1) 0 ∧ n (-1) 0 ≤ 6) ∧ (0 ≤ n (-1) 1 ∧ n (-1) 1 ≤ b) ∧ (0 ≤ n (-1) 2 ∧ n (-1) 2 < n (-1) 0) ∧ (1 ≤ n (-1) 3 ∧ n (-1) 3 ≤ 9) ∧ (0 ≤ n (-1) 4 ∧ n (-1) 4 ≤ b) ∧ (0 ≤ n (-1) 5 ∧ n (-1) 5 ≤ b) ∧ (n (-1) 6 = 0 ∨ n (-1) 6 = 1) ∧ (0 ≤ n (-1) 7 ∧ n (-1) 7 ≤ 40) ∧ n (-1) 4 = qs (fun l => n l 17) (n (-1) 0).toNat
def NetOk (b : Int) (n : Net) : Prop := HeadOk b n ∧ LogOk n ∧ ∀ l, 0 ≤ l → l < n (-1) 0 → LineOk b (n (-1) 0) (n (-1) 1) l (n l)
def thr (p1 p2 p3 : Prop) [Decidable p1] [Decidable p2] [Decidable p3] : Int := if p1 then (if p2 then (if p3 then 0 else 3) else 2) else 1
/-- a queue of which the first k places have been drawn one ahead -/
def bShift (B : Blk) (q k : Int) : Blk := fun w => if q ≤ w ∧ w < q + k then B (w + 1) else B w
theorem bShift_0 (B : Blk) (q : Int) : bShift B q 0 = B := by
  funext w; unfold bShift; rw [if_neg (by omega)]
theorem bShift_out {B : Blk} {q k w : Int} (h : ¬ (q ≤ w ∧ w < q + k)) : bShift B q k w = B w := if_neg h
theorem bShift_step (B : Blk) (q k : Int) (h : 0 ≤ k) : ub (bShift B q k) (q + k) (bShift B q k (q + k + 1)) = bShift B q (k + 1) := by
  funext w
  unfold ub bShift
  by_cases h1 : w = q + k
  · rw [if_pos h1, if_neg (by omega), if_pos (by omega), h1]
  · rw [if_neg h1]
    by_cases h2 : q ≤ w ∧ w < q + k
    · rw [if_pos h2, if_pos (by omega)]
    · rw [if_neg h2, if_neg (by omega)]
theorem bDrop_shift {B : Blk} {q s k : Int} (h : ¬ (q ≤ s ∧ s < q + k)) (hk : k = B s - 1) : bDrop B q s = ub (bShift B q k) s (B s + -1) := by
  funext w
  unfold bDrop ub bShift
  by_cases h1 : w = s
  · rw [if_pos h1, if_pos h1]; omega
  · rw [if_neg h1, if_neg h1]
    by_cases h2 : q ≤ w ∧ w < q + k
    · rw [if_pos h2, if_pos (by omega)]
    · rw [if_neg h2, if_neg (by omega)]
theorem bStop_n {B : Blk} {w : Int} (h1 : ¬ w = 10) (h2 : ¬ w = 24) : bStop B w = B w := by
  unfold bStop
  split
  · unfold inc; rw [ub_n h2, ub_n h1]
  · split
    · rw [ub_n h1]
    · rfl
theorem bDrop_s (B : Blk) (q s : Int) : bDrop B q s s = B s - 1 := if_pos rfl
theorem bDrop_n {B : Blk} {q s w : Int} (h1 : ¬ w = s) (h2 : ¬ (q ≤ w ∧ w < q + B s - 1)) : bDrop B q s w = B w := by
  unfold bDrop; rw [if_neg h1, if_neg h2]
theorem unub_n {n : Net} {t k x t' w : Int} (h : ¬ w = k) : un n t (ub (n t) k x) t' w = n t' w := by
  unfold un
  split
  · next e => rw [ub_n h, e]
  · rfl
def okW (w : Int) : Prop := w ≠ 20 ∧ w ≠ 22 ∧ w ≠ 7 ∧ ¬ (148 ≤ w ∧ w < 208)
theorem bOffer_inv {B : Blk} {v : Int} (h : 0 ≤ B 7 ∧ B 7 ≤ B 1 ∧ B 1 ≤ 60) : (0 ≤ bOffer B v 7 ∧ bOffer B v 7 ≤ B 1) ∧ ∀ w, okW w → bOffer B v w = B w := by
  unfold bOffer
  by_cases c : 0 < B 9 ∨ B 7 = B 1
  · rw [if_pos c]
    refine ⟨?_, fun w hw => ?_⟩
    · unfold inc
      rw [ub_n (by decide), ub_n (by decide)]
      omega
    · unfold inc
      rw [ub_n hw.2.1, ub_n hw.1]
  · rw [if_neg c]
    refine ⟨?_, fun w hw => ?_⟩
    · rw [ub_s]
      omega
    · unfold okW at hw
      unfold inc
      rw [ub_n (by omega), ub_n (by omega), ub_n (by omega)]
theorem bOffers_inv {f : Int → Int} {B : Blk} (h : 0 ≤ B 7 ∧ B 7 ≤ B 1 ∧ B 1 ≤ 60) : ∀ k, (0 ≤ bOffers f k B 7 ∧ bOffers f k B 7 ≤ B 1) ∧ ∀ w, okW w → bOffers f k B w = B w := by
  intro k
  induction k with
  | zero => exact ⟨⟨h.1, h.2.1⟩, fun _ _ => rfl⟩
  | succ k ih =>
    have e1 : bOffers f k B 1 = B 1 := ih.2 1 (by unfold okW; omega)
    have h2 := bOffer_inv (B := bOffers f k B) (v := f k) ⟨ih.1.1, by rw [e1]; exact ih.1.2, by rw [e1]; exact h.2.2⟩
    rw [e1] at h2
    exact ⟨h2.1, fun w hw => (h2.2 w hw).trans (ih.2 w hw)⟩
theorem bOffers_s (f : Int → Int) (k : Nat) (B : Blk) : bOffers f (k + 1) B = bOffer (bOffers f k B) (f k) := rfl
theorem enc_logi (N : Net) {i : Int} (hi : 1616 ≤ i ∧ i < 1816) : enc N i.toNat = N (-2) (i - 1616) := by
  have h := enc_log N (w := i - 1616) ⟨by omega, by omega⟩
  rw [show 1616 + (i - 1616) = i by omega] at h
  exact h
theorem encU_logi (N : Net) {i x : Int} (hi : 1616 ≤ i ∧ i < 1816) : encU N i.toNat x = un N (-2) (ub (N (-2)) (i - 1616) x) := by
  obtain ⟨b, rfl⟩ := Int.eq_ofNat_of_zero_le (show 0 ≤ i by omega)
  show encU N b x = _
  unfold encU
  rw [if_neg (by omega), if_neg (by omega), show ((b - 1616 : Nat) : Int) = (b : Int) - 1616 by omega]
/-- the log's row of which all behind the place k has been moved by five -/
def lShift (B : Blk) (k : Int) : Blk := fun w => if k < w then B (w - 5) else B w
theorem lShift_step (B : Blk) (k : Int) : ub (lShift B k) k (lShift B k (k - 5)) = lShift B (k - 1) := by
  funext w
  unfold ub lShift
  by_cases h1 : w = k
  · rw [if_pos h1, if_neg (by omega), if_pos (by omega), h1]
  · rw [if_neg h1]
    by_cases h2 : k < w
    · rw [if_pos h2, if_pos (by omega)]
    · rw [if_neg h2, if_neg (by omega)]
theorem lLog_eq {n : Net} {l v wait k : Int} (hk : k = 4) (B : Blk) (hB : ∀ w, 0 ≤ w → w < 200 → B w = n (-2) w) : ∀ w, 0 ≤ w → w < 200 → ub (ub (ub (ub (ub (lShift B k) 0 (n (-1) 1)) 1 l) 2 (n (-1) 2)) 3 v) 4 wait w = lLog n l v wait w := by
  intro w h0 h1
  subst hk
  unfold lLog ub lShift
  by_cases e0 : w = 0
  · subst e0; rfl
  · by_cases e1 : w = 1
    · subst e1; rfl
    · by_cases e2 : w = 2
      · subst e2; rfl
      · by_cases e3 : w = 3
        · subst e3; rfl
        · by_cases e4 : w = 4
          · subst e4; rfl
          · simp only [e0, e1, e2, e3, e4, if_false]
            rw [if_pos (by omega)]
            exact hB _ (by omega) (by omega)
theorem nLog_n {n : Net} {l v wait j : Int} (h1 : ¬ j = -1) (h2 : ¬ j = -2) : nLog n l v wait j = n j := by
  unfold nLog; rw [un_n h1, un_n h2]
theorem nLog_h {n : Net} {l v wait w : Int} (h : ¬ w = 7) : nLog n l v wait (-1) w = n (-1) w := by
  unfold nLog; rw [un_s, ub_n h]
