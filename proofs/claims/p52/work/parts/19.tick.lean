theorem nPass_c {n : Net} {j w : Int} (hj : ¬ j = -1) (hw : ¬ w = 12) : nPass n j w = n j w := by
  unfold nPass
  rw [un_n hj]
  unfold nPass0
  split
  · exact unub_n hw
  · rfl
theorem nSend2_4 (n : Net) (l : Int) : nSend2 n l (-1) 4 = n (-1) 4 + 1 := by
  unfold nSend2
  rw [un_s, ub_n (by decide), ub_n (by decide), ub_s]
theorem nSend2_l {n : Net} {l w : Int} (hl : 0 ≤ l) : nSend2 n l (-2) w = lLog n l (n l 28) (nWait n l) w := by
  unfold nSend2 nSend1 nLog
  rw [un_n (by decide), un_n (by omega), un_n (by decide), un_s]
theorem nSend2_17 {n : Net} {l j : Int} (hl : 0 ≤ l) (h6 : 0 ≤ n l 6 ∧ n l 6 ≤ 60) (hj : 0 ≤ j) : nSend2 n l j 17 = n j 17 + if j = l then 1 else 0 := by
  unfold nSend2
  rw [un_n (by omega)]
  unfold nSend1
  by_cases e : j = l
  · subst e; rw [un_s, bSend_17 _ _ _ h6, if_pos rfl]
  · rw [un_n e, nLog_n (by omega) (by omega), if_neg e]; omega
theorem nSend_eff {n : Net} {l : Int} (hl : 0 ≤ l) (h6 : 0 ≤ n l 6 ∧ n l 6 ≤ 60) : nSend n l (-1) 4 = n (-1) 4 + 1 ∧ nSend n l (-2) 1 = l ∧ ∀ j, 0 ≤ j → nSend n l j 17 = n j 17 + if j = l then 1 else 0 := by
  have e1 : lLog n l (n l 28) (nWait n l) 1 = l := by
    unfold lLog
    rw [if_neg (by decide), if_pos rfl]
  unfold nSend
  split
  · exact ⟨by rw [nPass_h (by decide), nSend2_4], by rw [nPass_c (by decide) (by decide), nSend2_l hl, e1], fun j hj => by rw [nPass_c (by omega) (by decide), nSend2_17 hl h6 hj]⟩
  · exact ⟨nSend2_4 n l, by rw [nSend2_l hl, e1], fun j hj => nSend2_17 hl h6 hj⟩
theorem nLook_eff {b : Int} : ∀ (k : Nat) {n : Net}, NetOk b n → ((nLook k n).2 = -1 → (nLook k n).1 (-1) 4 = n (-1) 4 ∧ ∀ j, 0 ≤ j → (nLook k n).1 j 17 = n j 17) ∧ (¬ (nLook k n).2 = -1 → (nLook k n).1 (-1) 4 = n (-1) 4 + 1 ∧ (nLook k n).1 (-2) 1 = (nLook k n).2 ∧ ∀ j, 0 ≤ j → (nLook k n).1 j 17 = n j 17 + if j = (nLook k n).2 then 1 else 0) := by
  intro k
  induction k with
  | zero => intro n _; exact ⟨fun _ => ⟨rfl, fun _ _ => rfl⟩, fun h => absurd rfl h⟩
  | succ k ih =>
    intro n h
    have hs := nSender_ok h
    have hL := h.2.2 _ hs.1 hs.2
    unfold LineOk at hL
    by_cases c : ¬ 0 < n (nSender n) 9 ∧ 0 < n (nSender n) 6
    · rw [show nLook (k + 1) n = (nSend n (nSender n), nSender n) from if_pos c]
      exact ⟨fun z => by dsimp only at z; omega, fun _ => nSend_eff hs.1 (by omega)⟩
    · rw [show nLook (k + 1) n = nLook k (nPass n) from if_neg c]
      have h1 := ih (NetOk_pass h)
      rw [nPass_h (by decide)] at h1
      refine ⟨fun z => ⟨(h1.1 z).1, fun j hj => ?_⟩, fun z => ⟨(h1.2 z).1, (h1.2 z).2.1, fun j hj => ?_⟩⟩
      · rw [(h1.1 z).2 j hj, nPass_c (by omega) (by decide)]
      · rw [(h1.2 z).2.2 j hj, nPass_c (by omega) (by decide)]
theorem nTick_o {n : Net} {j w : Int} (h : ¬ 0 ≤ j) : nTick n j w = nTick0 n j w := by
  show nDeliver (nTick0 n) j w = _
  unfold nDeliver
  rw [if_neg (by omega)]
theorem nTick_17 {b : Int} {n : Net} (h : NetOk b n) {j : Int} : nTick n j 17 = nTick0 n j 17 := by
  show nDeliver (nTick0 n) j 17 = _
  unfold nDeliver
  split
  · next c =>
    have hL := (NetOk_tick0 h).1.2.2 j c.1 c.2
    unfold LineOk at hL
    exact bDeliver_17 (by omega)
  · rfl
theorem nHT (n : Net) {j w : Int} (h1 : ¬ (j = -1 ∧ w = 1)) (h9 : ¬ w = 9) : nHeld (nTime n) j w = n j w := by
  have e : nTime n j w = n j w := by
    unfold nTime
    by_cases c : j = -1
    · subst c; rw [un_s, ub_n (by omega)]
    · rw [un_n c]
  unfold nHeld
  split
  · rw [ub_n h9, e]
  · exact e
theorem nTick_eff {b : Int} {n : Net} (h : NetOk b n) : ((nLooks n).2 = -1 → nTick n (-1) 4 = n (-1) 4 ∧ ∀ j, 0 ≤ j → nTick n j 17 = n j 17) ∧ (¬ (nLooks n).2 = -1 → nTick n (-1) 4 = n (-1) 4 + 1 ∧ nTick n (-2) 1 = (nLooks n).2 ∧ ∀ j, 0 ≤ j → nTick n j 17 = n j 17 + if j = (nLooks n).2 then 1 else 0) := by
  have hH := h.1
  unfold HeadOk at hH
  have h1 := NetOk_held (NetOk_time (NetOk_mono h (show b ≤ b + 1 by omega)) (by omega))
  have h2 := nLook_eff (n (-1) 0).toNat h1
  have e : nLook (n (-1) 0).toNat (nHeld (nTime n)) = nLooks n := rfl
  rw [e] at h2
  rw [nHT n (by decide) (by decide)] at h2
  refine ⟨fun z => ⟨?_, fun j hj => ?_⟩, fun z => ⟨?_, ?_, fun j hj => ?_⟩⟩
  · rw [nTick_o (by decide)]
    unfold nTick0 nIdle
    rw [if_pos z, un_s, ub_n (by decide)]
    exact (h2.1 z).1
  · rw [nTick_17 h]
    unfold nTick0 nIdle
    rw [if_pos z, un_n (by omega), (h2.1 z).2 j hj, nHT n (by omega) (by decide)]
  · rw [nTick_o (by decide)]
    unfold nTick0
    rw [if_neg z]
    exact (h2.2 z).1
  · rw [nTick_o (by decide)]
    unfold nTick0
    rw [if_neg z]
    exact (h2.2 z).2.1
  · rw [nTick_17 h]
    unfold nTick0
    rw [if_neg z, (h2.2 z).2.2 j hj, nHT n (by omega) (by decide)]
theorem nTick_0 {b : Int} {n : Net} (h : NetOk b n) : nTick n (-1) 0 = n (-1) 0 := by
  rw [nTick_o (by decide)]
  exact (NetOk_tick0 h).2
theorem nTicks_0 {b : Int} {n : Net} (h : NetOk b n) : ∀ k : Nat, nTicks k n (-1) 0 = n (-1) 0
  | 0 => rfl
  | k + 1 => by
    show nTick (nTicks k n) (-1) 0 = _
    rw [nTick_0 (NetOk_ticks h k), nTicks_0 h k]
/-- who sends next, within some ticks -/
def aNext : Nat → Net → Int
  | 0, _ => -1
  | k + 1, n => if (nLooks n).2 = -1 then aNext k (nTick n) else (nLooks n).2
theorem aFull_r (n : Net) : ∀ k : Nat, 0 ≤ aFull n k ∧ aFull n k ≤ k := by
  intro k
  induction k with
  | zero => exact ⟨Int.le_refl _, Int.le_refl _⟩
  | succ k ih => unfold aFull; split <;> omega
theorem aBusy_r (n : Net) : ∀ k : Nat, 0 ≤ aBusy n k ∧ aBusy n k ≤ k := by
  intro k
  induction k with
  | zero => exact ⟨Int.le_refl _, Int.le_refl _⟩
  | succ k ih => unfold aBusy; split <;> omega
theorem aRun_r (n : Net) : ∀ k : Nat, (0 ≤ (aRun n k).1 ∧ (aRun n k).1 ≤ k) ∧ 0 ≤ (aRun n k).2 ∧ (aRun n k).2 ≤ k := by
  intro k
  induction k with
  | zero => exact ⟨⟨Int.le_refl _, Int.le_refl _⟩, Int.le_refl _, Int.le_refl _⟩
  | succ k ih =>
    unfold aRun
    dsimp only
    split <;> omega
theorem LineOk_lend {b lines time l o t : Int} {B : Blk} (h : LineOk b lines time l B) (ho : 0 ≤ o ∧ o < lines) (h6 : lines ≤ 6) (hl : ¬ o = l) (ht : 0 ≤ t ∧ t ≤ 99) : LineOk b lines time l (bLend B o t) := by
  unfold LineOk at h
  obtain ⟨h0, h1, h2, h3, h4, h5, h7, h8, h9, ha, hb, hc, hd, he, ⟨hf, hq⟩, hg, hi, hj, hk, hm⟩ := h
  have c : ∀ w, ¬ w = 12 → ¬ w = 13 → bLend B o t w = B w := fun w a d => by
    unfold bLend
    rw [ub_n a, ub_n d]
  have e12 : bLend B o t 12 = t := ub_s _ _ _
  have e13 : bLend B o t 13 = o := by
    unfold bLend
    rw [ub_n (by decide), ub_s]
  unfold LineOk
  rw [c 0 (by decide) (by decide), c 1 (by decide) (by decide), c 2 (by decide) (by decide), c 3 (by decide) (by decide), c 4 (by decide) (by decide), c 5 (by decide) (by decide), c 6 (by decide) (by decide), c 7 (by decide) (by decide), c 8 (by decide) (by decide), c 9 (by decide) (by decide), c 10 (by decide) (by decide), c 11 (by decide) (by decide), c 14 (by decide) (by decide), c 15 (by decide) (by decide), e12, e13]
  refine ⟨h0, h1, h2, h3, h4, h5, h7, h8, h9, ha, hb, ht, ⟨ho.1, by omega, fun _ => ⟨ho.2, hl⟩⟩, he, ⟨hf, ?_⟩, fun k u v => by rw [c k (by omega) (by omega)]; exact hg k u v, fun j u v => by rw [c _ (by omega) (by omega)]; exact hi j u v, fun j u v => by rw [c _ (by omega) (by omega)]; exact hj j u v, fun j u v => by rw [c _ (by omega) (by omega)]; exact hk j u v, fun j u v => by rw [c _ (by omega) (by omega)]; exact hm j u v⟩
  rw [qs_congr (g := fun j => time - B (88 + j)) _ (fun j u v => by rw [c _ (by omega) (by omega)])]
  exact hq
theorem NetOk_lend {b : Int} {n : Net} {l o t : Int} (h : NetOk b n) (hl : 0 ≤ l ∧ l < n (-1) 0) (ho : 0 ≤ o ∧ o < n (-1) 0) (hn : ¬ o = l) (ht : 0 ≤ t ∧ t ≤ 99) : NetOk b (un n l (bLend (n l) o t)) := by
  have hH := h.1
  unfold HeadOk at hH
  exact NetOk_un h hl.1 (LineOk_lend (h.2.2 l hl.1 hl.2) ho (by omega) hn ht) (by unfold bLend; rw [ub_n (by decide), ub_n (by decide)])
def aBest (n : Net) (l : Int) : Nat → Int × Int
  | 0 => (-1, -1)
  | k + 1 =>
    let v := if (k : Int) = l then -1 else aLent n (-1) l k
    (if (aBest n l k).2 < v then (k : Int) else (aBest n l k).1, max (aBest n l k).2 v)
def famQ (G : Gm) (A : Nat → Nat) (n : Net) : SA := fun c => ∃ N : Nat → Net, fam G A (uN N 1 n) c
theorem unub13 {n : Net} {l o t g : Int} : un n l (bLend (n l) o t) g 17 = n g 17 := by
  unfold un bLend
  split
  · next e => rw [ub_n (by decide), ub_n (by decide), e]
  · rfl
theorem aLent_all {n : Net} {l o : Int} (hl : 0 ≤ l) : aLent n (-1) l o = nTicks (100 : Int).toNat (un n l (bLend (n l) o 99)) (-1) 4 - (un n l (bLend (n l) o 99)) (-1) 4 := by
  unfold aLent
  rw [if_pos rfl, un_n (j := -1) (l := l) (by omega), show (100 : Int).toNat = 100 from rfl]
theorem aLent_one {n : Net} {g l o : Int} (hg : ¬ g = -1) : aLent n g l o = nTicks (100 : Int).toNat (un n l (bLend (n l) o 99)) g (16 + 1) - (un n l (bLend (n l) o 99)) g (16 + 1) := by
  have e := unub13 (n := n) (l := l) (o := o) (t := 99) (g := g)
  unfold aLent
  rw [if_neg hg, show (16 : Int) + 1 = 17 from rfl, e, show (100 : Int).toNat = 100 from rfl]
theorem aLent_all_r {b : Int} {n : Net} {l o : Int} (h : NetOk b n) (hb : b ≤ 900000000) (hl : 0 ≤ l ∧ l < n (-1) 0) (ho : 0 ≤ o ∧ o < n (-1) 0) (hn : ¬ o = l) : -900000000 ≤ aLent n (-1) l o ∧ aLent n (-1) l o ≤ 950000000 := by
  have h1 := NetOk_ticks (NetOk_lend (t := 99) h hl ho hn (by decide)) 100
  have e : aLent n (-1) l o = nTicks 100 (un n l (bLend (n l) o 99)) (-1) 4 - n (-1) 4 := if_pos rfl
  have h2 := h1.1
  have h3 := h.1
  unfold HeadOk at h2 h3
  omega
