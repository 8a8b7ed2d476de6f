/-! What a change keeps: the names, the bounds. -/
theorem bSend_w0 {B : Blk} {e w : Int} (h : 0 ≤ B 6 ∧ B 6 ≤ 60) : bSend B e w 0 = B 0 := by
  rw [← bSnd_stop, bStop_n (by decide) (by decide)]
  unfold bSnd inc
  rw [ub_n (by decide), ub_n (by decide), ub_n (by decide), ub_n (by decide), bSend0_n h (by decide) (by decide)]
theorem bDeliver_w0 {B : Blk} : bDeliver B 0 = B 0 := by
  unfold bDeliver
  split
  · rfl
  · unfold inc
    rw [ub_n (by decide), bDrop_n (by decide) (by omega), ub_n (by decide)]
theorem nSend_w0 {n : Net} {l j : Int} (hl : 0 ≤ l) (h6 : 0 ≤ n l 6 ∧ n l 6 ≤ 60) (hj : 0 ≤ j) : nSend n l j 0 = n j 0 := by
  have e : nSend2 n l j 0 = n j 0 := by
    unfold nSend2
    rw [un_n (by omega)]
    unfold nSend1
    by_cases e : j = l
    · subst e; rw [un_s, bSend_w0 h6]
    · rw [un_n e, nLog_n (by omega) (by omega)]
  unfold nSend
  split
  · rw [nPass_c (by omega) (by decide), e]
  · exact e
theorem nLook_w0 {b : Int} : ∀ (k : Nat) {n : Net}, NetOk b n → ∀ j, 0 ≤ j → (nLook k n).1 j 0 = n j 0 := by
  intro k
  induction k with
  | zero => intro n _ j _; rfl
  | succ k ih =>
    intro n h j hj
    have hs := nSender_ok h
    have hL := h.2.2 _ hs.1 hs.2
    unfold LineOk at hL
    by_cases c : ¬ 0 < n (nSender n) 9 ∧ 0 < n (nSender n) 6
    · rw [show nLook (k + 1) n = (nSend n (nSender n), nSender n) from if_pos c]
      exact nSend_w0 hs.1 (by omega) hj
    · rw [show nLook (k + 1) n = nLook k (nPass n) from if_neg c, ih (NetOk_pass h) j hj, nPass_c (by omega) (by decide)]
theorem nTick_w0 {b : Int} {n : Net} (h : NetOk b n) {j : Int} (hj : 0 ≤ j) : nTick n j 0 = n j 0 := by
  have h1 := NetOk_held (NetOk_time (NetOk_mono h (show b ≤ b + 1 by omega)) (by have hH := h.1; unfold HeadOk at hH; omega))
  have e0 : nTick0 n j 0 = n j 0 := by
    have e1 := nLook_w0 (n (-1) 0).toNat h1 j hj
    rw [nHT n (by omega) (by decide)] at e1
    unfold nTick0
    split
    · unfold nIdle
      rw [un_n (by omega)]
      exact e1
    · exact e1
  show nDeliver (nTick0 n) j 0 = _
  unfold nDeliver
  split
  · rw [bDeliver_w0, e0]
  · exact e0
theorem nTicks_w0 {b : Int} {n : Net} (h : NetOk b n) : ∀ (k : Nat) {j : Int}, 0 ≤ j → nTicks k n j 0 = n j 0
  | 0, _, _ => rfl
  | k + 1, j, hj => (nTick_w0 (NetOk_ticks h k) hj).trans (nTicks_w0 h k hj)
theorem NamOk_eq {n n' : Net} (h : NamOk n) (h0 : n' (-1) 0 = n (-1) 0) (hw : ∀ j : Int, 0 ≤ j → n' j 0 = n j 0) : NamOk n' := fun j hj hl => by
  rw [hw j hj]
  exact h j hj (by rw [← h0]; exact hl)
theorem NamOk_un {n : Net} {l : Int} {B : Blk} (h : NamOk n) (hl : 0 ≤ l) (hB : B 0 = n l 0) : NamOk (un n l B) := NamOk_eq h (by rw [un_n (by omega)]) (fun j hj => by
  by_cases e : j = l
  · subst e; rw [un_s]; exact hB
  · rw [un_n e])
theorem GOK_tick {b : Int} {n : Net} (h : GOK b n) (k : Nat) : GOK (b + 4 * k) (nTicks k n) := ⟨NetOk_ticks h.1 k, NamOk_eq h.2 (nTicks_0 h.1 k) (fun _ hj => nTicks_w0 h.1 k hj)⟩
theorem GOK_types {b : Int} {n : Net} {l v : Int} (h : GOK b n) (hl : 0 ≤ l ∧ l < n (-1) 0) (hv : 1 ≤ v ∧ v ≤ 127) : ∀ k : Nat, GOK (b + 122 * k) (nTypes l v k n)
  | 0 => ⟨(nTypes_ok h.1 hl hv 0).1, h.2⟩
  | k + 1 => by
    have ih := GOK_types h hl hv k
    have h2 := (nTypes_ok h.1 hl hv k).2
    have hL := ih.1.2.2 l hl.1 (by omega)
    unfold LineOk at hL
    exact ⟨(nTypes_ok h.1 hl hv (k + 1)).1, NamOk_un ih.2 hl.1 (bType_0 ⟨by omega, by omega, by omega⟩)⟩
theorem GOK_offers {b : Int} {n : Net} {l v : Int} (h : GOK b n) (hl : 0 ≤ l ∧ l < n (-1) 0) (hv : 1 ≤ v ∧ v ≤ 127) : ∀ k : Nat, GOK (b + 2 * k) (nOffers l v k n)
  | 0 => ⟨(nOffers_ok h.1 hl hv 0).1, h.2⟩
  | k + 1 => by
    have ih := GOK_offers h hl hv k
    have h2 := (nOffers_ok h.1 hl hv k).2
    have hL := ih.1.2.2 l hl.1 (by omega)
    unfold LineOk at hL
    exact ⟨(nOffers_ok h.1 hl hv (k + 1)).1, NamOk_un ih.2 hl.1 (bOffer_0 (by omega))⟩
theorem GOK_pass {b : Int} {n : Net} (h : GOK b n) : GOK b (nPass n) := ⟨NetOk_pass h.1, NamOk_eq h.2 (nPass_h (by decide)) (fun j hj => nPass_c (by omega) (by decide))⟩
theorem GOK_lend {b : Int} {n : Net} {l o t : Int} (h : GOK b n) (hl : 0 ≤ l ∧ l < n (-1) 0) (ho : 0 ≤ o ∧ o < n (-1) 0) (hn : ¬ l = o) (ht : 0 ≤ t ∧ t ≤ 99) : GOK b (un n l (bLend (n l) o t)) := ⟨NetOk_lend h.1 hl ho (fun e => hn e.symm) ht, NamOk_un h.2 hl.1 (by unfold bLend; rw [ub_n (by decide), ub_n (by decide)])⟩
theorem GOK_ub {b : Int} {n : Net} {l k v : Int} (h : GOK b n) (hl : 0 ≤ l ∧ l < n (-1) 0)
    (hk : k = 4 ∧ 1 ≤ v ∧ v ≤ 9 ∨ k = 9 ∧ 0 ≤ v ∧ v ≤ 50 ∨ k = 10 ∧ (v = 0 ∨ v = 1) ∨ k = 11 ∧ (v = 0 ∨ v = 1) ∨ k = 5 ∧ 0 ≤ v ∧ v ≤ 2 ∨ k = 8 ∧ v = 0 ∨ k = 14 ∧ -1 ≤ v ∧ v ≤ 127 ∨ k = 12 ∧ 0 ≤ v ∧ v ≤ 99 ∧ (0 < v → n l 13 < n (-1) 0 ∧ n l 13 ≠ l)) : GOK b (un n l (ub (n l) k v)) :=
  ⟨NetOk_un h.1 hl.1 (LineOk_ub (h.1.2.2 l hl.1 hl.2) hk) (ub_n (by omega)), NamOk_un h.2 hl.1 (ub_n (by omega))⟩
theorem GOK_echo {b : Int} {n : Net} {l v : Int} (h : GOK b n) (hl : 0 ≤ l ∧ l < n (-1) 0) (hv : 0 ≤ v ∧ v ≤ 2) : GOK b (un n l (ub (ub (n l) 5 v) 8 0)) :=
  ⟨NetOk_un h.1 hl.1 (LineOk_ub (LineOk_ub (h.1.2.2 l hl.1 hl.2) (by omega)) (by omega)) (by rw [ub_n (by decide), ub_n (by decide)]), NamOk_un h.2 hl.1 (by rw [ub_n (by decide), ub_n (by decide)])⟩
theorem LineOk_marks {b lines time l a c : Int} {B : Blk} (h : LineOk b lines time l B) (ha : 0 ≤ a ∧ a < c ∧ c ≤ B 1) : LineOk b lines time l (ub (ub B 2 a) 3 c) := by
  unfold LineOk at h
  obtain ⟨h0, h1, h2, h3, h4, h5, h7, h8, h9, hx, hb, hc, hd, he, ⟨hf, hq⟩, hg, hi, hj, hk, hm⟩ := h
  have e : ∀ w, ¬ w = 2 → ¬ w = 3 → ub (ub B 2 a) 3 c w = B w := fun w p q => by rw [ub_n q, ub_n p]
  have e2 : ub (ub B 2 a) 3 c 2 = a := by rw [ub_n (by decide), ub_s]
  have e3 : ub (ub B 2 a) 3 c 3 = c := ub_s _ _ _
  unfold LineOk
  rw [e2, e3, e 0 (by decide) (by decide), e 1 (by decide) (by decide), e 4 (by decide) (by decide), e 5 (by decide) (by decide), e 6 (by decide) (by decide), e 7 (by decide) (by decide), e 8 (by decide) (by decide), e 9 (by decide) (by decide), e 10 (by decide) (by decide), e 11 (by decide) (by decide), e 12 (by decide) (by decide), e 13 (by decide) (by decide), e 14 (by decide) (by decide), e 15 (by decide) (by decide)]
  refine ⟨h0, h1, ⟨ha.1, ha.2.1, ha.2.2⟩, h3, h4, h5, h7, h8, h9, hx, hb, hc, hd, he, ⟨hf, ?_⟩, fun k u v => by rw [e k (by omega) (by omega)]; exact hg k u v, fun j u v => by rw [e _ (by omega) (by omega)]; exact hi j u v, fun j u v => by rw [e _ (by omega) (by omega)]; exact hj j u v, fun j u v => by rw [e _ (by omega) (by omega)]; exact hk j u v, fun j u v => by rw [e _ (by omega) (by omega)]; exact hm j u v⟩
  rw [qs_congr (g := fun j => time - B (88 + j)) _ (fun j u v => by rw [e _ (by omega) (by omega)])]
  exact hq
theorem GOK_marks {b : Int} {n : Net} {l a c : Int} (h : GOK b n) (hl : 0 ≤ l ∧ l < n (-1) 0) (ha : 0 ≤ a ∧ a < c ∧ c ≤ n l 1) : GOK (b + 1) (un n l (bStop (ub (ub (n l) 2 a) 3 c))) := by
  have hL := LineOk_marks (h.1.2.2 l hl.1 hl.2) ha
  have h24 := LineOk_c hL (k := 24) (by decide) (by decide)
  exact ⟨NetOk_un (NetOk_mono h.1 (by omega)) hl.1 (LineOk_stop (LineOk_mono hL (by omega)) (by omega)) (by rw [bStop_n (by decide) (by decide), ub_n (by decide), ub_n (by decide)]), NamOk_un h.2 hl.1 (by rw [bStop_n (by decide) (by decide), ub_n (by decide), ub_n (by decide)])⟩
theorem qs_pos {f : Int → Int} : ∀ k : Nat, (∀ j : Int, 0 ≤ j → j < (k : Int) → 0 ≤ f j) → 0 ≤ qs f k
  | 0, _ => by unfold qs; omega
  | k + 1, h => by
    have h1 := qs_pos k (fun j a b => h j a (by omega))
    have h2 := h (k : Int) (by omega) (by omega)
    show 0 ≤ qs f k + f k
    omega
theorem LineOk_break0 {b lines time l t : Int} {B : Blk} (h : LineOk b lines time l B) (ht : 0 ≤ t ∧ t ≤ 50) (hb0 : 0 ≤ b) : LineOk (b + 61) lines time l (bBreak0 B t) := by
  unfold LineOk at h
  obtain ⟨h0, h1, h2, h3, h4, h5, h7, h8, h9, hx, hb, hc, hd, he, ⟨hf, hq⟩, hg, hi, hj, hk, hm⟩ := h
  have e : ∀ w, ¬ w = 19 → ¬ w = 23 → ¬ w = 25 → ¬ w = 6 → ¬ w = 7 → ¬ w = 8 → ¬ w = 9 → bBreak0 B t w = B w := fun w a1 a2 a3 a4 a5 a6 a7 => by
    unfold bBreak0 inc
    rw [ub_n a7, ub_n a6, ub_n a5, ub_n a4, ub_n a3, ub_n a2, ub_n a1]
  have e6 : bBreak0 B t 6 = 0 := by unfold bBreak0; rw [ub_n (by decide), ub_n (by decide), ub_n (by decide), ub_s]
  have e7 : bBreak0 B t 7 = 0 := by unfold bBreak0; rw [ub_n (by decide), ub_n (by decide), ub_s]
  have e8 : bBreak0 B t 8 = 0 := by unfold bBreak0; rw [ub_n (by decide), ub_s]
  have e9 : bBreak0 B t 9 = t := by unfold bBreak0; rw [ub_s]
  have e19 : bBreak0 B t 19 = B 19 + B 6 := by unfold bBreak0 inc; rw [ub_n (by decide), ub_n (by decide), ub_n (by decide), ub_n (by decide), ub_n (by decide), ub_n (by decide), ub_s]
  have e23 : bBreak0 B t 23 = B 23 + B 7 := by
    unfold bBreak0 inc
    rw [ub_n (by decide), ub_n (by decide), ub_n (by decide), ub_n (by decide), ub_n (by decide), ub_s]
    try rw [ub_n (by decide)]
  have e25 : bBreak0 B t 25 = B 25 + 1 := by
    unfold bBreak0 inc
    rw [ub_n (by decide), ub_n (by decide), ub_n (by decide), ub_n (by decide), ub_s, ub_n (by decide), ub_n (by decide)]
  have hqs : 0 ≤ qs (fun j => time - B (88 + j)) (B 6).toNat := qs_pos _ (fun j a c => by have := (hj j a (by omega)).2; omega)
  unfold LineOk
  rw [e6, e7, e8, e9, e 0 (by decide) (by decide) (by decide) (by decide) (by decide) (by decide) (by decide), e 1 (by decide) (by decide) (by decide) (by decide) (by decide) (by decide) (by decide), e 2 (by decide) (by decide) (by decide) (by decide) (by decide) (by decide) (by decide), e 3 (by decide) (by decide) (by decide) (by decide) (by decide) (by decide) (by decide), e 4 (by decide) (by decide) (by decide) (by decide) (by decide) (by decide) (by decide), e 5 (by decide) (by decide) (by decide) (by decide) (by decide) (by decide) (by decide), e 10 (by decide) (by decide) (by decide) (by decide) (by decide) (by decide) (by decide), e 11 (by decide) (by decide) (by decide) (by decide) (by decide) (by decide) (by decide), e 12 (by decide) (by decide) (by decide) (by decide) (by decide) (by decide) (by decide), e 13 (by decide) (by decide) (by decide) (by decide) (by decide) (by decide) (by decide), e 14 (by decide) (by decide) (by decide) (by decide) (by decide) (by decide) (by decide), e 15 (by decide) (by decide) (by decide) (by decide) (by decide) (by decide) (by decide)]
  refine ⟨h0, h1, h2, h3, h4, ⟨by omega, by omega⟩, ⟨by omega, by omega⟩, ⟨by omega, by omega⟩, ht, hx, hb, hc, hd, he, ⟨hf, ?_⟩, fun k u v => ?_, fun j u v => absurd v (by omega), fun j u v => absurd v (by omega), fun j u v => absurd v (by omega), fun j u v => absurd v (by omega)⟩
  · show B 15 + 0 ≤ 60 * time
    omega
  · have hgk := hg k u v
    by_cases k19 : k = 19
    · subst k19; rw [e19]; omega
    · by_cases k23 : k = 23
      · subst k23; rw [e23]; omega
      · by_cases k25 : k = 25
        · subst k25; rw [e25]; omega
        · rw [e k k19 k23 k25 (by omega) (by omega) (by omega) (by omega)]; omega
theorem GOK_break {b : Int} {n : Net} {l t : Int} (h : GOK b n) (hl : 0 ≤ l ∧ l < n (-1) 0) (ht : 0 ≤ t ∧ t ≤ 50) : GOK (b + 62) (un n l (bBreak (n l) t)) := by
  have hH := h.1.1
  unfold HeadOk at hH
  have hL := LineOk_break0 (h.1.2.2 l hl.1 hl.2) ht (by omega)
  have h24 := LineOk_c hL (k := 24) (by decide) (by decide)
  have e17 : bBreak (n l) t 17 = n l 17 := by
    unfold bBreak
    rw [bStop_n (by decide) (by decide)]
    unfold bBreak0 inc
    rw [ub_n (by decide), ub_n (by decide), ub_n (by decide), ub_n (by decide), ub_n (by decide), ub_n (by decide), ub_n (by decide)]
  exact ⟨NetOk_un (NetOk_mono h.1 (by omega)) hl.1 (LineOk_stop (LineOk_mono hL (by omega)) (by omega)) e17, NamOk_un h.2 hl.1 bBreak_0⟩
theorem rmP_ok {b b' c : Int} {N : Nat → Net} {n : Net} (hP : ∀ j : Nat, (j : Int) < c → GOK b (N j)) (hn : GOK b n) (hb : b ≤ b') (hc : 0 ≤ c ∧ c ≤ 6) : ∀ j : Nat, (j : Int) < rmR c → GOK b' (rmP c N n j) := by
  intro j hj
  unfold rmR at hj
  unfold rmP
  by_cases h : c = 6
  · rw [if_pos h] at hj ⊢
    by_cases e : j = 5
    · subst e; rw [uN_s]; exact hn.mono hb
    · show GOK b' (uN (shN N) 5 n j)
      unfold uN shN
      rw [if_neg e]
      try dsimp only
      rw [if_pos (by omega)]
      exact (hP (j + 1) (by omega)).mono hb
  · rw [if_neg h] at hj ⊢
    unfold uN
    by_cases e : j = c.toNat
    · rw [if_pos e]; exact hn.mono hb
    · rw [if_neg e]; exact (hP j (by omega)).mono hb
theorem INV.chg {b b' : Int} {J : Nat → Int} {M : Pool} {n n' : Net} {N K : Nat → Net} {Fu Fb : Nat → Int} {w : List Int} {z : Int} {I I' : Nat → Int} (h : INV b J M n N K Fu Fb w z I) (hb : b ≤ b') (hn' : GOK b' n') (h20 : I' 20 = rmR (J 6)) (h6 : I' 6 = I 6) (h11 : I' 11 = I 11) (h12 : I' 12 = I 12) (h13 : I' 13 = I 13) (h22 : I' 22 = I 22) : INV b' (up J 6 (rmR (J 6))) M n' (rmP (J 6) N n) K Fu Fb w z I' :=
  have hr : 0 ≤ rmR (J 6) ∧ rmR (J 6) ≤ 6 := by have := h.h6; unfold rmR; split <;> omega
  INV.mk hn' (by rw [up_s]; exact hr) (by rw [up_s]; exact h20) (by rw [up_n (by decide)]; exact h12.trans h.e8) trivial (by rw [up_n (by decide)]; exact h13.trans h.e9) trivial h.hz (h6.trans h.ez) (by rw [h11]; exact h.h11) h.hF (fun j hj => rmP_ok h.hP h.hN hb h.h6 j (by rw [up_s] at hj; exact hj)) (fun j hj hf => (h.hK j hj hf).mono hb) h.hFu h.hw h.hv (h22.trans h.ew) h.hM
theorem INV.keep {b b' s : Int} {J : Nat → Int} {M : Pool} {n : Net} {N K : Nat → Net} {Fu Fb : Nat → Int} {w : List Int} {z : Int} {I I' : Nat → Int} (h : INV b J M n N K Fu Fb w z I) (hb : b ≤ b') (hs : 0 ≤ s ∧ s ≤ 1) (h6 : I' 6 = I 6) (h11 : I' 11 = I 11) (h12 : I' 12 = I 12) (h13 : I' 13 = I 13) (h20 : I' 20 = I 20) (h22 : I' 22 = I 22) : INV b' J M n N (uN K s.toNat n) (up Fu s.toNat 1) Fb w z I' :=
  INV.mk (h.hN.mono hb) h.h6 (h20.trans h.e6) (h12.trans h.e8) h.r8 (h13.trans h.e9) h.r9 h.hz (h6.trans h.ez) (by rw [h11]; exact h.h11) h.hF (fun j hj => (h.hP j hj).mono hb) (fun j hj hf => by
    unfold uN
    by_cases e : j = s.toNat
    · rw [if_pos e]; exact h.hN.mono hb
    · rw [if_neg e]; exact (h.hK j hj (by rw [up_n e] at hf; exact hf)).mono hb) (fun j => by
    by_cases e : j = s.toNat
    · subst e; rw [up_s]; exact Or.inr rfl
    · rw [up_n e]; exact h.hFu j) h.hw h.hv (h22.trans h.ew) h.hM
theorem INV.undo {b b' : Int} {J : Nat → Int} {M : Pool} {n : Net} {N K : Nat → Net} {Fu Fb : Nat → Int} {w : List Int} {z : Int} {I I' : Nat → Int} (h : INV b J M n N K Fu Fb w z I) (hb : b ≤ b') (h0 : 0 < J 6) (h20 : I' 20 = J 6 - 1) (h6 : I' 6 = I 6) (h11 : I' 11 = I 11) (h12 : I' 12 = I 12) (h13 : I' 13 = I 13) (h22 : I' 22 = I 22) : INV b' (up J 6 (J 6 - 1)) M (N (J 6 - 1).toNat) N K Fu Fb w z I' :=
  have hr := h.h6
  INV.mk ((h.hP (J 6 - 1).toNat (by omega)).mono hb) (by rw [up_s]; omega) (by rw [up_s]; exact h20) (by rw [up_n (by decide)]; exact h12.trans h.e8) trivial (by rw [up_n (by decide)]; exact h13.trans h.e9) trivial h.hz (h6.trans h.ez) (by rw [h11]; exact h.h11) h.hF (fun j hj => (h.hP j (by rw [up_s] at hj; omega)).mono hb) (fun j hj hf => (h.hK j hj hf).mono hb) h.hFu h.hw h.hv (h22.trans h.ew) h.hM
