/-! What a change keeps: the names, the bounds. -/
theorem LineOk_marks {b lines time l a c : Int} {B : Blk} (h : LineOk b lines time l B) (ha : 0 ≤ a ∧ a < c ∧ c ≤ B 1) : LineOk b lines time l (ub (ub B 2 a) 3 c) := by
  unfold LineOk at h
  obtain ⟨h0, h1, h2, h3, h4, h5, h7, h8, h9, hx, hb, hc, hd, he, ⟨hf, hq⟩, hg, hi, hj, hk, hm⟩ := h
  have e : ∀ w, ¬ w = 2 → ¬ w = 3 → ub (ub B 2 a) 3 c w = B w := fun w p q => by rw [ub_n q, ub_n p]
  have e2 : ub (ub B 2 a) 3 c 2 = a := by rw [ub_n (by decide), ub_s]
  have e3 : ub (ub B 2 a) 3 c 3 = c := ub_s _ _ _
  unfold LineOk
  rw [e2, e3, e 0 (by decide) (by decide), e 1 (by decide) (by decide), e 4 (by decide) (by decide), e 5 (by decide) (by decide), e 6 (by decide) (by decide), e 7 (by decide) (by decide), e 8 (by decide) (by decide), e 9 (by decide) (by decide), e 10 (by decide) (by decide), e 11 (by decide) (by decide), e 12 (by decide) (by decide), e 13 (by decide) (by decide), e 14 (by decide) (by decide), e 15 (by decide) (by decide)]
  refine ⟨h0, h1, ⟨ha.1, ha.2.1, ha.2.2⟩, h3, h4, h5, h7, h8, h9, hx, hb, hc, hd, he, ⟨hf, ?_⟩, fun k u v => by rw [e k (by omega) (by omega)]; exact hg k u v, fun j u v => by rw [e _ (by omega) (by omega)]; exact hi j u v, fun j u v => by rw [e _ (by omega) (by omega)]; exact hj j u v, fun j u v => by rw [e _ (by omega) (by omega)]; exact hk j u v, fun j u v => by rw [e _ (by omega) (by omega)]; exact hm j u v⟩
  rw [qs_congr (g := fun j => time - B (88 + j)) _ (fun j u v => by rw [e _ (by omega) (by omega)])]
  exact hq
theorem qs_pos {f : Int → Int} : ∀ k : Nat, (∀ j : Int, 0 ≤ j → j < (k : Int) → 0 ≤ f j) → 0 ≤ qs f k
  | 0, _ => by unfold qs; omega
  | k + 1, h => by
    have h1 := qs_pos k (fun j a b => h j a (by omega))
    have h2 := h (k : Int) (by omega) (by omega)
    show 0 ≤ qs f k + f k
    omega
theorem LineOk_break0 {b lines time l t : Int} {B : Blk} (h : LineOk b lines time l B) (ht : 0 ≤ t ∧ t ≤ 50) (hb0 : 0 ≤ b) : LineOk (b + 61) lines time l (bBreak0 B t) := by
  unfold LineOk at h
  obtain ⟨h0, h1, h2, h3, h4, h5, h7, h8, h9, hx, hb, hc, hd, he, ⟨hf, hq⟩, hg, hi, hj, hk, hm⟩ := h
  have e : ∀ w, ¬ w = 19 → ¬ w = 23 → ¬ w = 25 → ¬ w = 6 → ¬ w = 7 → ¬ w = 8 → ¬ w = 9 → bBreak0 B t w = B w := fun w a1 a2 a3 a4 a5 a6 a7 => by
    unfold bBreak0 inc
    rw [ub_n a7, ub_n a6, ub_n a5, ub_n a4, ub_n a3, ub_n a2, ub_n a1]
  have e6 : bBreak0 B t 6 = 0 := by unfold bBreak0; rw [ub_n (by decide), ub_n (by decide), ub_n (by decide), ub_s]
  have e7 : bBreak0 B t 7 = 0 := by unfold bBreak0; rw [ub_n (by decide), ub_n (by decide), ub_s]
  have e8 : bBreak0 B t 8 = 0 := by unfold bBreak0; rw [ub_n (by decide), ub_s]
  have e9 : bBreak0 B t 9 = t := by unfold bBreak0; rw [ub_s]
  have e19 : bBreak0 B t 19 = B 19 + B 6 := by unfold bBreak0 inc; rw [ub_n (by decide), ub_n (by decide), ub_n (by decide), ub_n (by decide), ub_n (by decide), ub_n (by decide), ub_s]
  have e23 : bBreak0 B t 23 = B 23 + B 7 := by
    unfold bBreak0 inc
    rw [ub_n (by decide), ub_n (by decide), ub_n (by decide), ub_n (by decide), ub_n (by decide), ub_s]
    try rw [ub_n (by decide)]
  have e25 : bBreak0 B t 25 = B 25 + 1 := by
    unfold bBreak0 inc
    rw [ub_n (by decide), ub_n (by decide), ub_n (by decide), ub_n (by decide), ub_s, ub_n (by decide), ub_n (by decide)]
  have hqs : 0 ≤ qs (fun j => time - B (88 + j)) (B 6).toNat := qs_pos _ (fun j a c => by have := (hj j a (by omega)).2; omega)
  unfold LineOk
  rw [e6, e7, e8, e9, e 0 (by decide) (by decide) (by decide) (by decide) (by decide) (by decide) (by decide), e 1 (by decide) (by decide) (by decide) (by decide) (by decide) (by decide) (by decide), e 2 (by decide) (by decide) (by decide) (by decide) (by decide) (by decide) (by decide), e 3 (by decide) (by decide) (by decide) (by decide) (by decide) (by decide) (by decide), e 4 (by decide) (by decide) (by decide) (by decide) (by decide) (by decide) (by decide), e 5 (by decide) (by decide) (by decide) (by decide) (by decide) (by decide) (by decide), e 10 (by decide) (by decide) (by decide) (by decide) (by decide) (by decide) (by decide), e 11 (by decide) (by decide) (by decide) (by decide) (by decide) (by decide) (by decide), e 12 (by decide) (by decide) (by decide) (by decide) (by decide) (by decide) (by decide), e 13 (by decide) (by decide) (by decide) (by decide) (by decide) (by decide) (by decide), e 14 (by decide) (by decide) (by decide) (by decide) (by decide) (by decide) (by decide), e 15 (by decide) (by decide) (by decide) (by decide) (by decide) (by decide) (by decide)]
  refine ⟨h0, h1, h2, h3, h4, ⟨by omega, by omega⟩, ⟨by omega, by omega⟩, ⟨by omega, by omega⟩, ht, hx, hb, hc, hd, he, ⟨hf, ?_⟩, fun k u v => ?_, fun j u v => absurd v (by omega), fun j u v => absurd v (by omega), fun j u v => absurd v (by omega), fun j u v => absurd v (by omega)⟩
  · show B 15 + 0 ≤ 60 * time
    omega
  · have hgk := hg k u v
    by_cases k19 : k = 19
    · subst k19; rw [e19]; omega
    · by_cases k23 : k = 23
      · subst k23; rw [e23]; omega
      · by_cases k25 : k = 25
        · subst k25; rw [e25]; omega
        · rw [e k k19 k23 k25 (by omega) (by omega) (by omega) (by omega)]; omega
/-! What an act keeps. -/
theorem NetOk_brk {b : Int} {n : Net} {l t : Int} (h : NetOk b n) (hl : 0 ≤ l ∧ l < n (-1) 0) (ht : 0 ≤ t ∧ t ≤ 50) : NetOk (b + 62) (un n l (bBreak (n l) t)) := by
  have hH := h.1
  unfold HeadOk at hH
  have hL := LineOk_break0 (h.2.2 l hl.1 hl.2) ht (by omega)
  have h24 := LineOk_c hL (k := 24) (by decide) (by decide)
  have e17 : bBreak (n l) t 17 = n l 17 := by
    unfold bBreak
    rw [bStop_n (by decide) (by decide)]
    unfold bBreak0 inc
    rw [ub_n (by decide), ub_n (by decide), ub_n (by decide), ub_n (by decide), ub_n (by decide), ub_n (by decide), ub_n (by decide)]
  exact NetOk_un (NetOk_mono h (by omega)) hl.1 (LineOk_stop (LineOk_mono hL (by omega)) (by omega)) e17
theorem NetOk_mrk {b : Int} {n : Net} {l a c : Int} (h : NetOk b n) (hl : 0 ≤ l ∧ l < n (-1) 0) (ha : 0 ≤ a ∧ a < c ∧ c ≤ n l 1) : NetOk (b + 1) (un n l (bStop (ub (ub (n l) 2 a) 3 c))) := by
  have hL := LineOk_marks (h.2.2 l hl.1 hl.2) ha
  have h24 := LineOk_c hL (k := 24) (by decide) (by decide)
  exact NetOk_un (NetOk_mono h (by omega)) hl.1 (LineOk_stop (LineOk_mono hL (by omega)) (by omega)) (by rw [bStop_n (by decide) (by decide), ub_n (by decide), ub_n (by decide)])
abbrev ActR : Type := Int × Net × (Nat → Int) × (Nat → Net)
/-- what holds behind an act of the kind kd -/
def AP (b : Int) (n : Net) (kd : Int) (x : ActR) : Prop := NetOk (b + 8000) x.2.1 ∧ SOK x.2.1 ∧ (0 ≤ x.2.2.1 6 ∧ x.2.2.1 6 ≤ 6) ∧ ((8 ≤ kd ∧ kd ≤ 13 ∨ kd = 23) → n (-1) 1 < x.2.1 (-1) 1 ∧ x.1 = x.2.1 (-1) 4 - n (-1) 4) ∧ (kd = 17 → x.2.1 (-1) 1 = n (-1) 1 ∨ n (-1) 1 < x.2.1 (-1) 1 ∧ x.1 = x.2.1 (-1) 4 - n (-1) 4) ∧ (¬ (8 ≤ kd ∧ kd ≤ 13 ∨ kd = 23) → ¬ kd = 17 → x.2.1 (-1) 1 = n (-1) 1)
theorem rmR_r {J : Nat → Int} (h : 0 ≤ J 6 ∧ J 6 ≤ 6) : 0 ≤ up J 6 (rmR (J 6)) 6 ∧ up J 6 (rmR (J 6)) 6 ≤ 6 := by
  rw [up_s]
  unfold rmR
  split <;> omega
theorem AP_tick {b kd t : Int} {n : Net} {J : Nat → Int} {N' : Nat → Net} (hN : NetOk b n) (hs : SOK n) (h6 : 0 ≤ J 6 ∧ J 6 ≤ 6) (ht : 1 ≤ t ∧ t ≤ 30) (hk : (8 ≤ kd ∧ kd ≤ 13 ∨ kd = 23) ∨ kd = 17) : AP b n kd (nTicks t.toNat n (-1) 4 - n (-1) 4, nTicks t.toNat n, up J 6 (rmR (J 6)), N') := by
  have h1 := SOK_ticks hN hs t.toNat
  have h2 : n (-1) 1 < nTicks t.toNat n (-1) 1 := by rw [h1.2]; omega
  refine ⟨NetOk_mono (NetOk_ticks hN t.toNat) (by omega), h1.1, rmR_r h6, fun _ => ⟨h2, rfl⟩, fun _ => Or.inr ⟨h2, rfl⟩, fun z1 z2 => ?_⟩
  exact absurd hk (fun z => z.elim z1 z2)
theorem AP_still {b kd r : Int} {n n' : Net} {J J' : Nat → Int} {N' : Nat → Net} (hN : NetOk (b + 8000) n') (hs : SOK n') (h6 : 0 ≤ J' 6 ∧ J' 6 ≤ 6) (h1 : n' (-1) 1 = n (-1) 1) (hk : ¬ (8 ≤ kd ∧ kd ≤ 13 ∨ kd = 23)) : AP b n kd (r, n', J', N') :=
  ⟨hN, hs, h6, fun z => absurd z hk, fun _ => Or.inl h1, fun _ _ => h1⟩
theorem AP_un {b c kd r l : Int} {n : Net} {B : Blk} {J : Nat → Int} {N' : Nat → Net} (hN : NetOk (b + c) (un n l B)) (hc : c ≤ 8000) (hs : SOK n) (hB : LSt B) (hl : 0 ≤ l) (h6 : 0 ≤ J 6 ∧ J 6 ≤ 6) (hk : ¬ (8 ≤ kd ∧ kd ≤ 13 ∨ kd = 23)) : AP b n kd (r, un n l B, up J 6 (rmR (J 6)), N') :=
  AP_still (J := J) (NetOk_mono hN (by omega)) (SOK_un hs hl hB) (rmR_r h6) (by rw [un_n (by omega)]) hk
theorem AP_type {b kd r l v t : Int} {n : Net} {J : Nat → Int} {N' : Nat → Net} (hN : NetOk b n) (hs : SOK n) (hl : 0 ≤ l ∧ l < n (-1) 0) (hv : 1 ≤ v ∧ v ≤ 127) (ht : 1 ≤ t ∧ t ≤ 60) (h6 : 0 ≤ J 6 ∧ J 6 ≤ 6) (hk : ¬ (8 ≤ kd ∧ kd ≤ 13 ∨ kd = 23)) : AP b n kd (r, nTypes l v t.toNat n, up J 6 (rmR (J 6)), N') :=
  AP_still (J := J) (NetOk_mono (nTypes_ok hN hl hv t.toNat).1 (by omega)) (SOK_types hN hs hl hv t.toNat).1 (rmR_r h6) (SOK_types hN hs hl hv t.toNat).2 hk
theorem AP_reply {b kd r l v t : Int} {n : Net} {J : Nat → Int} {N' : Nat → Net} (hN : NetOk b n) (hs : SOK n) (hl : 0 ≤ l ∧ l < n (-1) 0) (hv : 1 ≤ v ∧ v ≤ 127) (ht : 1 ≤ t ∧ t ≤ 60) (h6 : 0 ≤ J 6 ∧ J 6 ≤ 6) (hk : ¬ (8 ≤ kd ∧ kd ≤ 13 ∨ kd = 23)) : AP b n kd (r, nOffers l v t.toNat n, up J 6 (rmR (J 6)), N') :=
  AP_still (J := J) (NetOk_mono (nOffers_ok hN hl hv t.toNat).1 (by omega)) (SOK_offers hN hs hl hv t.toNat).1 (rmR_r h6) (SOK_offers hN hs hl hv t.toNat).2 hk
theorem AP_lend {b kd r l o t : Int} {n : Net} {J : Nat → Int} {N' : Nat → Net} (hN : NetOk b n) (hs : SOK n) (hl : 0 ≤ l ∧ l < n (-1) 0) (ho : 0 ≤ o ∧ o < n (-1) 0) (hn : ¬ l = o) (ht : 1 ≤ t ∧ t ≤ 99) (h6 : 0 ≤ J 6 ∧ J 6 ≤ 6) (hk : ¬ (8 ≤ kd ∧ kd ≤ 13 ∨ kd = 23)) : AP b n kd (r, un n l (bLend (n l) o t), up J 6 (rmR (J 6)), N') :=
  AP_un (c := 0) (NetOk_mono (NetOk_lend hN hl ho (fun e => hn e.symm) (by omega)) (by omega)) (by omega) hs (LSt_ub (LSt_ub (hs.2 l hl.1 hl.2) (by decide)) (by decide)) hl.1 h6 hk
theorem AP_ub {b kd r l k v : Int} {n : Net} {J : Nat → Int} {N' : Nat → Net} (hN : NetOk b n) (hs : SOK n) (hl : 0 ≤ l ∧ l < n (-1) 0) (hkv : k = 4 ∧ 1 ≤ v ∧ v ≤ 9 ∨ k = 11 ∧ (v = 0 ∨ v = 1) ∨ k = 12 ∧ v = 0) (h6 : 0 ≤ J 6 ∧ J 6 ≤ 6) (hk : ¬ (8 ≤ kd ∧ kd ≤ 13 ∨ kd = 23)) : AP b n kd (r, un n l (ub (n l) k v), up J 6 (rmR (J 6)), N') :=
  AP_un (c := 0) (NetOk_mono (NetOk_un hN hl.1 (LineOk_ub (hN.2.2 l hl.1 hl.2) (by omega)) (ub_n (by omega))) (by omega)) (by omega) hs (LSt_ub (hs.2 l hl.1 hl.2) (by omega)) hl.1 h6 hk
theorem AP_brk {b kd r l t : Int} {n : Net} {J : Nat → Int} {N' : Nat → Net} (hN : NetOk b n) (hs : SOK n) (hl : 0 ≤ l ∧ l < n (-1) 0) (ht : 1 ≤ t ∧ t ≤ 50) (h6 : 0 ≤ J 6 ∧ J 6 ≤ 6) (hk : ¬ (8 ≤ kd ∧ kd ≤ 13 ∨ kd = 23)) : AP b n kd (r, un n l (bBreak (n l) t), up J 6 (rmR (J 6)), N') :=
  AP_un (c := 62) (NetOk_brk hN hl (by omega)) (by omega) hs (LSt_break (hN.2.2 l hl.1 hl.2) (hs.2 l hl.1 hl.2)) hl.1 h6 hk
theorem AP_echo {b kd r l v : Int} {n : Net} {J : Nat → Int} {N' : Nat → Net} (hN : NetOk b n) (hs : SOK n) (hl : 0 ≤ l ∧ l < n (-1) 0) (hv : 0 ≤ v ∧ v ≤ 2) (h6 : 0 ≤ J 6 ∧ J 6 ≤ 6) (hk : ¬ (8 ≤ kd ∧ kd ≤ 13 ∨ kd = 23)) : AP b n kd (r, un n l (ub (ub (n l) 5 v) 8 0), up J 6 (rmR (J 6)), N') :=
  AP_un (c := 0) (NetOk_mono (NetOk_un hN hl.1 (LineOk_ub (LineOk_ub (hN.2.2 l hl.1 hl.2) (by omega)) (by omega)) (by rw [ub_n (by decide), ub_n (by decide)])) (by omega)) (by omega) hs (LSt_echo (hs.2 l hl.1 hl.2)) hl.1 h6 hk
theorem AP_mrk {b kd r l a c : Int} {n : Net} {J : Nat → Int} {N' : Nat → Net} (hN : NetOk b n) (hs : SOK n) (hl : 0 ≤ l ∧ l < n (-1) 0) (ha : 0 ≤ a ∧ a < c ∧ c ≤ n l 1) (h6 : 0 ≤ J 6 ∧ J 6 ≤ 6) (hk : ¬ (8 ≤ kd ∧ kd ≤ 13 ∨ kd = 23)) : AP b n kd (r, un n l (bStop (ub (ub (n l) 2 a) 3 c)), up J 6 (rmR (J 6)), N') := by
  have hL := hN.2.2 l hl.1 hl.2
  unfold LineOk at hL
  exact AP_un (c := 1) (NetOk_mrk hN hl ha) (by omega) hs (LSt_marks (hs.2 l hl.1 hl.2) ha.2.1 (by omega)) hl.1 h6 hk
theorem AP_pass {b kd r : Int} {n : Net} {J : Nat → Int} {N' : Nat → Net} (hN : NetOk b n) (hs : SOK n) (h6 : 0 ≤ J 6 ∧ J 6 ≤ 6) (hk : ¬ (8 ≤ kd ∧ kd ≤ 13 ∨ kd = 23)) : AP b n kd (r, nPass n, up J 6 (rmR (J 6)), N') :=
  AP_still (J := J) (NetOk_mono (NetOk_pass hN) (by omega)) (SOK_pass hs) (rmR_r h6) (nPass_h (by decide)) hk
/-- another line than l -/
theorem other_ok {ln m l : Int} (h1 : 2 ≤ ln ∧ ln ≤ 6) (hl : 0 ≤ l ∧ l < ln) (hm : 0 ≤ m) : (0 ≤ m % (ln - 1) ∧ m % (ln - 1) < 6) ∧ (0 ≤ (l + 1 + m % (ln - 1)) % ln ∧ (l + 1 + m % (ln - 1)) % ln < ln) ∧ ¬ l = (l + 1 + m % (ln - 1)) % ln := by
  rcases (by omega : ln = 2 ∨ ln = 3 ∨ ln = 4 ∨ ln = 5 ∨ ln = 6) with rfl | rfl | rfl | rfl | rfl <;> omega
theorem marks_ok {cap m : Int} (hc : 4 ≤ cap ∧ cap ≤ 60) (hm : 0 ≤ m) : (0 ≤ m % cap ∧ m % cap < cap) ∧ 0 ≤ m / 100 % (cap - m % cap) ∧ m / 100 % (cap - m % cap) < cap - m % cap := by
  have h1 := Int.emod_nonneg m (b := cap) (by omega)
  have h2 := Int.emod_lt_of_pos m (b := cap) (by omega)
  exact ⟨⟨h1, h2⟩, Int.emod_nonneg _ (by omega), Int.emod_lt_of_pos _ (by omega)⟩
