/-! The whole text of the law, read. -/
theorem bType_e {b lines time l v t w : Int} {B : Blk} (hL : LineOk b lines time l B) (hw : w = 12 ∨ w = 16) : bType B v t w = B w + if w = 16 then 1 else 0 := by
  unfold LineOk at hL
  unfold bType
  split
  · unfold inc
    rcases hw with rfl | rfl
    · rw [ub_n (by decide), ub_n (by decide), if_neg (by decide)]; omega
    · rw [ub_n (by decide), ub_s, if_pos rfl]
  · have e : ∀ w, ¬ w = 10 → ¬ w = 24 → (w < 6 ∨ 6 < w ∧ w < 16 ∨ 16 < w ∧ w < 28) → bStop (bIn B v t) w = B w := fun w a c d => by rw [bStop_n a c, bIn_n (by omega) d]
    have ew : bStop (bIn B v t) w = B w + if w = 16 then 1 else 0 := by
      rcases hw with rfl | rfl
      · rw [e 12 (by decide) (by decide) (by decide), if_neg (by decide)]; omega
      · rw [bStop_n (by decide) (by decide), if_pos rfl]
        unfold bIn inc
        rw [ub_n (by decide), ub_n (by omega), ub_n (by omega), ub_s]
    have e1 := e 1 (by decide) (by decide) (by decide)
    have e7 := e 7 (by decide) (by decide) (by decide)
    have e8 := e 8 (by decide) (by decide) (by decide)
    have ok : okW w := by unfold okW; omega
    generalize bStop (bIn B v t) = C at *
    split
    · exact ((bOffer_inv (B := C) (by omega)).2 w ok).trans ew
    · split
      · have w1 : ∀ k, k < 8 ∨ 8 < k ∧ k < 208 → bWhole1 C v k = C k := fun k hk => bWhole1_n (by omega) hk
        unfold bWhole
        split
        · rw [ub_n (by omega), (bOffers_inv (B := bWhole1 C v) (by rw [w1 7 (by omega), w1 1 (by omega)]; omega) _).2 w ok, w1 w (by omega)]
          exact ew
        · rw [w1 w (by omega)]
          exact ew
      · exact ew
/-! the lines of the text -/
abbrev LinP : Type := Int × Int × Int × Int × Int
def LPok (P : Nat → LinP) : Prop := ∀ k, (4 ≤ (P k).1 ∧ (P k).1 ≤ 60) ∧ (0 ≤ (P k).2.1 ∧ (P k).2.1 < (P k).2.2.1 ∧ (P k).2.2.1 ≤ (P k).1) ∧ (1 ≤ (P k).2.2.2.1 ∧ (P k).2.2.2.1 ≤ 9) ∧ 0 ≤ (P k).2.2.2.2 ∧ (P k).2.2.2.2 ≤ 3
def lineP (P : Nat → LinP) (k : Nat) (R : List Int) : List Int := lineT (97 + (k : Int)) (P k).1 (P k).2.1 (P k).2.2.1 (P k).2.2.2.1 (P k).2.2.2.2 R
def linesR (P : Nat → LinP) : Nat → Nat → List Int → List Int
  | _, 0, R => R
  | k, f + 1, R => lineP P k (linesR P (k + 1) f R)
theorem linesR_s (P : Nat → LinP) : ∀ (f k : Nat) (R : List Int), linesR P k (f + 1) R = linesR P k f (lineP P (k + f) R)
  | 0, k, R => rfl
  | f + 1, k, R => by
    show lineP P k (linesR P (k + 1) (f + 1) R) = lineP P k (linesR P (k + 1) f (lineP P (k + (f + 1)) R))
    rw [linesR_s P f (k + 1) R, show k + 1 + f = k + (f + 1) by omega]
def netL (P : Nat → LinP) : Nat → Net
  | 0 => Zn
  | m + 1 => nAdd (netL P m) (228 + (97 + (m : Int))) (P m).1 (P m).2.1 (P m).2.2.1 (P m).2.2.2.1 (ecv (P m).2.2.2.2)
def bl9 (P : Nat → LinP) (j : Nat) : Blk := bNew (fun _ => 0) (228 + (97 + (j : Int))) (P j).1 (P j).2.1 (P j).2.2.1 (P j).2.2.2.1 (ecv (P j).2.2.2.2)
theorem netL_at (P : Nat → LinP) : ∀ m : Nat, netL P m (-1) 0 = (m : Int) ∧ ∀ j : Nat, netL P m (j : Int) = if j < m then bl9 P j else fun _ => 0
  | 0 => ⟨rfl, fun j => by rw [if_neg (by omega)]; rfl⟩
  | m + 1 => by
    have ih := netL_at P m
    have eh : netL P (m + 1) (-1) 0 = ((m + 1 : Nat) : Int) := by
      show nAdd (netL P m) _ _ _ _ _ _ (-1) 0 = _
      unfold nAdd
      rw [ih.1, un_n (by omega), un_s, ub_s]
      omega
    refine ⟨eh, fun j => ?_⟩
    show nAdd (netL P m) _ _ _ _ _ _ (j : Int) = _
    unfold nAdd
    rw [ih.1]
    by_cases e : j = m
    · subst e
      have e9 := ih.2 j
      rw [if_neg (by omega)] at e9
      rw [un_s, if_pos (by omega), e9]
      rfl
    · rw [un_n (by omega), un_n (by omega), ih.2 j]
      by_cases c : j < m
      · rw [if_pos c, if_pos (by omega)]
      · rw [if_neg c, if_neg (by omega)]
def NLn (n : Net) (m : Nat) : Prop := n (-1) 0 = (m : Int) ∧ ∀ j : Nat, j < m → n j 0 = 228 + (97 + (j : Int))
theorem netL_N (P : Nat → LinP) (m : Nat) : NLn (netL P m) m := ⟨(netL_at P m).1, fun j hj => by
  rw [(netL_at P m).2 j, if_pos hj]
  unfold bl9 bNew
  simp (disch := decide) only [ub_n, ub_s]⟩
theorem srch_h {n : Net} {k : Nat} : ∀ (f i : Nat), (∀ j : Nat, i ≤ j → j < i + f → n j 0 = 228 + (97 + (j : Int))) → srch (fun j => decide (0 < 228 + (97 + (k : Int)) ∧ n j 0 = 228 + (97 + (k : Int)))) f i = if i ≤ k ∧ k < i + f then (k : Int) else -1
  | 0, i, _ => by rw [if_neg (by omega)]; rfl
  | f + 1, i, h => by
    unfold srch
    have h0 := h i (by omega) (by omega)
    by_cases e : i = k
    · subst e
      rw [if_pos (decide_eq_true ⟨by omega, h0⟩), if_pos (by omega)]
    · rw [if_neg (by rw [decide_eq_false (by omega)]; decide), srch_h f (i + 1) (fun j u v => h j (by omega) (by omega))]
      by_cases c : i + 1 ≤ k ∧ k < i + 1 + f
      · rw [if_pos c, if_pos (by omega)]
      · rw [if_neg c, if_neg (by omega)]
theorem lnN_h {n : Net} {m k : Nat} (h : NLn n m) : lnN n (228 + (97 + (k : Int))) = if k < m then (k : Int) else -1 := by
  unfold lnN
  rw [h.1, Int.toNat_natCast, srch_h m 0 (fun j _ hj => h.2 j (by omega))]
  by_cases c : k < m
  · rw [if_pos c, if_pos (by omega)]
  · rw [if_neg c, if_neg (by omega)]
theorem psL_s {F : Nat → Int} {s : paSt} (h : s.1 12 = 0 ∧ ¬ s.1 10 = 0) (k : Nat) : psL F (k + 1) s = psL F k (psS F s) := if_pos h
theorem run_lines {F : Nat → Int} {z : Nat} {P : Nat → LinP} (hP : LPok P) {R : List Int} {c : Int} {TL TB : Nat → Int} : ∀ (f k q : Nat) (s : paSt), PSt F z q (netL P k) c TL TB s → Rem F z q (linesR P k f R) → k + f ≤ 6 → ∀ g, ∃ s' q', psL F (g + f) s = psL F g s' ∧ Rem F z q' R ∧ PSt F z q' (netL P (k + f)) c TL TB s'
  | 0, k, q, s, h, ht, _, g => ⟨s, q, rfl, ht, h⟩
  | f + 1, k, q, s, h, ht, hk, g => by
    have hp := hP k
    have hN := netL_N P k
    obtain ⟨h1, q', h2, h3⟩ := ps_line h ht (by omega) (by rw [hN.1]; omega) (by rw [lnN_h hN, if_neg (by omega)]) hp.1 hp.2.1 hp.2.2.1 hp.2.2.2
    obtain ⟨s', q'', h4, h5, h6⟩ := run_lines hP f (k + 1) q' (psS F s) h3 h2 (by omega) g
    refine ⟨s', q'', ?_, h5, by rw [show k + (f + 1) = k + 1 + f by omega]; exact h6⟩
    rw [show g + (f + 1) = (g + f) + 1 by omega, psL_s h1]
    exact h4
/-- what else the text says: whether a line lends, and what is typed -/
def lendO (le x y : Nat) (t : Int) (R : List Int) : List Int := if le = 1 then lendT (97 + (x : Int)) (97 + (y : Int)) t R else R
def tyO (l m : Nat) (f : Nat → Int) (R : List Int) : List Int := if m = 0 then R else typeT (97 + (l : Int)) f m R
def netE (le x y : Nat) (t : Int) (n : Net) : Net := if le = 1 then un n x (bLend (n x) y t) else n
theorem run_type {F : Nat → Int} {z q l m k : Nat} {n : Net} {f : Nat → Int} {R : List Int} {c : Int} {TL TB : Nat → Int} {s : paSt} (h : PSt F z q n c TL TB s) (ht : Rem F z q (tyO l m f R)) (hN : NLn n k) (hl : l < k) (hk : k ≤ 6) (hf : ∀ i, 1 ≤ f i ∧ f i ≤ 127) (hc : 0 ≤ c ∧ c + m ≤ 60) : ∀ g, ∃ s' q' TL' TB', psL F (g + 1) s = psL F g s' ∧ Rem F z q' R ∧ PSt F z q' n (c + m) TL' TB' s' ∨ psL F (g + 1) s = psL F (g + 1) s' ∧ Rem F z q' R ∧ PSt F z q' n (c + m) TL' TB' s' := by
  intro g
  unfold tyO at ht
  by_cases e : m = 0
  · subst e
    rw [if_pos rfl] at ht
    exact ⟨s, q, TL, TB, Or.inr ⟨rfl, ht, by rw [show c + ((0 : Nat) : Int) = c by omega]; exact h⟩⟩
  · obtain ⟨m, rfl⟩ : ∃ m9, m = m9 + 1 := ⟨m - 1, by omega⟩
    rw [if_neg e] at ht
    obtain ⟨h1, q', TL', TB', h2, h3⟩ := ps_type h ht (by omega) (i := (l : Int)) ⟨by omega, by rw [lnN_h hN, if_pos hl]⟩ hf (by omega)
    exact ⟨psS F s, q', TL', TB', Or.inl ⟨psL_s h1 g, h2, by rw [show c + ((m + 1 : Nat) : Int) = c + (m : Int) + 1 by omega]; exact h3⟩⟩
theorem run_end {F : Nat → Int} {z q : Nat} {n : Net} {c : Int} {TL TB : Nat → Int} {s : paSt} (h : PSt F z q n c TL TB s) (ht : Rem F z q []) (g : Nat) : psL F g s = s ∧ s.1 12 = 0 ∧ s.1 16 = c ∧ s.2.1 = n := by
  obtain ⟨J, rfl, hJ⟩ := h
  have hq : q = z := by have := ht.1; simpa using this
  subst hq
  have h1 := go_end (F := F) hJ
  refine ⟨psL_e (fun z9 => z9.2 h1.2) g, h1.1.2.2.1, h1.1.2.2.2, rfl⟩
/-- the text is read as it was meant -/
theorem text_ok {F I TL TB : Nat → Int} {z m le x y l0 l1 m0 m1 : Nat} {t : Int} {f : Nat → Int} {P : Nat → LinP} (h6 : I 6 = (z : Int)) (hP : LPok P) (hm : 1 ≤ m ∧ m ≤ 4) (hle : le = 1 → x < m ∧ y < m ∧ ¬ x = y) (htt : 1 ≤ t ∧ t ≤ 99) (hl : l0 < m ∧ l1 < m) (hmm : m0 + m1 ≤ 60) (hf : ∀ i, 1 ≤ f i ∧ f i ≤ 127)
    (ht : Rem F z 0 (linesR P 0 m (lendO le x y t (tyO l0 m0 f (tyO l1 m1 f []))))) :
    (ldR F I TL TB).1 12 = 0 ∧ (ldR F I TL TB).1 16 = (m0 : Int) + (m1 : Int) ∧ (ldR F I TL TB).2.1 = netE le x y t (netL P m) := by
  have hv := ldI0_v I
  have hJ : St z (ldI0 I) 0 0 := ⟨hv.1.trans h6, hv.2.1, hv.2.2.1, hv.2.2.2.1⟩
  obtain ⟨m', rfl⟩ : ∃ m', m = m' + 1 := ⟨m - 1, by omega⟩
  have e0 : ldJ F I = goI F (ldI0 I) := by
    have e9 : goI F (ldI0 I) = scanI F (ldI0 I) := if_pos hJ.2.2.1
    have ht9 : Rem F z 0 (lineP P 0 (linesR P 1 m' (lendO le x y t (tyO l0 m0 f (tyO l1 m1 f []))))) := ht
    unfold lineP lineT at ht9
    obtain ⟨q0, -, s0, w0⟩ := gw0 hJ ht9 hd_b (by decide) (lt_w (by decide))
    rw [e9] at s0 w0
    rw [e9]
    unfold ldJ
    rw [if_neg (not_not_intro ((Wd_is s0.2.2.1 w0).mpr rfl))]
  have hs : PSt F z 0 (netL P 0) 0 TL TB (ldJ F I, Zn, TL, TB) := ⟨ldI0 I, by rw [e0]; rfl, hJ⟩
  have hN := netL_N P (m' + 1)
  have run1 := fun g => run_lines hP (m' + 1) 0 0 _ hs ht (by omega) g
  have fin : ∀ (q : Nat) (n : Net) (c : Int) (TL TB : Nat → Int) (s : paSt) (g : Nat), NLn n (m' + 1) → PSt F z q n 0 TL TB s → Rem F z q (tyO l0 m0 f (tyO l1 m1 f [])) → ∃ s', psL F (g + 2) s = s' ∧ s'.1 12 = 0 ∧ s'.1 16 = (m0 : Int) + (m1 : Int) ∧ s'.2.1 = n := by
    intro q n c TL TB s g hn h ht
    have two : ∀ (q : Nat) (TL TB : Nat → Int) (s : paSt) (g : Nat), PSt F z q n (0 + (m0 : Int)) TL TB s → Rem F z q (tyO l1 m1 f []) → ∃ s', psL F (g + 1) s = s' ∧ s'.1 12 = 0 ∧ s'.1 16 = (m0 : Int) + (m1 : Int) ∧ s'.2.1 = n := by
      intro q TL TB s g h ht
      obtain ⟨s', q', TL', TB', ⟨h1, h2, h3⟩ | ⟨h1, h2, h3⟩⟩ := run_type h ht hn hl.2 (by omega) hf (by omega) g
      · have h4 := run_end h3 h2 g
        exact ⟨s', h1.trans h4.1, h4.2.1, by rw [h4.2.2.1]; omega, h4.2.2.2⟩
      · have h4 := run_end h3 h2 (g + 1)
        exact ⟨s', h1.trans h4.1, h4.2.1, by rw [h4.2.2.1]; omega, h4.2.2.2⟩
    obtain ⟨s', q', TL', TB', ⟨h1, h2, h3⟩ | ⟨h1, h2, h3⟩⟩ := run_type h ht hn hl.1 (by omega) hf (by omega) (g + 1)
    · obtain ⟨s2, k1, k2⟩ := two q' TL' TB' s' g h3 h2
      exact ⟨s2, h1.trans k1, k2⟩
    · obtain ⟨s2, k1, k2⟩ := two q' TL' TB' s' (g + 1) h3 h2
      exact ⟨s2, h1.trans k1, k2⟩
  unfold ldR
  obtain ⟨f5, hf5⟩ : ∃ f5, 500 = f5 + 2 + 1 + (m' + 1) := ⟨496 - m', by omega⟩
  by_cases e : le = 1
  · obtain ⟨s1, q1, h1, h2, h3⟩ := run1 (f5 + 2 + 1)
    rw [Nat.zero_add] at h3
    have hq := hle e
    unfold lendO at h2
    rw [if_pos e] at h2
    obtain ⟨g1, q2, g2, g3⟩ := ps_lend h3 h2 (by omega) (by omega) (i := (x : Int)) (j := (y : Int)) ⟨by omega, by rw [lnN_h hN, if_pos hq.1]⟩ ⟨by omega, by rw [lnN_h hN, if_pos hq.2.1]⟩ (by omega) (by
      rw [(netL_at P (m' + 1)).2 x, if_pos hq.1]
      unfold bl9 bNew
      simp (disch := decide) only [ub_n]) htt
    have hN2 : NLn (un (netL P (m' + 1)) (x : Int) (bLend (netL P (m' + 1) (x : Int)) (y : Int) t)) (m' + 1) := by
      refine ⟨by rw [un_n (by omega)]; exact hN.1, fun j hj => ?_⟩
      by_cases ej : (j : Int) = (x : Int)
      · rw [ej, un_s]
        unfold bLend
        rw [ub_n (by decide), ub_n (by decide)]
        have := hN.2 x hq.1
        omega
      · rw [un_n ej]; exact hN.2 j hj
    obtain ⟨s3, k1, k2, k3, k4⟩ := fin q2 _ 0 TL TB (psS F s1) f5 hN2 g3 g2
    rw [hf5, h1, psL_s g1, k1]
    refine ⟨k2, k3, ?_⟩
    rw [k4]
    unfold netE
    rw [if_pos e]
  · obtain ⟨s1, q1, h1, h2, h3⟩ := run1 (f5 + 2 + 1)
    rw [Nat.zero_add] at h3
    unfold lendO at h2
    rw [if_neg e] at h2
    obtain ⟨s3, k1, k2, k3, k4⟩ := fin q1 _ 0 TL TB s1 (f5 + 1) hN h3 h2
    rw [hf5, h1, show f5 + 2 + 1 = f5 + 1 + 2 by omega, k1]
    refine ⟨k2, k3, ?_⟩
    rw [k4]
    unfold netE
    rw [if_neg e]
