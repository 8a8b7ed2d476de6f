/-! What the parser of the reference does to its own numbers: 7 the text's size, 8 next, 9 start, 10 token, 11 value, 12 the error, 13 its place, 16 how many bytes are typed. -/
def goI (F : Nat → Int) (I : Nat → Int) : Nat → Int := if I 12 = 0 then scanI F I else I
def sameW (F : Nat → Int) (s : Nat) (w : List Int) : Nat → Bool
  | 0 => true
  | k + 1 => sameW F s w k && decide (F (s + k) = w.getD k 0)
def isWd (F : Nat → Int) (I : Nat → Int) (w : List Int) : Bool := decide (I 12 = 0 ∧ I 10 = 1 ∧ I 8 - I 9 = (w.length : Int)) && sameW F (I 9).toNat w w.length
theorem sameW_s {F : Nat → Int} {s : Nat} {w : List Int} {k : Nat} : sameW F s w (k + 1) = true ↔ sameW F s w k = true ∧ F (s + k) = w.getD k 0 := by
  rw [sameW, Bool.and_eq_true, decide_eq_true_iff]
theorem isWd_iff {F : Nat → Int} {I : Nat → Int} {w : List Int} : isWd F I w = true ↔ (I 12 = 0 ∧ I 10 = 1 ∧ I 8 - I 9 = (w.length : Int)) ∧ sameW F (I 9).toNat w w.length = true := by
  rw [isWd, Bool.and_eq_true, decide_eq_true_iff]
def nhI (I : Nat → Int) (a b : Int) : Nat → Int := if a ≤ I 11 ∧ I 11 ≤ b then (if I 10 = 2 then I else errI I 1) else errI (if I 10 = 2 then I else errI I 1) 2
def nhV (I : Nat → Int) (a b : Int) : Int := if nhI I a b 12 = 0 then I 11 else a
def nbI (F : Nat → Int) (I : Nat → Int) (a b : Int) : Nat → Int := goI F (nhI I a b)
def twI (F : Nat → Int) (I : Nat → Int) (w : List Int) : Nat → Int := goI F (if isWd F I w = true then I else errI I 1)
def scI (F : Nat → Int) (I : Nat → Int) : Nat → Int := goI F (if I 10 = 3 ∧ I 11 = 59 then I else errI I 1)
def keyW (F : Nat → Int) (I : Nat → Int) : Bool := isWd F I w_line || (isWd F I w_cap || (isWd F I w_marks || (isWd F I w_share || (isWd F I w_echo || (isWd F I w_none || (isWd F I w_each || (isWd F I w_whole || (isWd F I w_lend || (isWd F I w_to || (isWd F I w_for || isWd F I w_type))))))))))
def nmI (F : Nat → Int) (I : Nat → Int) : Nat → Int := if I 10 ≠ 1 ∨ 6 < I 8 - I 9 ∨ keyW F I = true then errI I 1 else I
def nmV (F : Nat → Int) (I : Nat → Int) : Int := if nmI F I 12 = 0 then nmF F (I 9).toNat (I 8 - I 9).toNat else 0
def lhI (F : Nat → Int) (n : Net) (I : Nat → Int) : Nat → Int := if lnN n (nmV F I) = -1 then errI (nmI F I) 4 else nmI F I
def lhV (F : Nat → Int) (n : Net) (I : Nat → Int) : Int := max 0 (lnN n (nmV F I))
def ecV (F : Nat → Int) (I : Nat → Int) : Int := if isWd F I w_echo = true then (if isWd F (goI F I) w_each = true then 1 else if isWd F (goI F I) w_whole = true then 2 else 0) else 0
def ecI (F : Nat → Int) (I : Nat → Int) : Nat → Int := if isWd F I w_echo = true then goI F (if isWd F (goI F I) w_each = true ∨ isWd F (goI F I) w_whole = true ∨ isWd F (goI F I) w_none = true then goI F I else errI (goI F I) 1) else I
/-- what always holds of these numbers -/
def Pin0 (I : Nat → Int) : Prop := (0 ≤ I 7 ∧ I 7 ≤ 400) ∧ (0 ≤ I 8 ∧ I 8 ≤ 401) ∧ (0 ≤ I 11 ∧ I 11 ≤ 9999) ∧ (0 ≤ I 12 ∧ I 12 ≤ 9) ∧ (0 ≤ I 16 ∧ I 16 ≤ 60)
def Pin (F : Nat → Int) (I : Nat → Int) : Prop := Pin0 I ∧ (0 ≤ I 9 ∧ I 9 ≤ I 8) ∧ (0 ≤ I 10 ∧ I 10 ≤ 3) ∧ (I 10 = 1 → I 9 < I 8 ∧ I 8 ≤ I 7 ∧ ∀ j : Nat, I 9 ≤ (j : Int) → (j : Int) < I 8 → 97 ≤ F j ∧ F j ≤ 122)
theorem skp_ge (p : Int → Bool) (B : Int → Int) : ∀ (f : Nat) (k : Int), k ≤ skp p B f k
  | 0, k => Int.le_refl _
  | f + 1, k => by
    unfold skp
    split
    · have := skp_ge p B f (k + 1); omega
    · exact Int.le_refl _
theorem skp_in {p : Int → Bool} {B : Int → Int} : ∀ (f : Nat) (k j : Int), k ≤ j → j < skp p B f k → p (B j) = true
  | 0, k, j, h0, h1 => by unfold skp at h1; omega
  | f + 1, k, j, h0, h1 => by
    unfold skp at h1
    split at h1
    · next h =>
      by_cases e : j = k
      · rw [e]; exact h
      · exact skp_in f (k + 1) j (by omega) h1
    · omega
theorem skp_le {p : Int → Bool} {F : Nat → Int} {ts : Int} (hp : p (-1) = false) : ∀ (f : Nat) (k : Int), skp p (byt F ts) f k ≤ max k ts
  | 0, k => by unfold skp; omega
  | f + 1, k => by
    unfold skp
    split
    · next h =>
      have h1 := skp_le hp (F := F) (ts := ts) f (k + 1)
      have h2 : k < ts := byt_k (F := F) (fun z => by rw [z, hp] at h; cases h)
      omega
    · omega
theorem nums_b {F : Nat → Int} {ts : Int} : ∀ (f : Nat) (k v : Int), 0 ≤ v → v ≤ 9999 → (k ≤ (nums (byt F ts) f k v).1 ∧ (nums (byt F ts) f k v).1 ≤ max k ts) ∧ (0 ≤ (nums (byt F ts) f k v).2 ∧ (nums (byt F ts) f k v).2 ≤ 9999)
  | 0, k, v, h0, h1 => by
    show (k ≤ k ∧ k ≤ _) ∧ (0 ≤ v ∧ v ≤ 9999)
    omega
  | f + 1, k, v, h0, h1 => by
    unfold nums
    split
    · next h =>
      have hd : 48 ≤ byt F ts k ∧ byt F ts k ≤ 57 := by
        unfold isD at h
        exact of_decide_eq_true h
      have h2 : k < ts := byt_k (F := F) (fun z => by rw [z] at hd; omega)
      have h3 := nums_b (F := F) (ts := ts) f (k + 1) (min 9999 (10 * v + byt F ts k - 48)) (by omega) (by omega)
      omega
    · show (k ≤ k ∧ k ≤ _) ∧ (0 ≤ v ∧ v ≤ 9999)
      omega
theorem setI_v (I : Nat → Int) (e s t v : Int) : (setI I e s t v 8 = e ∧ setI I e s t v 9 = s ∧ setI I e s t v 10 = t ∧ setI I e s t v 11 = v) ∧ ∀ i, i ≠ 8 → i ≠ 9 → i ≠ 10 → i ≠ 11 → setI I e s t v i = I i := by
  unfold setI
  refine ⟨⟨?_, ?_, ?_, ?_⟩, fun i a b c d => ?_⟩
  · simp (disch := decide) only [up_s, up_n]
  · simp (disch := decide) only [up_s, up_n]
  · simp (disch := decide) only [up_s, up_n]
  · simp (disch := decide) only [up_s, up_n]
  · rw [up_n d, up_n c, up_n b, up_n a]
theorem Pin_set {F I : Nat → Int} {e s t v : Int} (h : Pin0 I) (h1 : 0 ≤ s ∧ s ≤ e ∧ e ≤ 401) (h2 : 0 ≤ t ∧ t ≤ 3) (h3 : 0 ≤ v ∧ v ≤ 9999) (h4 : t = 1 → s < e ∧ e ≤ I 7 ∧ ∀ j : Nat, s ≤ (j : Int) → (j : Int) < e → 97 ≤ F j ∧ F j ≤ 122) : Pin F (setI I e s t v) := by
  obtain ⟨⟨e8, e9, e10, e11⟩, eo⟩ := setI_v I e s t v
  unfold Pin Pin0 at *
  rw [e8, e9, e10, e11, eo 7 (by decide) (by decide) (by decide) (by decide), eo 12 (by decide) (by decide) (by decide) (by decide), eo 16 (by decide) (by decide) (by decide) (by decide)]
  exact ⟨⟨h.1, ⟨by omega, by omega⟩, h3, h.2.2.2.1, h.2.2.2.2⟩, ⟨h1.1, h1.2.1⟩, h2, h4⟩
theorem scanI_set (F : Nat → Int) (I : Nat → Int) : ∃ e s t v, scanI F I = setI I e s t v := by
  unfold scanI
  dsimp only
  split
  · exact ⟨_, _, _, _, rfl⟩
  · split
    · exact ⟨_, _, _, _, rfl⟩
    · split
      · exact ⟨_, _, _, _, rfl⟩
      · exact ⟨_, _, _, _, rfl⟩
theorem scanI_o {F I : Nat → Int} {i : Nat} (h : i ≠ 8 ∧ i ≠ 9 ∧ i ≠ 10 ∧ i ≠ 11) : scanI F I i = I i := by
  obtain ⟨e, s, t, v, hq⟩ := scanI_set F I
  rw [hq]
  exact (setI_v I e s t v).2 i h.1 h.2.1 h.2.2.1 h.2.2.2
theorem Pin_scan {F I : Nat → Int} (hF : ∀ j, -128 ≤ F j ∧ F j ≤ 127) (h : Pin0 I) : Pin F (scanI F I) ∧ I 8 ≤ scanI F I 9 := by
  have h0 := h
  unfold Pin0 at h0
  have g1 := skp_ge isW (byt F (I 7)) 500 (I 8)
  have g2 := skp_le (p := isW) (F := F) (ts := I 7) (by decide) 500 (I 8)
  unfold scanI
  dsimp only
  obtain ⟨s, hs⟩ : ∃ s, s = skp isW (byt F (I 7)) 500 (I 8) := ⟨_, rfl⟩
  rw [← hs] at g1 g2 ⊢
  have hb := byt_r (ts := I 7) (k := s) hF
  split
  · rw [(setI_v I s s 0 (I 11)).1.2.1]
    exact ⟨Pin_set h ⟨by omega, by omega, by omega⟩ (by decide) h0.2.2.1 (fun z => absurd z (by decide)), g1⟩
  · next c1 =>
    have hk := byt_k c1
    split
    · next c2 =>
      rw [(setI_v I _ s 1 (I 11)).1.2.1]
      have a1 : s + 1 ≤ skp isA (byt F (I 7)) 500 s := by
        show s + 1 ≤ skp isA (byt F (I 7)) (499 + 1) s
        unfold skp
        rw [if_pos (by unfold isA; exact decide_eq_true c2)]
        exact skp_ge _ _ _ _
      have a2 := skp_le (p := isA) (F := F) (ts := I 7) (by decide) 500 s
      refine ⟨Pin_set h ⟨by omega, by omega, by omega⟩ (by decide) h0.2.2.1 (fun _ => ⟨by omega, by omega, fun j u v => ?_⟩), g1⟩
      have h5 := skp_in (p := isA) (B := byt F (I 7)) 500 s j u v
      have h6 : 97 ≤ byt F (I 7) j ∧ byt F (I 7) j ≤ 122 := by
        unfold isA at h5
        exact of_decide_eq_true h5
      unfold byt at h6
      have h7 := hF j
      rw [Int.toNat_natCast] at h6
      split at h6
      · split at h6 <;> omega
      · omega
    · split
      · rw [(setI_v I _ s 2 _).1.2.1]
        have a1 := nums_b (F := F) (ts := I 7) 500 s 0 (by decide) (by decide)
        exact ⟨Pin_set h ⟨by omega, by omega, by omega⟩ (by decide) a1.2 (fun z => absurd z (by decide)), g1⟩
      · rw [(setI_v I _ s 3 _).1.2.1]
        exact ⟨Pin_set h ⟨by omega, by omega, by omega⟩ (by decide) ⟨by omega, by omega⟩ (fun z => absurd z (by decide)), g1⟩
theorem errI_o {I : Nat → Int} {c : Int} {i : Nat} (h : i ≠ 12 ∧ i ≠ 13) : errI I c i = I i := by
  unfold errI
  split
  · rw [up_n h.2, up_n h.1]
  · rfl
theorem errI_12 {I : Nat → Int} {c : Int} : errI I c 12 = if I 12 = 0 then c else I 12 := by
  unfold errI
  split
  · rw [up_n (by decide), up_s]
  · rfl
theorem errI_id {I : Nat → Int} {c : Int} (h : ¬ I 12 = 0) : errI I c = I := if_neg h
theorem Pin_err {F I : Nat → Int} {c : Int} (hc : 0 ≤ c ∧ c ≤ 9) (h : Pin F I) : Pin F (errI I c) := by
  have e : ∀ i, i ≠ 12 → i ≠ 13 → errI I c i = I i := fun i a b => errI_o ⟨a, b⟩
  unfold Pin Pin0 at *
  rw [e 7 (by decide) (by decide), e 8 (by decide) (by decide), e 9 (by decide) (by decide), e 10 (by decide) (by decide), e 11 (by decide) (by decide), e 16 (by decide) (by decide)]
  refine ⟨⟨h.1.1, h.1.2.1, h.1.2.2.1, ?_, h.1.2.2.2.2⟩, h.2⟩
  rw [errI_12]
  have := h.1.2.2.2.1
  split <;> omega
theorem Pin_if {F I J : Nat → Int} {p : Prop} [Decidable p] (h1 : Pin F I) (h2 : Pin F J) : Pin F (if p then I else J) := by
  split
  · exact h1
  · exact h2
theorem Pin_go {F I : Nat → Int} (hF : ∀ j, -128 ≤ F j ∧ F j ≤ 127) (h : Pin F I) : Pin F (goI F I) := by
  unfold goI
  split
  · exact (Pin_scan hF h.1).1
  · exact h
theorem Pin_nh {F I : Nat → Int} {a b : Int} (h : Pin F I) : Pin F (nhI I a b) := by
  have h1 : Pin F (if I 10 = 2 then I else errI I 1) := Pin_if h (Pin_err (by decide) h)
  exact Pin_if h1 (Pin_err (by decide) h1)
theorem Pin_nb {F I : Nat → Int} {a b : Int} (hF : ∀ j, -128 ≤ F j ∧ F j ≤ 127) (h : Pin F I) : Pin F (nbI F I a b) := Pin_go hF (Pin_nh h)
theorem Pin_tw {F I : Nat → Int} {w : List Int} (hF : ∀ j, -128 ≤ F j ∧ F j ≤ 127) (h : Pin F I) : Pin F (twI F I w) := Pin_go hF (Pin_if h (Pin_err (by decide) h))
theorem Pin_sc {F I : Nat → Int} (hF : ∀ j, -128 ≤ F j ∧ F j ≤ 127) (h : Pin F I) : Pin F (scI F I) := Pin_go hF (Pin_if h (Pin_err (by decide) h))
theorem Pin_nm {F I : Nat → Int} (h : Pin F I) : Pin F (nmI F I) := Pin_if (Pin_err (by decide) h) h
theorem Pin_lh {F I : Nat → Int} {n : Net} (h : Pin F I) : Pin F (lhI F n I) := Pin_if (Pin_err (by decide) (Pin_nm h)) (Pin_nm h)
theorem Pin_ec {F I : Nat → Int} (hF : ∀ j, -128 ≤ F j ∧ F j ≤ 127) (h : Pin F I) : Pin F (ecI F I) := Pin_if (Pin_go hF (Pin_if (Pin_go hF h) (Pin_err (by decide) (Pin_go hF h)))) h
/-- the start never goes back -/
theorem go_9 {F I : Nat → Int} (hF : ∀ j, -128 ≤ F j ∧ F j ≤ 127) (h : Pin F I) : I 9 ≤ goI F I 9 := by
  unfold goI
  split
  · have := (Pin_scan hF h.1).2
    have := h.2.1
    omega
  · exact Int.le_refl _
theorem err_9 {I : Nat → Int} {c : Int} : errI I c 9 = I 9 := errI_o (by decide)
theorem if_9 {I J : Nat → Int} {p : Prop} [Decidable p] {x : Int} (h1 : x ≤ I 9) (h2 : x ≤ J 9) : x ≤ (if p then I else J) 9 := by
  split
  · exact h1
  · exact h2
theorem nh_9 {I : Nat → Int} {a b : Int} : I 9 ≤ nhI I a b 9 := by
  have h1 : I 9 ≤ (if I 10 = 2 then I else errI I 1) 9 := if_9 (Int.le_refl _) (Int.le_of_eq err_9.symm)
  exact if_9 h1 (by rw [err_9]; exact h1)
theorem nb_9 {F I : Nat → Int} {a b : Int} (hF : ∀ j, -128 ≤ F j ∧ F j ≤ 127) (h : Pin F I) : I 9 ≤ nbI F I a b 9 := Int.le_trans nh_9 (go_9 hF (Pin_nh h))
theorem tw_9 {F I : Nat → Int} {w : List Int} (hF : ∀ j, -128 ≤ F j ∧ F j ≤ 127) (h : Pin F I) : I 9 ≤ twI F I w 9 := Int.le_trans (if_9 (Int.le_refl _) (Int.le_of_eq err_9.symm)) (go_9 hF (Pin_if h (Pin_err (by decide) h)))
theorem sc_9 {F I : Nat → Int} (hF : ∀ j, -128 ≤ F j ∧ F j ≤ 127) (h : Pin F I) : I 9 ≤ scI F I 9 := Int.le_trans (if_9 (Int.le_refl _) (Int.le_of_eq err_9.symm)) (go_9 hF (Pin_if h (Pin_err (by decide) h)))
theorem nm_9 {F I : Nat → Int} : I 9 ≤ nmI F I 9 := if_9 (Int.le_of_eq err_9.symm) (Int.le_refl _)
theorem lh_9 {F I : Nat → Int} {n : Net} : I 9 ≤ lhI F n I 9 := if_9 (by rw [err_9]; exact nm_9) nm_9
theorem ec_9 {F I : Nat → Int} (hF : ∀ j, -128 ≤ F j ∧ F j ≤ 127) (h : Pin F I) : I 9 ≤ ecI F I 9 := if_9 (Int.le_trans (go_9 hF h) (Int.le_trans (if_9 (Int.le_refl _) (Int.le_of_eq err_9.symm)) (go_9 hF (Pin_if (Pin_go hF h) (Pin_err (by decide) (Pin_go hF h)))))) (Int.le_refl _)
/-- a name's number -/
theorem nmV_r {F I : Nat → Int} (h : Pin F I) : 0 ≤ nmV F I ∧ nmV F I < 387420489 := by
  unfold nmV
  split
  · next c =>
    have hn : ¬ (I 10 ≠ 1 ∨ 6 < I 8 - I 9 ∨ keyW F I = true) ∨ ¬ I 12 = 0 := by
      by_cases c1 : I 10 ≠ 1 ∨ 6 < I 8 - I 9 ∨ keyW F I = true
      · unfold nmI at c
        rw [if_pos c1, errI_12] at c
        split at c <;> omega
      · exact Or.inl c1
    rcases hn with hn | hn
    · obtain ⟨h1, h2⟩ := not_or.mp hn
      obtain ⟨h3, h4⟩ := not_or.mp h2
      have hP := h.2.2.2 (by omega)
      have hN := h.2.1
      have h5 := nmF_r (F := F) (s := (I 9).toNat) (I 8 - I 9).toNat (fun j hj => hP.2.2 _ (by omega) (by omega))
      have h6 : pw 27 ((I 8 - I 9).toNat + 1) ≤ 387420489 := by
        have : ∀ i : Fin 7, pw 27 ((i : Nat) + 1) ≤ 387420489 := by decide +kernel
        exact this ⟨(I 8 - I 9).toNat, by omega⟩
      omega
    · exfalso
      unfold nmI at c
      split at c
      · rw [errI_12, if_neg hn] at c; exact hn c
      · exact hn c
  · omega
theorem nmI_ok {F I : Nat → Int} (h : nmI F I 12 = 0) : I 12 = 0 ∧ I 10 = 1 ∧ I 8 - I 9 ≤ 6 ∧ keyW F I = false := by
  unfold nmI at h
  split at h
  · next c =>
    rw [errI_12] at h
    split at h <;> omega
  · next c =>
    obtain ⟨h1, h2⟩ := not_or.mp c
    obtain ⟨h3, h4⟩ := not_or.mp h2
    exact ⟨h, by omega, by omega, by simpa using h4⟩
