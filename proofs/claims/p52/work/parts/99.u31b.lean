def isNm (v : Int) : Prop := ∃ u : List Int, u.length ≤ 6 ∧ (∀ x ∈ u, 97 ≤ x ∧ x ≤ 122) ∧ wnum u = v
theorem wnum_f (w : List Int) : wnum w = w.foldl (fun v c => 27 * v + c - 96) 0 := by
  cases w <;> rfl
theorem wnum_s (u : List Int) (c : Int) : wnum (u ++ [c]) = 27 * wnum u + c - 96 := by
  rw [wnum_f, wnum_f, List.foldl_append]
  rfl
theorem wnum_pos {u : List Int} (h : ∀ x ∈ u, 97 ≤ x ∧ x ≤ 122) (hu : u ≠ []) : 0 < wnum u := by
  have key : ∀ (u : List Int) (a : Int), 0 ≤ a → (∀ x ∈ u, 97 ≤ x ∧ x ≤ 122) → a ≤ u.foldl (fun v c => 27 * v + c - 96) a := by
    intro u
    induction u with
    | nil => intro a _ _; exact Int.le_refl _
    | cons c t ih =>
      intro a ha h
      have hc := h c List.mem_cons_self
      have := ih (27 * a + c - 96) (by omega) (fun x hx => h x (List.mem_cons_of_mem _ hx))
      show a ≤ t.foldl _ (27 * a + c - 96)
      omega
  cases u with
  | nil => exact absurd rfl hu
  | cons c t =>
    have hc := h c List.mem_cons_self
    have := key t (27 * 0 + c - 96) (by omega) (fun x hx => h x (List.mem_cons_of_mem _ hx))
    show 0 < t.foldl _ (27 * 0 + c - 96)
    omega
/-- the letters of a text, raw and as bytes -/
theorem byt_raw {F : Nat → Int} {z : Int} {j : Nat} (h : (j : Int) < z) (hF : 97 ≤ F j ∧ F j ≤ 122) : byt F z (j : Int) = F j := by
  unfold byt
  rw [if_pos h, Int.toNat_natCast, if_neg (by omega)]
theorem nmF_w {F : Nat → Int} {z : Int} {s : Nat} : ∀ m : Nat, (∀ j : Nat, s ≤ j → j < s + m → (j : Int) < z ∧ 97 ≤ F j ∧ F j ≤ 122) → nmF F s m = wnum (tW F z (s : Int) m)
  | 0, _ => rfl
  | m + 1, h => by
    rw [tW_s, wnum_s, ← nmF_w m (fun j u v => h j u (by omega)), show (s : Int) + (m : Int) = ((s + m : Nat) : Int) by omega, byt_raw (h (s + m) (by omega) (by omega)).1 (h (s + m) (by omega) (by omega)).2]
    rfl
theorem srch_c {p q : Nat → Bool} : ∀ (f k : Nat), (∀ j, k ≤ j → j < k + f → p j = q j) → srch p f k = srch q f k
  | 0, _, _ => rfl
  | f + 1, k, h => by
    unfold srch
    rw [h k (Nat.le_refl _) (by omega), srch_c f (k + 1) (fun j u v => h j (by omega) (by omega))]
/-- the line that a token names -/
theorem named_ok {F : Nat → Int} {z s e : Int} {n m : Net} (hs : 0 ≤ s ∧ s < e ∧ e ≤ z ∧ e - s ≤ 6) (hl : ∀ j : Nat, s ≤ (j : Int) → (j : Int) < e → 97 ≤ F j ∧ F j ≤ 122) (h0 : n (-1) 0 = m (-1) 0) (hm : 0 ≤ m (-1) 0) (hn : ∀ j : Int, 0 ≤ j → j < m (-1) 0 → n j 0 = m j 0 ∧ isNm (m j 0)) : srch (fun k => decide (tW F z s (e - s).toNat = nam (n k 0))) (n (-1) 0).toNat 0 = lnN m (nmF F s.toNat (e - s).toNat) := by
  have hw := nmF_w (F := F) (z := z) (s := s.toNat) (e - s).toNat (fun j u v => ⟨by omega, hl j (by omega) (by omega)⟩)
  rw [show ((s.toNat : Nat) : Int) = s by omega] at hw
  have hlt : ∀ x ∈ tW F z s (e - s).toNat, 97 ≤ x ∧ x ≤ 122 := tW_mem (fun j hj => by
    have := hl (s + (j : Int)).toNat (by omega) (by omega)
    have h2 := byt_raw (z := z) (j := (s + (j : Int)).toNat) (by omega) this
    rw [show (((s + (j : Int)).toNat : Nat) : Int) = s + (j : Int) by omega] at h2
    rw [h2]; exact this)
  have hne : tW F z s (e - s).toNat ≠ [] := fun q => by
    have := tW_len F z s (e - s).toNat
    rw [q] at this
    simp at this
    omega
  unfold lnN
  rw [h0]
  refine srch_c _ _ (fun j u v => ?_)
  obtain ⟨g1, u9, g2, g3, g4⟩ := hn j (by omega) (by omega)
  rw [g1, hw]
  refine decide_eq_decide.mpr ⟨fun q => ⟨wnum_pos hlt hne, ?_⟩, fun q => ?_⟩
  · rw [q, ← g4, namOk_pf u9 g2 g3]
  · rw [q.2, namOk_pf _ (by rw [tW_len]; omega) hlt]
/-! keywords -/
theorem hwK_u {F : Nat → Int} {z s e : Int} {u u' : List Int} (h : hwK F z s e u) (h' : hwK F z s e u') : u = u' := by
  have h1 := tW_u.mpr ⟨(show (e - s).toNat = u.length by have := h.1; omega), h.2⟩
  have h2 := tW_u.mpr ⟨(show (e - s).toNat = u'.length by have := h'.1; omega), h'.2⟩
  exact h1.symm.trans h2
theorem it_n {p : Prop} {inst : Decidable p} {a b k : Int} (h : @ite Int p inst a b = k) (ha : a ≠ k) : b = k := by
  by_cases c : p
  · rw [if_pos c] at h; exact absurd h ha
  · rw [if_neg c] at h; exact h
theorem it_p {p : Prop} {inst : Decidable p} {a b k : Int} (c : ¬ p) (h : @ite Int p inst a b = k) : b = k := by
  rw [if_neg c] at h; exact h
theorem it_r {p : Prop} {inst : Decidable p} {a b : Int} (ha : 4 ≤ a ∧ a ≤ 17) (hb : 4 ≤ b ∧ b ≤ 17) : 4 ≤ @ite Int p inst a b ∧ @ite Int p inst a b ≤ 17 := by
  by_cases c : p
  · rw [if_pos c]; exact ha
  · rw [if_neg c]; exact hb
theorem kc_line {F : Nat → Int} {z s e : Int} : kcF F z s e = 6 ↔ hwK F z s e w_line := by
  constructor
  · intro h
    by_cases q : hwK F z s e w_line
    · exact q
    · exfalso
      unfold kcF at h
      have h := it_n h (by decide)
      have h := it_p q h
      have h := it_n h (by decide)
      have h := it_n h (by decide)
      have h := it_n h (by decide)
      have h := it_n h (by decide)
      have h := it_n h (by decide)
      have h := it_n h (by decide)
      have h := it_n h (by decide)
      have h := it_n h (by decide)
      have h := it_n h (by decide)
      have h := it_n h (by decide)
      have h := it_n h (by decide)
      exact absurd h (by decide)
  · intro h
    unfold kcF
    rw [if_neg (by have h1 : e - s = 4 := h.1; omega), if_pos h]
theorem kc_cap {F : Nat → Int} {z s e : Int} : kcF F z s e = 7 ↔ hwK F z s e w_cap := by
  constructor
  · intro h
    by_cases q : hwK F z s e w_cap
    · exact q
    · exfalso
      unfold kcF at h
      have h := it_n h (by decide)
      have h := it_n h (by decide)
      have h := it_p q h
      have h := it_n h (by decide)
      have h := it_n h (by decide)
      have h := it_n h (by decide)
      have h := it_n h (by decide)
      have h := it_n h (by decide)
      have h := it_n h (by decide)
      have h := it_n h (by decide)
      have h := it_n h (by decide)
      have h := it_n h (by decide)
      have h := it_n h (by decide)
      exact absurd h (by decide)
  · intro h
    unfold kcF
    rw [if_neg (by have h1 : e - s = 3 := h.1; omega), if_neg (fun z => absurd (hwK_u z h) (by decide)), if_pos h]
theorem kc_marks {F : Nat → Int} {z s e : Int} : kcF F z s e = 8 ↔ hwK F z s e w_marks := by
  constructor
  · intro h
    by_cases q : hwK F z s e w_marks
    · exact q
    · exfalso
      unfold kcF at h
      have h := it_n h (by decide)
      have h := it_n h (by decide)
      have h := it_n h (by decide)
      have h := it_p q h
      have h := it_n h (by decide)
      have h := it_n h (by decide)
      have h := it_n h (by decide)
      have h := it_n h (by decide)
      have h := it_n h (by decide)
      have h := it_n h (by decide)
      have h := it_n h (by decide)
      have h := it_n h (by decide)
      have h := it_n h (by decide)
      exact absurd h (by decide)
  · intro h
    unfold kcF
    rw [if_neg (by have h1 : e - s = 5 := h.1; omega), if_neg (fun z => absurd (hwK_u z h) (by decide)), if_neg (fun z => absurd (hwK_u z h) (by decide)), if_pos h]
theorem kc_share {F : Nat → Int} {z s e : Int} : kcF F z s e = 9 ↔ hwK F z s e w_share := by
  constructor
  · intro h
    by_cases q : hwK F z s e w_share
    · exact q
    · exfalso
      unfold kcF at h
      have h := it_n h (by decide)
      have h := it_n h (by decide)
      have h := it_n h (by decide)
      have h := it_n h (by decide)
      have h := it_p q h
      have h := it_n h (by decide)
      have h := it_n h (by decide)
      have h := it_n h (by decide)
      have h := it_n h (by decide)
      have h := it_n h (by decide)
      have h := it_n h (by decide)
      have h := it_n h (by decide)
      have h := it_n h (by decide)
      exact absurd h (by decide)
  · intro h
    unfold kcF
    rw [if_neg (by have h1 : e - s = 5 := h.1; omega), if_neg (fun z => absurd (hwK_u z h) (by decide)), if_neg (fun z => absurd (hwK_u z h) (by decide)), if_neg (fun z => absurd (hwK_u z h) (by decide)), if_pos h]
theorem kc_echo {F : Nat → Int} {z s e : Int} : kcF F z s e = 10 ↔ hwK F z s e w_echo := by
  constructor
  · intro h
    by_cases q : hwK F z s e w_echo
    · exact q
    · exfalso
      unfold kcF at h
      have h := it_n h (by decide)
      have h := it_n h (by decide)
      have h := it_n h (by decide)
      have h := it_n h (by decide)
      have h := it_n h (by decide)
      have h := it_p q h
      have h := it_n h (by decide)
      have h := it_n h (by decide)
      have h := it_n h (by decide)
      have h := it_n h (by decide)
      have h := it_n h (by decide)
      have h := it_n h (by decide)
      have h := it_n h (by decide)
      exact absurd h (by decide)
  · intro h
    unfold kcF
    rw [if_neg (by have h1 : e - s = 4 := h.1; omega), if_neg (fun z => absurd (hwK_u z h) (by decide)), if_neg (fun z => absurd (hwK_u z h) (by decide)), if_neg (fun z => absurd (hwK_u z h) (by decide)), if_neg (fun z => absurd (hwK_u z h) (by decide)), if_pos h]
theorem kc_none {F : Nat → Int} {z s e : Int} : kcF F z s e = 11 ↔ hwK F z s e w_none := by
  constructor
  · intro h
    by_cases q : hwK F z s e w_none
    · exact q
    · exfalso
      unfold kcF at h
      have h := it_n h (by decide)
      have h := it_n h (by decide)
      have h := it_n h (by decide)
      have h := it_n h (by decide)
      have h := it_n h (by decide)
      have h := it_n h (by decide)
      have h := it_p q h
      have h := it_n h (by decide)
      have h := it_n h (by decide)
      have h := it_n h (by decide)
      have h := it_n h (by decide)
      have h := it_n h (by decide)
      have h := it_n h (by decide)
      exact absurd h (by decide)
  · intro h
    unfold kcF
    rw [if_neg (by have h1 : e - s = 4 := h.1; omega), if_neg (fun z => absurd (hwK_u z h) (by decide)), if_neg (fun z => absurd (hwK_u z h) (by decide)), if_neg (fun z => absurd (hwK_u z h) (by decide)), if_neg (fun z => absurd (hwK_u z h) (by decide)), if_neg (fun z => absurd (hwK_u z h) (by decide)), if_pos h]
theorem kc_each {F : Nat → Int} {z s e : Int} : kcF F z s e = 12 ↔ hwK F z s e w_each := by
  constructor
  · intro h
    by_cases q : hwK F z s e w_each
    · exact q
    · exfalso
      unfold kcF at h
      have h := it_n h (by decide)
      have h := it_n h (by decide)
      have h := it_n h (by decide)
      have h := it_n h (by decide)
      have h := it_n h (by decide)
      have h := it_n h (by decide)
      have h := it_n h (by decide)
      have h := it_p q h
      have h := it_n h (by decide)
      have h := it_n h (by decide)
      have h := it_n h (by decide)
      have h := it_n h (by decide)
      have h := it_n h (by decide)
      exact absurd h (by decide)
  · intro h
    unfold kcF
    rw [if_neg (by have h1 : e - s = 4 := h.1; omega), if_neg (fun z => absurd (hwK_u z h) (by decide)), if_neg (fun z => absurd (hwK_u z h) (by decide)), if_neg (fun z => absurd (hwK_u z h) (by decide)), if_neg (fun z => absurd (hwK_u z h) (by decide)), if_neg (fun z => absurd (hwK_u z h) (by decide)), if_neg (fun z => absurd (hwK_u z h) (by decide)), if_pos h]
theorem kc_whole {F : Nat → Int} {z s e : Int} : kcF F z s e = 13 ↔ hwK F z s e w_whole := by
  constructor
  · intro h
    by_cases q : hwK F z s e w_whole
    · exact q
    · exfalso
      unfold kcF at h
      have h := it_n h (by decide)
      have h := it_n h (by decide)
      have h := it_n h (by decide)
      have h := it_n h (by decide)
      have h := it_n h (by decide)
      have h := it_n h (by decide)
      have h := it_n h (by decide)
      have h := it_n h (by decide)
      have h := it_p q h
      have h := it_n h (by decide)
      have h := it_n h (by decide)
      have h := it_n h (by decide)
      have h := it_n h (by decide)
      exact absurd h (by decide)
  · intro h
    unfold kcF
    rw [if_neg (by have h1 : e - s = 5 := h.1; omega), if_neg (fun z => absurd (hwK_u z h) (by decide)), if_neg (fun z => absurd (hwK_u z h) (by decide)), if_neg (fun z => absurd (hwK_u z h) (by decide)), if_neg (fun z => absurd (hwK_u z h) (by decide)), if_neg (fun z => absurd (hwK_u z h) (by decide)), if_neg (fun z => absurd (hwK_u z h) (by decide)), if_neg (fun z => absurd (hwK_u z h) (by decide)), if_pos h]
theorem kc_lend {F : Nat → Int} {z s e : Int} : kcF F z s e = 14 ↔ hwK F z s e w_lend := by
  constructor
  · intro h
    by_cases q : hwK F z s e w_lend
    · exact q
    · exfalso
      unfold kcF at h
      have h := it_n h (by decide)
      have h := it_n h (by decide)
      have h := it_n h (by decide)
      have h := it_n h (by decide)
      have h := it_n h (by decide)
      have h := it_n h (by decide)
      have h := it_n h (by decide)
      have h := it_n h (by decide)
      have h := it_n h (by decide)
      have h := it_p q h
      have h := it_n h (by decide)
      have h := it_n h (by decide)
      have h := it_n h (by decide)
      exact absurd h (by decide)
  · intro h
    unfold kcF
    rw [if_neg (by have h1 : e - s = 4 := h.1; omega), if_neg (fun z => absurd (hwK_u z h) (by decide)), if_neg (fun z => absurd (hwK_u z h) (by decide)), if_neg (fun z => absurd (hwK_u z h) (by decide)), if_neg (fun z => absurd (hwK_u z h) (by decide)), if_neg (fun z => absurd (hwK_u z h) (by decide)), if_neg (fun z => absurd (hwK_u z h) (by decide)), if_neg (fun z => absurd (hwK_u z h) (by decide)), if_neg (fun z => absurd (hwK_u z h) (by decide)), if_pos h]
theorem kc_to {F : Nat → Int} {z s e : Int} : kcF F z s e = 15 ↔ hwK F z s e w_to := by
  constructor
  · intro h
    by_cases q : hwK F z s e w_to
    · exact q
    · exfalso
      unfold kcF at h
      have h := it_n h (by decide)
      have h := it_n h (by decide)
      have h := it_n h (by decide)
      have h := it_n h (by decide)
      have h := it_n h (by decide)
      have h := it_n h (by decide)
      have h := it_n h (by decide)
      have h := it_n h (by decide)
      have h := it_n h (by decide)
      have h := it_n h (by decide)
      have h := it_p q h
      have h := it_n h (by decide)
      have h := it_n h (by decide)
      exact absurd h (by decide)
  · intro h
    unfold kcF
    rw [if_neg (by have h1 : e - s = 2 := h.1; omega), if_neg (fun z => absurd (hwK_u z h) (by decide)), if_neg (fun z => absurd (hwK_u z h) (by decide)), if_neg (fun z => absurd (hwK_u z h) (by decide)), if_neg (fun z => absurd (hwK_u z h) (by decide)), if_neg (fun z => absurd (hwK_u z h) (by decide)), if_neg (fun z => absurd (hwK_u z h) (by decide)), if_neg (fun z => absurd (hwK_u z h) (by decide)), if_neg (fun z => absurd (hwK_u z h) (by decide)), if_neg (fun z => absurd (hwK_u z h) (by decide)), if_pos h]
theorem kc_for {F : Nat → Int} {z s e : Int} : kcF F z s e = 16 ↔ hwK F z s e w_for := by
  constructor
  · intro h
    by_cases q : hwK F z s e w_for
    · exact q
    · exfalso
      unfold kcF at h
      have h := it_n h (by decide)
      have h := it_n h (by decide)
      have h := it_n h (by decide)
      have h := it_n h (by decide)
      have h := it_n h (by decide)
      have h := it_n h (by decide)
      have h := it_n h (by decide)
      have h := it_n h (by decide)
      have h := it_n h (by decide)
      have h := it_n h (by decide)
      have h := it_n h (by decide)
      have h := it_p q h
      have h := it_n h (by decide)
      exact absurd h (by decide)
  · intro h
    unfold kcF
    rw [if_neg (by have h1 : e - s = 3 := h.1; omega), if_neg (fun z => absurd (hwK_u z h) (by decide)), if_neg (fun z => absurd (hwK_u z h) (by decide)), if_neg (fun z => absurd (hwK_u z h) (by decide)), if_neg (fun z => absurd (hwK_u z h) (by decide)), if_neg (fun z => absurd (hwK_u z h) (by decide)), if_neg (fun z => absurd (hwK_u z h) (by decide)), if_neg (fun z => absurd (hwK_u z h) (by decide)), if_neg (fun z => absurd (hwK_u z h) (by decide)), if_neg (fun z => absurd (hwK_u z h) (by decide)), if_neg (fun z => absurd (hwK_u z h) (by decide)), if_pos h]
theorem kc_type {F : Nat → Int} {z s e : Int} : kcF F z s e = 17 ↔ hwK F z s e w_type := by
  constructor
  · intro h
    by_cases q : hwK F z s e w_type
    · exact q
    · exfalso
      unfold kcF at h
      have h := it_n h (by decide)
      have h := it_n h (by decide)
      have h := it_n h (by decide)
      have h := it_n h (by decide)
      have h := it_n h (by decide)
      have h := it_n h (by decide)
      have h := it_n h (by decide)
      have h := it_n h (by decide)
      have h := it_n h (by decide)
      have h := it_n h (by decide)
      have h := it_n h (by decide)
      have h := it_n h (by decide)
      have h := it_p q h
      exact absurd h (by decide)
  · intro h
    unfold kcF
    rw [if_neg (by have h1 : e - s = 4 := h.1; omega), if_neg (fun z => absurd (hwK_u z h) (by decide)), if_neg (fun z => absurd (hwK_u z h) (by decide)), if_neg (fun z => absurd (hwK_u z h) (by decide)), if_neg (fun z => absurd (hwK_u z h) (by decide)), if_neg (fun z => absurd (hwK_u z h) (by decide)), if_neg (fun z => absurd (hwK_u z h) (by decide)), if_neg (fun z => absurd (hwK_u z h) (by decide)), if_neg (fun z => absurd (hwK_u z h) (by decide)), if_neg (fun z => absurd (hwK_u z h) (by decide)), if_neg (fun z => absurd (hwK_u z h) (by decide)), if_neg (fun z => absurd (hwK_u z h) (by decide)), if_pos h]
theorem kc_r {F : Nat → Int} {z s e : Int} : 4 ≤ kcF F z s e ∧ kcF F z s e ≤ 17 := by
  unfold kcF
  exact it_r (by decide) (it_r (by decide) (it_r (by decide) (it_r (by decide) (it_r (by decide) (it_r (by decide) (it_r (by decide) (it_r (by decide) (it_r (by decide) (it_r (by decide) (it_r (by decide) (it_r (by decide) (it_r (by decide) (by decide)))))))))))))
theorem kc_4 {F : Nat → Int} {z s e : Int} : kcF F z s e = 4 ↔ ¬ 6 < e - s ∧ ¬ hwK F z s e w_line ∧ ¬ hwK F z s e w_cap ∧ ¬ hwK F z s e w_marks ∧ ¬ hwK F z s e w_share ∧ ¬ hwK F z s e w_echo ∧ ¬ hwK F z s e w_none ∧ ¬ hwK F z s e w_each ∧ ¬ hwK F z s e w_whole ∧ ¬ hwK F z s e w_lend ∧ ¬ hwK F z s e w_to ∧ ¬ hwK F z s e w_for ∧ ¬ hwK F z s e w_type := by
  constructor
  · intro h
    have h9 : ∀ w k, (∀ s e : Int, kcF F z s e = k ↔ hwK F z s e w) → ¬ k = 4 → ¬ hwK F z s e w := fun w k hk h4 q => h4 (((hk s e).mpr q).symm.trans h)
    refine ⟨fun q => ?_, h9 w_line 6 (fun _ _ => kc_line) (by decide), h9 w_cap 7 (fun _ _ => kc_cap) (by decide), h9 w_marks 8 (fun _ _ => kc_marks) (by decide), h9 w_share 9 (fun _ _ => kc_share) (by decide), h9 w_echo 10 (fun _ _ => kc_echo) (by decide), h9 w_none 11 (fun _ _ => kc_none) (by decide), h9 w_each 12 (fun _ _ => kc_each) (by decide), h9 w_whole 13 (fun _ _ => kc_whole) (by decide), h9 w_lend 14 (fun _ _ => kc_lend) (by decide), h9 w_to 15 (fun _ _ => kc_to) (by decide), h9 w_for 16 (fun _ _ => kc_for) (by decide), h9 w_type 17 (fun _ _ => kc_type) (by decide)⟩
    unfold kcF at h
    rw [if_pos q] at h
    omega
  · rintro ⟨h0, h1, h2, h3, h4, h5, h6, h7, h8, h9, h10, h11, h12⟩
    unfold kcF
    rw [if_neg h0, if_neg h1, if_neg h2, if_neg h3, if_neg h4, if_neg h5, if_neg h6, if_neg h7, if_neg h8, if_neg h9, if_neg h10, if_neg h11, if_neg h12]
theorem hw_sw {F : Nat → Int} {z : Int} {s : Nat} {w : List Int} : ∀ k : Nat, (∀ j : Nat, s ≤ j → j < s + k → (j : Int) < z ∧ 97 ≤ F j ∧ F j ≤ 122) → (hwQ F z (s : Int) w k = true ↔ sameW F s w k = true)
  | 0, _ => Iff.rfl
  | k + 1, h => by
    rw [hwQ_s, sameW_s, hw_sw k (fun j u v => h j u (by omega)), show (s : Int) + (k : Int) = ((s + k : Nat) : Int) by omega, byt_raw (h (s + k) (by omega) (by omega)).1 (h (s + k) (by omega) (by omega)).2]
/-- the class's token beside the reference's -/
def TR (F : Nat → Int) (z : Int) (I J : Nat → Int) : Prop := (I 7 = z ∧ J 2 = I 9 ∧ J 3 = I 8) ∧ (I 10 = 0 → J 1 = 0) ∧ (I 10 = 2 → J 1 = 1 ∧ J 4 = min 1000 (I 11)) ∧ (I 10 = 3 → J 1 = if I 11 = 59 then 2 else 3) ∧ (I 10 = 1 → J 1 = kcF F z (I 9) (I 8)) ∧ (0 ≤ J 4 ∧ J 4 ≤ 1000)
/-- alive, with all that holds of such numbers -/
def AL (F : Nat → Int) (z : Int) (I J : Nat → Int) : Prop := I 12 = 0 ∧ Pin F I ∧ TR F z I J
theorem AL_wd {F : Nat → Int} {z : Int} {I J : Nat → Int} (h : AL F z I J) (h1 : I 10 = 1) (w : List Int) : hwK F z (I 9) (I 8) w ↔ isWd F I w = true := by
  obtain ⟨h0, hP, ⟨h7, -, -⟩, -⟩ := h
  have hw := hP.2.2.2 h1
  have h9 := hP.2.1
  rw [isWd_iff]
  constructor
  · rintro ⟨a, b⟩
    refine ⟨⟨h0, h1, a⟩, ?_⟩
    have e := hw_sw (F := F) (z := z) (s := (I 9).toNat) (w := w) w.length (fun j u v => ⟨by omega, hw.2.2 j (by omega) (by omega)⟩)
    rw [show (((I 9).toNat : Nat) : Int) = I 9 by omega] at e
    exact e.mp b
  · rintro ⟨⟨-, -, a⟩, b⟩
    refine ⟨a, ?_⟩
    have e := hw_sw (F := F) (z := z) (s := (I 9).toNat) (w := w) w.length (fun j u v => ⟨by omega, hw.2.2 j (by omega) (by omega)⟩)
    rw [show (((I 9).toNat : Nat) : Int) = I 9 by omega] at e
    exact e.mpr b
theorem AL_k {F : Nat → Int} {z : Int} {I J : Nat → Int} (h : AL F z I J) : (I 10 = 0 ∧ J 1 = 0) ∨ (I 10 = 1 ∧ J 1 = kcF F z (I 9) (I 8)) ∨ (I 10 = 2 ∧ J 1 = 1) ∨ (I 10 = 3 ∧ J 1 = if I 11 = 59 then 2 else 3) := by
  obtain ⟨h0, hP, -, t0, t2, t3, t1, -⟩ := h
  have h10 := hP.2.2.1
  have hc : I 10 = 0 ∨ I 10 = 1 ∨ I 10 = 2 ∨ I 10 = 3 := by omega
  rcases hc with c | c | c | c
  · exact Or.inl ⟨c, t0 c⟩
  · exact Or.inr (Or.inl ⟨c, t1 c⟩)
  · exact Or.inr (Or.inr (Or.inl ⟨c, (t2 c).1⟩))
  · exact Or.inr (Or.inr (Or.inr ⟨c, t3 c⟩))
theorem AL_r {F : Nat → Int} {z : Int} {I J : Nat → Int} (h : AL F z I J) : 0 ≤ J 1 ∧ J 1 ≤ 17 := by
  have hr := kc_r (F := F) (z := z) (s := I 9) (e := I 8)
  rcases AL_k h with c | c | c | c
  · omega
  · omega
  · omega
  · have := c.2
    split at this <;> omega
theorem AL_kw {F : Nat → Int} {z : Int} {I J : Nat → Int} (h : AL F z I J) {k : Int} {w : List Int} (hk : ∀ s e : Int, kcF F z s e = k ↔ hwK F z s e w) (h4 : 4 < k) : J 1 = k ↔ isWd F I w = true := by
  have hr := kc_r (F := F) (z := z) (s := I 9) (e := I 8)
  constructor
  · intro q
    rcases AL_k h with c | c | c | c
    · omega
    · rw [← AL_wd h c.1, ← hk, ← c.2]; exact q
    · omega
    · have := c.2
      split at this <;> omega
  · intro q
    have h1 := (isWd_iff.mp q).1.2.1
    rcases AL_k h with c | c | c | c
    · omega
    · rw [c.2, hk, AL_wd h c.1]; exact q
    · omega
    · omega
theorem AL_end {F : Nat → Int} {z : Int} {I J : Nat → Int} (h : AL F z I J) : J 1 = 0 ↔ I 10 = 0 := by
  have hr := kc_r (F := F) (z := z) (s := I 9) (e := I 8)
  rcases AL_k h with c | c | c | c
  · omega
  · omega
  · omega
  · have := c.2
    split at this <;> omega
theorem AL_num {F : Nat → Int} {z : Int} {I J : Nat → Int} (h : AL F z I J) : J 1 = 1 ↔ I 10 = 2 := by
  have hr := kc_r (F := F) (z := z) (s := I 9) (e := I 8)
  rcases AL_k h with c | c | c | c
  · omega
  · omega
  · omega
  · have := c.2
    split at this <;> omega
theorem AL_semi {F : Nat → Int} {z : Int} {I J : Nat → Int} (h : AL F z I J) : J 1 = 2 ↔ I 10 = 3 ∧ I 11 = 59 := by
  have hr := kc_r (F := F) (z := z) (s := I 9) (e := I 8)
  rcases AL_k h with c | c | c | c
  · omega
  · omega
  · omega
  · have := c.2
    split at this <;> omega
theorem AL_name {F : Nat → Int} {z : Int} {I J : Nat → Int} (h : AL F z I J) : J 1 = 4 ↔ ¬ (I 10 ≠ 1 ∨ 6 < I 8 - I 9 ∨ keyW F I = true) := by
  have hr := kc_r (F := F) (z := z) (s := I 9) (e := I 8)
  have key : I 10 = 1 → (kcF F z (I 9) (I 8) = 4 ↔ ¬ 6 < I 8 - I 9 ∧ ¬ keyW F I = true) := fun h1 => by
    rw [kc_4]
    have e : ∀ w, hwK F z (I 9) (I 8) w ↔ isWd F I w = true := AL_wd h h1
    rw [keyW]
    simp only [e, Bool.or_eq_true, not_or]
  rcases AL_k h with c | c | c | c
  · omega
  · rw [c.2, key c.1]
    constructor
    · rintro ⟨a, b⟩ (q | q | q)
      · exact q c.1
      · exact a q
      · exact b q
    · intro q
      exact ⟨fun z => q (Or.inr (Or.inl z)), fun z => q (Or.inr (Or.inr z))⟩
  · omega
  · constructor
    · intro q
      have := c.2
      split at this <;> omega
    · intro q
      exact absurd (Or.inl (by omega)) q
theorem byt_end {F : Nat → Int} {z s : Int} (hF : ∀ j, -128 ≤ F j ∧ F j ≤ 127) : byt F z s = -1 ↔ z ≤ s := by
  unfold byt
  have := hF s.toNat
  split
  · constructor
    · split <;> omega
    · omega
  · omega
theorem num_K {B : Int → Int} : ∀ (f : Nat) (k v : Int), 0 ≤ v → (numK B f k (min 1000 v)).1 = (nums B f k v).1 ∧ (numK B f k (min 1000 v)).2 = min 1000 (nums B f k v).2
  | 0, k, v, _ => ⟨rfl, rfl⟩
  | f + 1, k, v, h => by
    unfold numK nums
    by_cases c : isD (B k) = true
    · rw [if_pos c, if_pos c]
      have hd : 48 ≤ B k ∧ B k ≤ 57 := by
        unfold isD at c
        exact of_decide_eq_true c
      have h1 := num_K (B := B) f (k + 1) (min 9999 (10 * v + B k - 48)) (by omega)
      rw [show min 1000 (min 1000 v * 10 + B k - 48) = min 1000 (min 9999 (10 * v + B k - 48)) by omega]
      exact h1
    · rw [if_neg c, if_neg c]
      exact ⟨rfl, rfl⟩
/-- the next token -/
theorem TR_scan {F : Nat → Int} {z v : Int} {I : Nat → Int} (hF : ∀ j, -128 ≤ F j ∧ F j ≤ 127) (hP : Pin0 I) (h7 : I 7 = z) (hv : 0 ≤ v ∧ v ≤ 1000) : TR F z (scanI F I) (tkN F z v (I 8)) := by
  have g1 := skp_ge isW (byt F z) 500 (I 8)
  have h0 := hP
  unfold Pin0 at h0
  unfold scanI tkN
  dsimp only
  rw [h7]
  obtain ⟨s, hs⟩ : ∃ s, s = skp isW (byt F z) 500 (I 8) := ⟨_, rfl⟩
  rw [← hs] at g1 ⊢
  have hE := byt_end (z := z) (s := s) hF
  unfold tkM TR
  by_cases c1 : byt F z s = -1
  · rw [if_pos c1, if_pos (hE.mp c1)]
    obtain ⟨⟨e8, e9, e10, e11⟩, eo⟩ := setI_v I s s 0 (I 11)
    rw [e8, e9, e10, e11, eo 7 (by decide) (by decide) (by decide) (by decide)]
    exact ⟨⟨h7, rfl, rfl⟩, fun _ => rfl, fun q => absurd q (by decide), fun q => absurd q (by decide), fun q => absurd q (by decide), hv⟩
  · rw [if_neg c1, if_neg (fun q => c1 (hE.mpr q))]
    by_cases c2 : 97 ≤ byt F z s ∧ byt F z s ≤ 122
    · rw [if_pos c2, if_pos c2]
      obtain ⟨⟨e8, e9, e10, e11⟩, eo⟩ := setI_v I (skp isA (byt F z) 500 s) s 1 (I 11)
      rw [e8, e9, e10, e11, eo 7 (by decide) (by decide) (by decide) (by decide)]
      exact ⟨⟨h7, rfl, rfl⟩, fun q => absurd q (by decide), fun q => absurd q (by decide), fun q => absurd q (by decide), fun _ => rfl, hv⟩
    · rw [if_neg c2, if_neg c2]
      by_cases c3 : 48 ≤ byt F z s ∧ byt F z s ≤ 57
      · rw [if_pos c3, if_pos c3]
        obtain ⟨⟨e8, e9, e10, e11⟩, eo⟩ := setI_v I (nums (byt F z) 500 s 0).1 s 2 (nums (byt F z) 500 s 0).2
        rw [e8, e9, e10, e11, eo 7 (by decide) (by decide) (by decide) (by decide)]
        have hk := num_K (B := byt F z) 500 s 0 (by decide)
        rw [show min (1000 : Int) 0 = 0 from rfl] at hk
        have hb := numK_b (F := F) (ts := z) 500 s 0 (by decide) (by decide)
        exact ⟨⟨h7, rfl, hk.1⟩, fun q => absurd q (by decide), fun _ => ⟨rfl, hk.2⟩, fun q => absurd q (by decide), fun q => absurd q (by decide), hb.2⟩
      · rw [if_neg c3, if_neg c3]
        obtain ⟨⟨e8, e9, e10, e11⟩, eo⟩ := setI_v I (s + 1) s 3 (byt F z s)
        rw [e8, e9, e10, e11, eo 7 (by decide) (by decide) (by decide) (by decide)]
        exact ⟨⟨h7, rfl, rfl⟩, fun q => absurd q (by decide), fun q => absurd q (by decide), fun _ => rfl, fun q => absurd q (by decide), hv⟩
theorem AL_scan {F : Nat → Int} {z v : Int} {I : Nat → Int} (hF : ∀ j, -128 ≤ F j ∧ F j ≤ 127) (hP : Pin0 I) (h12 : I 12 = 0) (h7 : I 7 = z) (hv : 0 ≤ v ∧ v ≤ 1000) : AL F z (scanI F I) (tkN F z v (I 8)) :=
  ⟨(scanI_o (by decide)).trans h12, (Pin_scan hF hP).1, TR_scan hF hP h7 hv⟩
