/-! A text, token by token. -/
def At (F : Nat → Int) (z p : Nat) (v : List Int) : Prop := p + v.length ≤ z ∧ ∀ j : Nat, j < v.length → F (p + j) = v.getD j 0
theorem getD_l {u v : List Int} {j : Nat} (h : j < u.length) : (u ++ v).getD j 0 = u.getD j 0 := by
  rw [List.getD_eq_getElem?_getD, List.getD_eq_getElem?_getD, List.getElem?_append_left h]
theorem getD_q {u v : List Int} {j : Nat} : (u ++ v).getD (u.length + j) 0 = v.getD j 0 := by
  rw [List.getD_eq_getElem?_getD, List.getD_eq_getElem?_getD, List.getElem?_append_right (by omega), show u.length + j - u.length = j by omega]
theorem At_app {F : Nat → Int} {z p : Nat} {u v : List Int} : At F z p (u ++ v) ↔ At F z p u ∧ At F z (p + u.length) v := by
  unfold At
  rw [List.length_append]
  constructor
  · rintro ⟨h1, h2⟩
    refine ⟨⟨by omega, fun j hj => (h2 j (by omega)).trans (getD_l hj)⟩, by omega, fun j hj => ?_⟩
    have h3 := h2 (u.length + j) (by omega)
    rw [getD_q] at h3
    rw [← h3]
    congr 1
    omega
  · rintro ⟨⟨h1, h2⟩, h3, h4⟩
    refine ⟨by omega, fun j hj => ?_⟩
    by_cases c : j < u.length
    · rw [getD_l c]; exact h2 j c
    · obtain ⟨i, rfl⟩ : ∃ i, j = u.length + i := ⟨j - u.length, by omega⟩
      rw [getD_q, ← h4 i (by omega)]
      congr 1
      omega
theorem byt_at {F : Nat → Int} {z p : Nat} {v : List Int} (h : At F z p v) {j : Nat} (hj : j < v.length) (hv : 0 ≤ v.getD j 0) {i : Int} (hi : i = ((p + j : Nat) : Int)) : byt F (z : Int) i = v.getD j 0 := by
  subst hi
  have h1 := h.1
  unfold byt
  rw [if_pos (by omega), Int.toNat_natCast, h.2 j hj, if_neg (by omega)]
theorem skp_at {pr : Int → Bool} {B : Int → Int} : ∀ (m f : Nat) (k : Int), (∀ j : Nat, j < m → pr (B (k + j)) = true) → pr (B (k + m)) = false → m < f → skp pr B f k = k + m
  | 0, 0, _, _, _, h => absurd h (by decide)
  | 0, f + 1, k, _, h, _ => by
    unfold skp
    have h' : pr (B k) = false := by simpa using h
    rw [if_neg (by rw [h']; decide)]
    omega
  | m + 1, 0, _, _, _, h => absurd h (by omega)
  | m + 1, f + 1, k, h1, h2, h3 => by
    unfold skp
    have h0 : pr (B k) = true := by simpa using h1 0 (by omega)
    rw [if_pos h0, skp_at m f (k + 1) (fun j hj => by
      have := h1 (j + 1) (by omega)
      rw [show k + ((j + 1 : Nat) : Int) = k + 1 + (j : Int) by omega] at this
      exact this) (by rw [show k + 1 + (m : Int) = k + ((m + 1 : Nat) : Int) by omega]; exact h2) (by omega)]
    omega
theorem skp_bl {F : Nat → Int} {z p s : Nat} (hs : s = p ∨ s = p + 1 ∧ At F z p [32]) (hb : isW (byt F (z : Int) (s : Int)) = false) : skp isW (byt F (z : Int)) 500 (p : Int) = (s : Int) := by
  rcases hs with rfl | ⟨rfl, h⟩
  · rw [skp_at 0 500 (s : Int) (fun j hj => absurd hj (Nat.not_lt_zero j)) (by simpa using hb) (by decide)]
    omega
  · have h0 : byt F (z : Int) (p : Int) = 32 := byt_at h (j := 0) (by decide) (by decide) rfl
    rw [skp_at 1 500 (p : Int) (fun j hj => by
      obtain rfl : j = 0 := by omega
      have e : (p : Int) + ((0 : Nat) : Int) = (p : Int) := by omega
      rw [e, h0]
      decide) (by rw [show (p : Int) + ((1 : Nat) : Int) = ((p + 1 : Nat) : Int) by omega]; exact hb) (by decide)]
    omega
theorem isW_f {c : Int} (h : ¬ c = 32 ∧ ¬ c = 10) : isW c = false := by
  unfold isW
  exact decide_eq_false (by omega)
theorem scan_word {F I : Nat → Int} {z p s : Nat} {u : List Int} {c : Int} (h7 : I 7 = (z : Int)) (h8 : I 8 = (p : Int)) (hs : s = p ∨ s = p + 1 ∧ At F z p [32]) (hu : At F z s u) (hc : At F z (s + u.length) [c]) (hu0 : 0 < u.length ∧ u.length < 100) (hl : ∀ x ∈ u, 97 ≤ x ∧ x ≤ 122) (hc0 : 0 ≤ c ∧ (c < 97 ∨ 122 < c)) : scanI F I = setI I ((s + u.length : Nat) : Int) (s : Int) 1 (I 11) := by
  have hx : ∀ j : Nat, j < u.length → 97 ≤ byt F (z : Int) ((s : Int) + j) ∧ byt F (z : Int) ((s : Int) + j) ≤ 122 := by
    intro j hj
    have hm : u.getD j 0 ∈ u := by
      rw [List.getD_eq_getElem?_getD, List.getElem?_eq_getElem hj]
      exact List.getElem_mem hj
    have h1 := hl _ hm
    rw [byt_at hu hj (by omega) (by omega)]
    exact h1
  have hx0 := hx 0 hu0.1
  rw [show (s : Int) + ((0 : Nat) : Int) = (s : Int) by omega] at hx0
  have he : byt F (z : Int) ((s : Int) + (u.length : Int)) = c := byt_at hc (j := 0) (by show 0 < 1; decide) hc0.1 (by omega)
  unfold scanI
  dsimp only
  rw [h7, h8, skp_bl hs (isW_f (by omega)), if_neg (by omega), if_pos hx0]
  rw [skp_at u.length 500 (s : Int) (fun j hj => by unfold isA; exact decide_eq_true (hx j hj)) (by rw [he]; unfold isA; exact decide_eq_false (by omega)) (by omega)]
  rw [show (s : Int) + (u.length : Int) = ((s + u.length : Nat) : Int) by omega]
theorem nums_s {B : Int → Int} {f : Nat} {k v : Int} (h : 48 ≤ B k ∧ B k ≤ 57) : nums B (f + 1) k v = nums B f (k + 1) (min 9999 (10 * v + B k - 48)) := if_pos (by unfold isD; exact decide_eq_true h)
theorem nums_e {B : Int → Int} {f : Nat} {k v : Int} (h : ¬ (48 ≤ B k ∧ B k ≤ 57)) : nums B (f + 1) k v = (k, v) := if_neg (by unfold isD; rw [decide_eq_false h]; decide)
theorem scan_num {F I : Nat → Int} {z p s : Nat} {v c : Int} (h7 : I 7 = (z : Int)) (h8 : I 8 = (p : Int)) (hs : s = p ∨ s = p + 1 ∧ At F z p [32]) (hv : 0 ≤ v ∧ v ≤ 127) (hu : At F z s (dg v)) (hc : At F z (s + (dg v).length) [c]) (hc0 : 0 ≤ c ∧ c < 48 ∨ 57 < c) : scanI F I = setI I ((s + (dg v).length : Nat) : Int) (s : Int) 2 v := by
  have he : byt F (z : Int) ((s : Int) + ((dg v).length : Int)) = c := byt_at hc (j := 0) (by show 0 < 1; decide) (by show 0 ≤ c; omega) (by omega)
  have hx : ∀ j : Nat, j < (dg v).length → byt F (z : Int) ((s : Int) + j) = (dg v).getD j 0 := by
    intro j hj
    have := dg_r hv _ (show (dg v).getD j 0 ∈ dg v by
      rw [List.getD_eq_getElem?_getD, List.getElem?_eq_getElem hj]
      exact List.getElem_mem hj)
    exact byt_at hu hj this.1 (by omega)
  have hn : nums (byt F (z : Int)) 500 (s : Int) 0 = ((s : Int) + ((dg v).length : Int), v) ∧ 48 ≤ byt F (z : Int) (s : Int) ∧ byt F (z : Int) (s : Int) ≤ 57 := by
    revert he hx
    unfold dg
    split
    · next c1 =>
      intro he hx
      have x0 := hx 0 (by show 0 < 1; decide)
      rw [show (s : Int) + ((0 : Nat) : Int) = (s : Int) by omega] at x0
      have x0 : byt F (z : Int) (s : Int) = 48 + v := x0
      have he : byt F (z : Int) ((s : Int) + 1) = c := he
      rw [nums_s (by omega), nums_e (by omega), x0]
      exact ⟨Prod.ext rfl (by show min 9999 (10 * 0 + (48 + v) - 48) = v; omega), by omega, by omega⟩
    · next c1 =>
      split
      · next c2 =>
        intro he hx
        have x0 := hx 0 (by show 0 < 2; decide)
        rw [show (s : Int) + ((0 : Nat) : Int) = (s : Int) by omega] at x0
        have x0 : byt F (z : Int) (s : Int) = 48 + v / 10 := x0
        have x1 : byt F (z : Int) ((s : Int) + 1) = 48 + v % 10 := hx 1 (by show 1 < 2; decide)
        have he : byt F (z : Int) ((s : Int) + 2) = c := he
        rw [show (s : Int) + 2 = (s : Int) + 1 + 1 by omega] at he
        rw [nums_s (by omega), nums_s (by omega), nums_e (by omega), x0, x1]
        exact ⟨Prod.ext (by show (s : Int) + 1 + 1 = (s : Int) + 2; omega) (by show min 9999 (10 * (min 9999 (10 * 0 + (48 + v / 10) - 48)) + (48 + v % 10) - 48) = v; omega), by omega, by omega⟩
      · next c2 =>
        intro he hx
        have x0 := hx 0 (by show 0 < 3; decide)
        rw [show (s : Int) + ((0 : Nat) : Int) = (s : Int) by omega] at x0
        have x0 : byt F (z : Int) (s : Int) = 49 := x0
        have x1 : byt F (z : Int) ((s : Int) + 1) = 48 + (v - 100) / 10 := hx 1 (by show 1 < 3; decide)
        have x2 := hx 2 (by show 2 < 3; decide)
        rw [show (s : Int) + ((2 : Nat) : Int) = (s : Int) + 1 + 1 by omega] at x2
        have x2 : byt F (z : Int) ((s : Int) + 1 + 1) = 48 + (v - 100) % 10 := x2
        have he : byt F (z : Int) ((s : Int) + 3) = c := he
        rw [show (s : Int) + 3 = (s : Int) + 1 + 1 + 1 by omega] at he
        rw [nums_s (by omega), nums_s (by omega), nums_s (by omega), nums_e (by omega), x0, x1, x2]
        exact ⟨Prod.ext (by show (s : Int) + 1 + 1 + 1 = (s : Int) + 3; omega) (by show min 9999 (10 * (min 9999 (10 * (min 9999 (10 * 0 + 49 - 48)) + (48 + (v - 100) / 10) - 48)) + (48 + (v - 100) % 10) - 48) = v; omega), by omega, by omega⟩
  unfold scanI
  dsimp only
  rw [h7, h8, skp_bl hs (isW_f (by omega)), if_neg (by omega), if_neg (by omega), if_pos hn.2, hn.1]
  rw [show (s : Int) + ((dg v).length : Int) = ((s + (dg v).length : Nat) : Int) by omega]
theorem scan_sym {F I : Nat → Int} {z p s : Nat} {c : Int} (h7 : I 7 = (z : Int)) (h8 : I 8 = (p : Int)) (hs : s = p ∨ s = p + 1 ∧ At F z p [32]) (hu : At F z s [c]) (hc0 : 32 < c ∧ (c < 48 ∨ 57 < c) ∧ (c < 97 ∨ 122 < c)) : scanI F I = setI I ((s + 1 : Nat) : Int) (s : Int) 3 c := by
  have he : byt F (z : Int) (s : Int) = c := byt_at hu (j := 0) (by show 0 < 1; decide) (by show 0 ≤ c; omega) rfl
  unfold scanI
  dsimp only
  rw [h7, h8, skp_bl hs (isW_f (by omega)), he, if_neg (by omega), if_neg (by omega), if_neg (by omega)]
  rfl
theorem scan_end {F I : Nat → Int} {z : Nat} (h7 : I 7 = (z : Int)) (h8 : I 8 = (z : Int)) : scanI F I = setI I (z : Int) (z : Int) 0 (I 11) := by
  have he : byt F (z : Int) (z : Int) = -1 := if_neg (by omega)
  unfold scanI
  dsimp only
  rw [h7, h8, skp_bl (Or.inl rfl) (by rw [he]; decide), if_pos he]
/-! where the parser stands -/
def St (z : Nat) (J : Nat → Int) (q : Nat) (c : Int) : Prop := J 7 = (z : Int) ∧ J 8 = (q : Int) ∧ J 12 = 0 ∧ J 16 = c
def Wd (F I : Nat → Int) (u : List Int) : Prop := I 10 = 1 ∧ I 8 - I 9 = (u.length : Int) ∧ sameW F (I 9).toNat u u.length = true
def Nu (I : Nat → Int) (v : Int) : Prop := I 10 = 2 ∧ I 11 = v
def Sy (I : Nat → Int) (c : Int) : Prop := I 10 = 3 ∧ I 11 = c
theorem set_St {z : Nat} {J : Nat → Int} {p e : Nat} {c s t v : Int} (h : St z J p c) : St z (setI J (e : Int) s t v) e c := by
  obtain ⟨⟨e8, -, -, -⟩, eo⟩ := setI_v J (e : Int) s t v
  exact ⟨(eo 7 (by decide) (by decide) (by decide) (by decide)).trans h.1, e8, (eo 12 (by decide) (by decide) (by decide) (by decide)).trans h.2.2.1, (eo 16 (by decide) (by decide) (by decide) (by decide)).trans h.2.2.2⟩
theorem sameW_of {F : Nat → Int} {s : Nat} {w : List Int} : ∀ m : Nat, (∀ k : Nat, k < m → F (s + k) = w.getD k 0) → sameW F s w m = true
  | 0, _ => rfl
  | m + 1, h => sameW_s.mpr ⟨sameW_of m (fun k hk => h k (by omega)), h m (by omega)⟩
theorem sameW_at {F : Nat → Int} {s : Nat} {w : List Int} : ∀ m : Nat, sameW F s w m = true → ∀ k : Nat, k < m → F (s + k) = w.getD k 0
  | 0, _, k, hk => absurd hk (Nat.not_lt_zero k)
  | m + 1, h, k, hk => by
    have h1 := sameW_s.mp h
    by_cases e : k = m
    · subst e; exact h1.2
    · exact sameW_at m h1.1 k (by omega)
theorem go_word {F J : Nat → Int} {z p : Nat} {c0 : Int} (h : St z J p c0) {s : Nat} {u : List Int} {c : Int} (hs : s = p ∨ s = p + 1 ∧ At F z p [32]) (hu : At F z s u) (hc : At F z (s + u.length) [c]) (hu0 : 0 < u.length ∧ u.length < 100) (hl : ∀ x ∈ u, 97 ≤ x ∧ x ≤ 122) (hc0 : 0 ≤ c ∧ (c < 97 ∨ 122 < c)) : St z (goI F J) (s + u.length) c0 ∧ Wd F (goI F J) u := by
  have e : goI F J = setI J ((s + u.length : Nat) : Int) (s : Int) 1 (J 11) := (if_pos h.2.2.1).trans (scan_word h.1 h.2.1 hs hu hc hu0 hl hc0)
  rw [e]
  obtain ⟨⟨e8, e9, e10, -⟩, -⟩ := setI_v J ((s + u.length : Nat) : Int) (s : Int) 1 (J 11)
  refine ⟨set_St h, e10, by rw [e8, e9]; omega, ?_⟩
  rw [e9, Int.toNat_natCast]
  exact sameW_of _ hu.2
theorem go_num {F J : Nat → Int} {z p : Nat} {c0 : Int} (h : St z J p c0) {s : Nat} {v c : Int} (hs : s = p ∨ s = p + 1 ∧ At F z p [32]) (hv : 0 ≤ v ∧ v ≤ 127) (hu : At F z s (dg v)) (hc : At F z (s + (dg v).length) [c]) (hc0 : 0 ≤ c ∧ c < 48 ∨ 57 < c) : St z (goI F J) (s + (dg v).length) c0 ∧ Nu (goI F J) v := by
  have e : goI F J = setI J ((s + (dg v).length : Nat) : Int) (s : Int) 2 v := (if_pos h.2.2.1).trans (scan_num h.1 h.2.1 hs hv hu hc hc0)
  rw [e]
  obtain ⟨⟨-, -, e10, e11⟩, -⟩ := setI_v J ((s + (dg v).length : Nat) : Int) (s : Int) 2 v
  exact ⟨set_St h, e10, e11⟩
theorem go_sym {F J : Nat → Int} {z p : Nat} {c0 : Int} (h : St z J p c0) {s : Nat} {c : Int} (hs : s = p ∨ s = p + 1 ∧ At F z p [32]) (hu : At F z s [c]) (hc0 : 32 < c ∧ (c < 48 ∨ 57 < c) ∧ (c < 97 ∨ 122 < c)) : St z (goI F J) (s + [c].length) c0 ∧ Sy (goI F J) c := by
  have e : goI F J = setI J ((s + 1 : Nat) : Int) (s : Int) 3 c := (if_pos h.2.2.1).trans (scan_sym h.1 h.2.1 hs hu hc0)
  rw [e]
  obtain ⟨⟨-, -, e10, e11⟩, -⟩ := setI_v J ((s + 1 : Nat) : Int) (s : Int) 3 c
  exact ⟨set_St h, e10, e11⟩
theorem go_end {F J : Nat → Int} {z : Nat} {c0 : Int} (h : St z J z c0) : St z (goI F J) z c0 ∧ goI F J 10 = 0 := by
  have e : goI F J = setI J (z : Int) (z : Int) 0 (J 11) := (if_pos h.2.2.1).trans (scan_end h.1 h.2.1)
  rw [e]
  exact ⟨set_St h, (setI_v J (z : Int) (z : Int) 0 (J 11)).1.2.2.1⟩
theorem Wd_is {F I : Nat → Int} {u w' : List Int} (h12 : I 12 = 0) (h : Wd F I u) : isWd F I w' = true ↔ w' = u := by
  constructor
  · intro hw
    obtain ⟨⟨-, -, hl⟩, hs⟩ := isWd_iff.mp hw
    have hlen : w'.length = u.length := by have := h.2.1; omega
    have h1 := sameW_at _ hs
    have h2 := sameW_at _ h.2.2
    refine List.ext_getElem hlen (fun i a b => ?_)
    have e1 := h1 i a
    have e2 := h2 i b
    rw [List.getD_eq_getElem?_getD, List.getElem?_eq_getElem a] at e1
    rw [List.getD_eq_getElem?_getD, List.getElem?_eq_getElem b] at e2
    exact e1.symm.trans e2
  · rintro rfl
    exact isWd_iff.mpr ⟨⟨h12, h.1, h.2.1⟩, h.2.2⟩
theorem Wd_no {F I : Nat → Int} {u w' : List Int} (h12 : I 12 = 0) (h : Wd F I u) (hn : ¬ w' = u) : isWd F I w' = false := by
  cases e : isWd F I w' with
  | false => rfl
  | true => exact absurd ((Wd_is h12 h).mp e) hn
theorem tw_ok {F I : Nat → Int} {u : List Int} (h12 : I 12 = 0) (h : Wd F I u) : twI F I u = goI F I := by
  unfold twI
  rw [if_pos ((Wd_is h12 h).mpr rfl)]
theorem nh_ok {I : Nat → Int} {v a b : Int} (h12 : I 12 = 0) (h : Nu I v) (hv : a ≤ v ∧ v ≤ b) : nhI I a b = I ∧ nhV I a b = v := by
  have e : nhI I a b = I := nhI_B h.1 (by rw [h.2]; exact hv)
  exact ⟨e, (nhV_0 (by rw [e]; exact h12)).trans h.2⟩
theorem nb_ok {F I : Nat → Int} {v a b : Int} (h12 : I 12 = 0) (h : Nu I v) (hv : a ≤ v ∧ v ≤ b) : nbI F I a b = goI F I := by
  unfold nbI
  rw [(nh_ok h12 h hv).1]
theorem sc_ok {F I : Nat → Int} (h : Sy I 59) : scI F I = goI F I := by
  unfold scI
  rw [if_pos (show I 10 = 3 ∧ I 11 = 59 from h)]
theorem nm_ok {F I : Nat → Int} {x : Int} (h12 : I 12 = 0) (h : Wd F I [108, x]) : nmI F I = I ∧ nmV F I = 228 + x := by
  have hk : keyW F I = false := by
    unfold keyW
    rw [Wd_no h12 h (by intro z; simp at z), Wd_no h12 h (by intro z; simp at z), Wd_no h12 h (by intro z; simp at z), Wd_no h12 h (by intro z; simp at z), Wd_no h12 h (by intro z; simp at z), Wd_no h12 h (by intro z; simp at z), Wd_no h12 h (by intro z; simp at z), Wd_no h12 h (by intro z; simp at z), Wd_no h12 h (by intro z; simp at z), Wd_no h12 h (by intro z; simp at z), Wd_no h12 h (by intro z; simp at z), Wd_no h12 h (by intro z; simp at z)]
    rfl
  have hl : I 8 - I 9 = 2 := h.2.1
  have e : nmI F I = I := by
    unfold nmI
    rw [if_neg]
    rintro (z | z | z)
    · exact z h.1
    · omega
    · rw [hk] at z; cases z
  refine ⟨e, ?_⟩
  unfold nmV
  rw [e, if_pos h12, hl]
  have h0 := sameW_at _ h.2.2 0 (by show 0 < 2; decide)
  have h1 := sameW_at _ h.2.2 1 (by show 1 < 2; decide)
  have h0 : F ((I 9).toNat + 0) = 108 := h0
  have h1 : F ((I 9).toNat + 1) = x := h1
  show 27 * (27 * 0 + F ((I 9).toNat + 0) - 96) + F ((I 9).toNat + 1) - 96 = 228 + x
  rw [h0, h1]
  omega
