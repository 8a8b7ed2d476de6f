/-! The statements of a text. -/
def PSt (F : Nat → Int) (z q : Nat) (n : Net) (c : Int) (TL TB : Nat → Int) (s : paSt) : Prop := ∃ J, s = (goI F J, n, TL, TB) ∧ St z J q c
/-- what is left of the text -/
def Rem (F : Nat → Int) (z q : Nat) (v : List Int) : Prop := q + v.length = z ∧ ∀ j : Nat, j < v.length → F (q + j) = v.getD j 0
theorem Rem_app {F : Nat → Int} {z q : Nat} {u v : List Int} (h : Rem F z q (u ++ v)) : At F z q u ∧ Rem F z (q + u.length) v := by
  have h1 := h.1
  rw [List.length_append] at h1
  have h2 := At_app.mp (show At F z q (u ++ v) from ⟨by rw [List.length_append]; omega, h.2⟩)
  exact ⟨h2.1, by omega, h2.2.2⟩
theorem Rem_hd {F : Nat → Int} {z q : Nat} {c : Int} {R : List Int} (h : Rem F z q (c :: R)) : At F z q [c] := (Rem_app (u := [c]) (v := R) h).1
theorem bl_s {F : Nat → Int} {z p : Nat} {bl v : List Int} (hb : bl = [] ∨ bl = [32]) (h : Rem F z p (bl ++ v)) : ∃ s, (s = p ∨ s = p + 1 ∧ At F z p [32]) ∧ Rem F z s v := by
  rcases hb with rfl | rfl
  · exact ⟨p, Or.inl rfl, h⟩
  · have h1 := Rem_app h
    exact ⟨p + 1, Or.inr ⟨rfl, h1.1⟩, h1.2⟩
theorem gw {F J : Nat → Int} {z p : Nat} {c0 : Int} {bl u V : List Int} (h : St z J p c0) (hb : bl = [] ∨ bl = [32]) (hr : Rem F z p (bl ++ (u ++ V))) (hV : ∃ c R, V = c :: R ∧ 0 ≤ c ∧ (c < 97 ∨ 122 < c)) (hu0 : 0 < u.length ∧ u.length < 100) (hl : ∀ x ∈ u, 97 ≤ x ∧ x ≤ 122) : ∃ e, Rem F z e V ∧ St z (goI F J) e c0 ∧ Wd F (goI F J) u := by
  obtain ⟨s, hs, h1⟩ := bl_s hb hr
  obtain ⟨h2, h3⟩ := Rem_app h1
  obtain ⟨c, R, rfl, hc⟩ := hV
  exact ⟨s + u.length, h3, go_word h hs h2 (Rem_hd h3) hu0 hl hc⟩
theorem gn {F J : Nat → Int} {z p : Nat} {c0 : Int} {bl V : List Int} {v : Int} (h : St z J p c0) (hb : bl = [] ∨ bl = [32]) (hr : Rem F z p (bl ++ (dg v ++ V))) (hv : 0 ≤ v ∧ v ≤ 127) (hV : ∃ c R, V = c :: R ∧ (0 ≤ c ∧ c < 48 ∨ 57 < c)) : ∃ e, Rem F z e V ∧ St z (goI F J) e c0 ∧ Nu (goI F J) v := by
  obtain ⟨s, hs, h1⟩ := bl_s hb hr
  obtain ⟨h2, h3⟩ := Rem_app h1
  obtain ⟨c, R, rfl, hc⟩ := hV
  exact ⟨s + (dg v).length, h3, go_num h hs hv h2 (Rem_hd h3) hc⟩
theorem gs {F J : Nat → Int} {z p : Nat} {c0 : Int} {bl V : List Int} {c : Int} (h : St z J p c0) (hb : bl = [] ∨ bl = [32]) (hr : Rem F z p (bl ++ ([c] ++ V))) (hc0 : 32 < c ∧ (c < 48 ∨ 57 < c) ∧ (c < 97 ∨ 122 < c)) : ∃ e, Rem F z e V ∧ St z (goI F J) e c0 ∧ Sy (goI F J) c := by
  obtain ⟨s, hs, h1⟩ := bl_s hb hr
  obtain ⟨h2, h3⟩ := Rem_app h1
  exact ⟨s + [c].length, h3, go_sym h hs h2 hc0⟩
theorem gw0 {F J : Nat → Int} {z p : Nat} {c0 : Int} {u V : List Int} (h : St z J p c0) (hr : Rem F z p (u ++ V)) (hV : ∃ c R, V = c :: R ∧ 0 ≤ c ∧ (c < 97 ∨ 122 < c)) (hu0 : 0 < u.length ∧ u.length < 100) (hl : ∀ x ∈ u, 97 ≤ x ∧ x ≤ 122) : ∃ e, Rem F z e V ∧ St z (goI F J) e c0 ∧ Wd F (goI F J) u := gw (bl := []) h (Or.inl rfl) (show Rem F z p ([] ++ (u ++ V)) from hr) hV hu0 hl
theorem gs0 {F J : Nat → Int} {z p : Nat} {c0 : Int} {V : List Int} {c : Int} (h : St z J p c0) (hr : Rem F z p ([c] ++ V)) (hc0 : 32 < c ∧ (c < 48 ∨ 57 < c) ∧ (c < 97 ∨ 122 < c)) : ∃ e, Rem F z e V ∧ St z (goI F J) e c0 ∧ Sy (goI F J) c := gs (bl := []) h (Or.inl rfl) (show Rem F z p ([] ++ ([c] ++ V)) from hr) hc0
def ecT (ec : Int) (R : List Int) : List Int := if ec = 1 then [32] ++ (w_echo ++ ([32] ++ (w_none ++ R))) else if ec = 2 then [32] ++ (w_echo ++ ([32] ++ (w_each ++ R))) else if ec = 3 then [32] ++ (w_echo ++ ([32] ++ (w_whole ++ R))) else R
def ecv (ec : Int) : Int := if ec = 2 then 1 else if ec = 3 then 2 else 0
def lineT (x cap lo hi sh ec : Int) (R : List Int) : List Int := w_line ++ ([32] ++ ([108, x] ++ ([32] ++ (w_cap ++ ([32] ++ (dg cap ++ ([32] ++ (w_marks ++ ([32] ++ (dg lo ++ ([32] ++ (dg hi ++ ([32] ++ (w_share ++ ([32] ++ (dg sh ++ ecT ec ([59] ++ R)))))))))))))))))
def lendT (x y t : Int) (R : List Int) : List Int := w_lend ++ ([32] ++ ([108, x] ++ ([32] ++ (w_to ++ ([32] ++ ([108, y] ++ ([32] ++ (w_for ++ ([32] ++ (dg t ++ ([59] ++ R)))))))))))
/-- the numbers i .. i + m - 1 -/
def numsT (f : Nat → Int) : Nat → Nat → List Int → List Int
  | _, 0, R => R
  | i, m + 1, R => [32] ++ (dg (f i) ++ numsT f (i + 1) m R)
def typeT (x : Int) (f : Nat → Int) (m : Nat) (R : List Int) : List Int := w_type ++ ([32] ++ ([108, x] ++ numsT f 0 m ([59] ++ R)))
theorem lt_w {u : List Int} (h : (u.all (fun x => decide (97 ≤ x ∧ x ≤ 122))) = true) : ∀ x ∈ u, 97 ≤ x ∧ x ≤ 122 := fun x hx => of_decide_eq_true (List.all_eq_true.mp h x hx)
theorem lx_r {x : Int} (hx : 97 ≤ x ∧ x ≤ 122) : ∀ y ∈ [108, x], 97 ≤ y ∧ y ≤ 122 := fun y hy => by
  simp only [List.mem_cons, List.not_mem_nil, or_false] at hy
  omega
theorem lx_l (x : Int) : 0 < [108, x].length ∧ [108, x].length < 100 := by
  show 0 < 2 ∧ 2 < 100
  decide
theorem hd_b {R : List Int} : ∃ c R', [32] ++ R = c :: R' ∧ 0 ≤ c ∧ (c < 97 ∨ 122 < c) := ⟨32, R, rfl, by decide⟩
theorem hd_n {R : List Int} : ∃ c R', [32] ++ R = c :: R' ∧ (0 ≤ c ∧ c < 48 ∨ 57 < c) := ⟨32, R, rfl, by decide⟩
theorem hd_s {R : List Int} : ∃ c R', [59] ++ R = c :: R' ∧ 0 ≤ c ∧ (c < 97 ∨ 122 < c) := ⟨59, R, rfl, by decide⟩
theorem hd_t {R : List Int} : ∃ c R', [59] ++ R = c :: R' ∧ (0 ≤ c ∧ c < 48 ∨ 57 < c) := ⟨59, R, rfl, by decide⟩
theorem hd_e {ec : Int} {R : List Int} : ∃ c R', ecT ec ([59] ++ R) = c :: R' ∧ (0 ≤ c ∧ c < 48 ∨ 57 < c) := by
  unfold ecT
  split
  · exact hd_n
  · split
    · exact hd_n
    · split
      · exact hd_n
      · exact hd_t
/-- the echo of a line -/
theorem ec_ok {F I8 : Nat → Int} {z y : Nat} {c ec : Int} {R : List Int} (s8 : St z I8 y c) (ht : Rem F z y (ecT ec ([59] ++ R))) (hec : 0 ≤ ec ∧ ec ≤ 3) : ∃ I9 e, ecI F (goI F I8) = I9 ∧ ecV F (goI F I8) = ecv ec ∧ Rem F z e R ∧ St z I9 e c ∧ Sy I9 59 := by
  have word : ∀ (u : List Int) (v : Int), Rem F z y ([32] ++ (w_echo ++ ([32] ++ (u ++ ([59] ++ R))))) → (0 < u.length ∧ u.length < 100) → (∀ x ∈ u, 97 ≤ x ∧ x ≤ 122) → (u = w_none ∧ v = 0 ∨ u = w_each ∧ v = 1 ∨ u = w_whole ∧ v = 2) → ∃ I9 e, ecI F (goI F I8) = I9 ∧ ecV F (goI F I8) = v ∧ Rem F z e R ∧ St z I9 e c ∧ Sy I9 59 := by
    intro u v ha hu0 hul huv
    obtain ⟨y1, ha, u1, v1⟩ := gw s8 (Or.inr rfl) ha hd_b (by decide) (lt_w (by decide))
    obtain ⟨y2, ha, u2, v2⟩ := gw u1 (Or.inr rfl) ha hd_s hu0 hul
    obtain ⟨y3, ha, u3, v3⟩ := gs0 u2 ha (by decide)
    have i1 : isWd F (goI F I8) w_echo = true := (Wd_is u1.2.2.1 v1).mpr rfl
    have key := fun w' => Wd_is (w' := w') u2.2.2.1 v2
    refine ⟨goI F (goI F (goI F I8)), y3, ?_, ?_, ha, u3, v3⟩
    · unfold ecI
      rw [if_pos i1]
      have hor : isWd F (goI F (goI F I8)) w_each = true ∨ isWd F (goI F (goI F I8)) w_whole = true ∨ isWd F (goI F (goI F I8)) w_none = true := by
        rcases huv with ⟨rfl, -⟩ | ⟨rfl, -⟩ | ⟨rfl, -⟩
        · exact Or.inr (Or.inr ((key _).mpr rfl))
        · exact Or.inl ((key _).mpr rfl)
        · exact Or.inr (Or.inl ((key _).mpr rfl))
      rw [if_pos hor]
    · unfold ecV
      rw [if_pos i1]
      rcases huv with ⟨rfl, rfl⟩ | ⟨rfl, rfl⟩ | ⟨rfl, rfl⟩
      · rw [if_neg (fun z9 => by have := (key _).mp z9; revert this; decide), if_neg (fun z9 => by have := (key _).mp z9; revert this; decide)]
      · rw [if_pos ((key _).mpr rfl)]
      · rw [if_neg (fun z9 => by have := (key _).mp z9; revert this; decide), if_pos ((key _).mpr rfl)]
  rcases (by omega : ec = 0 ∨ ec = 1 ∨ ec = 2 ∨ ec = 3) with rfl | rfl | rfl | rfl
  · obtain ⟨y1, ha, u1, v1⟩ := gs0 (c := 59) s8 ht (by decide)
    have i1 : ¬ isWd F (goI F I8) w_echo = true := fun z9 => by
      have := (isWd_iff.mp z9).1.2.1
      rw [v1.1] at this
      exact absurd this (by decide)
    refine ⟨goI F I8, y1, ?_, ?_, ha, u1, v1⟩
    · unfold ecI; rw [if_neg i1]
    · unfold ecV; rw [if_neg i1]; rfl
  · exact word w_none 0 ht (by decide) (lt_w (by decide)) (Or.inl ⟨rfl, rfl⟩)
  · exact word w_each 1 ht (by decide) (lt_w (by decide)) (Or.inr (Or.inl ⟨rfl, rfl⟩))
  · exact word w_whole 2 ht (by decide) (lt_w (by decide)) (Or.inr (Or.inr ⟨rfl, rfl⟩))
theorem ps_line {F : Nat → Int} {z q : Nat} {n : Net} {c : Int} {TL TB : Nat → Int} {s : paSt} {x cap lo hi sh ec : Int} {R : List Int} (h : PSt F z q n c TL TB s) (ht : Rem F z q (lineT x cap lo hi sh ec R)) (hx : 97 ≤ x ∧ x ≤ 122) (h6 : ¬ n (-1) 0 = 6) (hN : lnN n (228 + x) = -1) (hc : 4 ≤ cap ∧ cap ≤ 60) (hlo : 0 ≤ lo ∧ lo < hi ∧ hi ≤ cap) (hsh : 1 ≤ sh ∧ sh ≤ 9) (hec : 0 ≤ ec ∧ ec ≤ 3) :
    (s.1 12 = 0 ∧ ¬ s.1 10 = 0) ∧ ∃ q', Rem F z q' R ∧ PSt F z q' (nAdd n (228 + x) cap lo hi sh (ecv ec)) c TL TB (psS F s) := by
  obtain ⟨J, rfl, hJ⟩ := h
  unfold lineT at ht
  obtain ⟨q0, ht, s0, w0⟩ := gw0 hJ ht hd_b (by decide) (lt_w (by decide))
  obtain ⟨I0, hI0⟩ : ∃ I0, I0 = goI F J := ⟨_, rfl⟩
  rw [← hI0] at s0 w0 ⊢
  obtain ⟨q1, ht, s1, w1⟩ := gw s0 (Or.inr rfl) ht hd_b (lx_l x) (lx_r hx)
  obtain ⟨I1, hI1⟩ : ∃ I1, I1 = goI F I0 := ⟨_, rfl⟩
  rw [← hI1] at s1 w1
  obtain ⟨q2, ht, s2, w2⟩ := gw s1 (Or.inr rfl) ht hd_b (by decide) (lt_w (by decide))
  obtain ⟨I2, hI2⟩ : ∃ I2, I2 = goI F I1 := ⟨_, rfl⟩
  rw [← hI2] at s2 w2
  obtain ⟨q3, ht, s3, w3⟩ := gn s2 (Or.inr rfl) ht (by omega) hd_n
  obtain ⟨I3, hI3⟩ : ∃ I3, I3 = goI F I2 := ⟨_, rfl⟩
  rw [← hI3] at s3 w3
  obtain ⟨q4, ht, s4, w4⟩ := gw s3 (Or.inr rfl) ht hd_b (by decide) (lt_w (by decide))
  obtain ⟨I4, hI4⟩ : ∃ I4, I4 = goI F I3 := ⟨_, rfl⟩
  rw [← hI4] at s4 w4
  obtain ⟨q5, ht, s5, w5⟩ := gn s4 (Or.inr rfl) ht (by omega) hd_n
  obtain ⟨I5, hI5⟩ : ∃ I5, I5 = goI F I4 := ⟨_, rfl⟩
  rw [← hI5] at s5 w5
  obtain ⟨q6, ht, s6, w6⟩ := gn s5 (Or.inr rfl) ht (by omega) hd_n
  obtain ⟨I6, hI6⟩ : ∃ I6, I6 = goI F I5 := ⟨_, rfl⟩
  rw [← hI6] at s6 w6
  obtain ⟨q7, ht, s7, w7⟩ := gw s6 (Or.inr rfl) ht hd_b (by decide) (lt_w (by decide))
  obtain ⟨I7, hI7⟩ : ∃ I7, I7 = goI F I6 := ⟨_, rfl⟩
  rw [← hI7] at s7 w7
  obtain ⟨q8, ht, s8, w8⟩ := gn s7 (Or.inr rfl) ht (by omega) hd_e
  obtain ⟨I8, hI8⟩ : ∃ I8, I8 = goI F I7 := ⟨_, rfl⟩
  rw [← hI8] at s8 w8
  have e1 : p1I F n I0 = I1 := by unfold p1I; rw [if_neg h6]; exact hI1.symm
  have m1 := nm_ok s1.2.2.1 w1
  have eN : p1N F n I0 = 228 + x := by unfold p1N; rw [e1]; exact m1.2
  have e2 : p2I F n I0 = I2 := by
    unfold p2I
    rw [eN, hN, e1, m1.1]
    exact hI2.symm
  have t2 : twI F (p2I F n I0) w_cap = I3 := by rw [e2, tw_ok s2.2.2.1 w2]; exact hI3.symm
  have ec3 : p3c F n I0 = cap := by unfold p3c; rw [t2]; exact (nh_ok s3.2.2.1 w3 hc).2
  have e3 : p3I F n I0 = I4 := by unfold p3I; rw [t2, nb_ok s3.2.2.1 w3 hc]; exact hI4.symm
  have t4 : twI F (p3I F n I0) w_marks = I5 := by rw [e3, tw_ok s4.2.2.1 w4]; exact hI5.symm
  have el4 : p4l F n I0 = lo := by unfold p4l; rw [t4, ec3]; exact (nh_ok s5.2.2.1 w5 (by omega)).2
  have e4 : p4I F n I0 = I6 := by unfold p4I; rw [t4, ec3, nb_ok s5.2.2.1 w5 (by omega)]; exact hI6.symm
  have eh5 : p5h F n I0 = hi := by unfold p5h; rw [e4, el4, ec3]; exact (nh_ok s6.2.2.1 w6 (by omega)).2
  have e5 : p5I F n I0 = I7 := by unfold p5I; rw [e4, el4, ec3, nb_ok s6.2.2.1 w6 (by omega)]; exact hI7.symm
  have t6 : twI F (p5I F n I0) w_share = I8 := by rw [e5, tw_ok s7.2.2.1 w7]; exact hI8.symm
  have es6 : p6s F n I0 = sh := by unfold p6s; rw [t6]; exact (nh_ok s8.2.2.1 w8 hsh).2
  have e6 : p6I F n I0 = goI F I8 := by unfold p6I; rw [t6]; exact nb_ok s8.2.2.1 w8 hsh
  obtain ⟨I9, q9, e7', ee7', ht, s9, w9⟩ := ec_ok s8 ht hec
  have e7 : p7I F n I0 = I9 := by unfold p7I; rw [e6]; exact e7'
  have ee7 : p7e F n I0 = ecv ec := by unfold p7e; rw [e6]; exact ee7'
  have e8 : p8I F n I0 = goI F I9 := by unfold p8I; rw [e7]; exact sc_ok w9
  have h12 : goI F I9 12 = 0 := (goI_o (by decide)).trans s9.2.2.1
  refine ⟨⟨s0.2.2.1, by show ¬ I0 10 = 0; rw [w0.1]; decide⟩, q9, ht, I9, ?_, s9⟩
  have i0 : isWd F I0 w_line = true := (Wd_is s0.2.2.1 w0).mpr rfl
  refine (if_pos i0).trans ?_
  have eP : plN F n I0 = nAdd n (228 + x) cap lo hi sh (ecv ec) := by
    unfold plN
    rw [e8, if_pos h12, eN, ec3, el4, eh5, es6, ee7]
  show (p8I F n I0, plN F n I0, TL, TB) = _
  rw [e8, eP]
theorem ps_lend {F : Nat → Int} {z q : Nat} {n : Net} {c : Int} {TL TB : Nat → Int} {s : paSt} {x y t i j : Int} {R : List Int} (h : PSt F z q n c TL TB s) (ht : Rem F z q (lendT x y t R)) (hx : 97 ≤ x ∧ x ≤ 122) (hy : 97 ≤ y ∧ y ≤ 122) (hi : 0 ≤ i ∧ lnN n (228 + x) = i) (hj : 0 ≤ j ∧ lnN n (228 + y) = j) (hij : ¬ i = j) (h0 : n i 12 = 0) (hv : 1 ≤ t ∧ t ≤ 99) :
    (s.1 12 = 0 ∧ ¬ s.1 10 = 0) ∧ ∃ q', Rem F z q' R ∧ PSt F z q' (un n i (bLend (n i) j t)) c TL TB (psS F s) := by
  obtain ⟨J, rfl, hJ⟩ := h
  unfold lendT at ht
  obtain ⟨q0, ht, s0, w0⟩ := gw0 hJ ht hd_b (by decide) (lt_w (by decide))
  obtain ⟨I0, hI0⟩ : ∃ I0, I0 = goI F J := ⟨_, rfl⟩
  rw [← hI0] at s0 w0 ⊢
  obtain ⟨q1, ht, s1, w1⟩ := gw s0 (Or.inr rfl) ht hd_b (lx_l x) (lx_r hx)
  obtain ⟨I1, hI1⟩ : ∃ I1, I1 = goI F I0 := ⟨_, rfl⟩
  rw [← hI1] at s1 w1
  obtain ⟨q2, ht, s2, w2⟩ := gw s1 (Or.inr rfl) ht hd_b (by decide) (lt_w (by decide))
  obtain ⟨I2, hI2⟩ : ∃ I2, I2 = goI F I1 := ⟨_, rfl⟩
  rw [← hI2] at s2 w2
  obtain ⟨q3, ht, s3, w3⟩ := gw s2 (Or.inr rfl) ht hd_b (lx_l y) (lx_r hy)
  obtain ⟨I3, hI3⟩ : ∃ I3, I3 = goI F I2 := ⟨_, rfl⟩
  rw [← hI3] at s3 w3
  obtain ⟨q4, ht, s4, w4⟩ := gw s3 (Or.inr rfl) ht hd_b (by decide) (lt_w (by decide))
  obtain ⟨I4, hI4⟩ : ∃ I4, I4 = goI F I3 := ⟨_, rfl⟩
  rw [← hI4] at s4 w4
  obtain ⟨q5, ht, s5, w5⟩ := gn s4 (Or.inr rfl) ht (by omega) hd_t
  obtain ⟨I5, hI5⟩ : ∃ I5, I5 = goI F I4 := ⟨_, rfl⟩
  rw [← hI5] at s5 w5
  obtain ⟨q6, ht, s6, w6⟩ := gs0 s5 ht (by decide)
  obtain ⟨I6, hI6⟩ : ∃ I6, I6 = goI F I5 := ⟨_, rfl⟩
  rw [← hI6] at s6 w6
  have m1 := nm_ok s1.2.2.1 w1
  have m3 := nm_ok s3.2.2.1 w3
  have e1 : q1I F I0 = I1 := hI1.symm
  have el1 : q1l F n I0 = i := by unfold q1l lhV; rw [e1, m1.2, hi.2]; omega
  have e2 : q2I F n I0 = I1 := by
    unfold q2I lhI
    rw [e1, m1.2, hi.2, if_neg (by omega), m1.1]
  have e3 : q3I F n I0 = I2 := by
    unfold q3I
    rw [e2, el1, if_neg (fun z9 => by omega)]
    exact hI2.symm
  have e4 : q4I F n I0 = I3 := by unfold q4I; rw [e3, tw_ok s2.2.2.1 w2]; exact hI3.symm
  have eo4 : q4o F n I0 = j := by unfold q4o lhV; rw [e4, m3.2, hj.2]; omega
  have e5 : q5I F n I0 = I3 := by
    unfold q5I lhI
    rw [e4, m3.2, hj.2, if_neg (by omega), m3.1]
  have e6 : q6I F n I0 = I4 := by
    unfold q6I
    rw [el1, eo4, if_neg hij, e5]
    exact hI4.symm
  have t6 : twI F (q6I F n I0) w_for = I5 := by rw [e6, tw_ok s4.2.2.1 w4]; exact hI5.symm
  have et7 : q7t F n I0 = t := by unfold q7t; rw [t6]; exact (nh_ok s5.2.2.1 w5 hv).2
  have e7 : q7I F n I0 = I6 := by unfold q7I; rw [t6, nb_ok s5.2.2.1 w5 hv]; exact hI6.symm
  have e8 : q8I F n I0 = goI F I6 := by unfold q8I; rw [e7]; exact sc_ok w6
  have h12 : goI F I6 12 = 0 := (goI_o (by decide)).trans s6.2.2.1
  refine ⟨⟨s0.2.2.1, by show ¬ I0 10 = 0; rw [w0.1]; decide⟩, q6, ht, I6, ?_, s6⟩
  have n0 : ¬ isWd F I0 w_line = true := by rw [Wd_no s0.2.2.1 w0 (by decide)]; decide
  have i0 : isWd F I0 w_lend = true := (Wd_is s0.2.2.1 w0).mpr rfl
  refine ((if_neg n0).trans (if_pos i0)).trans ?_
  have eP : qlN F n I0 = un n i (bLend (n i) j t) := by
    unfold qlN
    rw [e8, if_pos h12, el1, eo4, et7]
  show (q8I F n I0, qlN F n I0, TL, TB) = _
  rw [e8, eP]
/-- the bytes of a type statement -/
theorem ty_run {F : Nat → Int} {z : Nat} {l : Int} {f : Nat → Int} {R : List Int} (hf : ∀ i, 1 ≤ f i ∧ f i ≤ 127) : ∀ (m i k q : Nat) (c : Int) (J TL TB : Nat → Int), St z J q c → Rem F z q (numsT f i (m + 1) ([59] ++ R)) → 0 ≤ c → c + m + 1 ≤ 60 → m + 1 ≤ k → ∃ J' q' TL' TB', tyL F l k (goI F J, TL, TB) = (goI F J', TL', TB') ∧ Rem F z q' ([59] ++ R) ∧ St z J' q' (c + m + 1) := by
  intro m
  induction m with
  | zero =>
    intro i k q c J TL TB hJ ht hc0 hc hk
    obtain ⟨k, rfl⟩ : ∃ k9, k = k9 + 1 := ⟨k - 1, by omega⟩
    obtain ⟨q1, ht, s1, w1⟩ := gn (v := f i) hJ (Or.inr rfl) ht (by have := hf i; omega) hd_t
    have hn := nh_ok s1.2.2.1 w1 (hf i)
    have ej : tyJ (goI F J) = goI F J := by
      unfold tyJ
      rw [if_neg (by rw [s1.2.2.2]; omega)]
      exact hn.1
    obtain ⟨J', hJ'⟩ : ∃ J', J' = up (goI F J) 16 (goI F J 16 + 1) := ⟨_, rfl⟩
    have sJ : St z J' q1 (c + 1) := by
      rw [hJ']
      exact ⟨(up_n (by decide)).trans s1.1, (up_n (by decide)).trans s1.2.1, (up_n (by decide)).trans s1.2.2.1, (up_s _ _ _).trans (by rw [s1.2.2.2])⟩
    have eS : tyS F l (goI F J, TL, TB) = (goI F J', up TL (goI F J 16).toNat l, up TB (goI F J 16).toNat (nhV (goI F J) 1 127)) := by
      unfold tyS
      dsimp only
      rw [ej, if_pos s1.2.2.1, hJ']
    obtain ⟨q2, -, s2, w2⟩ := gs0 (c := 59) sJ ht (by decide)
    refine ⟨J', q1, up TL (goI F J 16).toNat l, up TB (goI F J 16).toNat (nhV (goI F J) 1 127), ?_, ht, by rw [show c + ((0 : Nat) : Int) + 1 = c + 1 by omega]; exact sJ⟩
    unfold tyL
    rw [eS, if_neg (fun z9 => by
      have h10 : goI F J' 10 = 2 := z9.2
      rw [w2.1] at h10
      exact absurd h10 (by decide))]
  | succ m ih =>
    intro i k q c J TL TB hJ ht hc0 hc hk
    obtain ⟨k, rfl⟩ : ∃ k9, k = k9 + 1 := ⟨k - 1, by omega⟩
    obtain ⟨q1, ht, s1, w1⟩ := gn (v := f i) hJ (Or.inr rfl) ht (by have := hf i; omega) hd_n
    have hn := nh_ok s1.2.2.1 w1 (hf i)
    have ej : tyJ (goI F J) = goI F J := by
      unfold tyJ
      rw [if_neg (by rw [s1.2.2.2]; omega)]
      exact hn.1
    obtain ⟨J', hJ'⟩ : ∃ J', J' = up (goI F J) 16 (goI F J 16 + 1) := ⟨_, rfl⟩
    have sJ : St z J' q1 (c + 1) := by
      rw [hJ']
      exact ⟨(up_n (by decide)).trans s1.1, (up_n (by decide)).trans s1.2.1, (up_n (by decide)).trans s1.2.2.1, (up_s _ _ _).trans (by rw [s1.2.2.2])⟩
    have eS : tyS F l (goI F J, TL, TB) = (goI F J', up TL (goI F J 16).toNat l, up TB (goI F J 16).toNat (nhV (goI F J) 1 127)) := by
      unfold tyS
      dsimp only
      rw [ej, if_pos s1.2.2.1, hJ']
    have ht2 : Rem F z q1 ([32] ++ (dg (f (i + 1)) ++ numsT f (i + 1 + 1) m ([59] ++ R))) := ht
    have h10 : goI F J' 12 = 0 ∧ goI F J' 10 = 2 := by
      have hV : ∃ c R', numsT f (i + 1 + 1) m ([59] ++ R) = c :: R' ∧ (0 ≤ c ∧ c < 48 ∨ 57 < c) := by
        cases m with
        | zero => exact hd_t
        | succ m => exact hd_n
      obtain ⟨q2, -, s2, w2⟩ := gn (v := f (i + 1)) sJ (Or.inr rfl) ht2 (by have := hf (i + 1); omega) hV
      exact ⟨s2.2.2.1, w2.1⟩
    obtain ⟨J'', q'', TL', TB', g1, g2, g3⟩ := ih (i + 1) k q1 (c + 1) J' (up TL (goI F J 16).toNat l) (up TB (goI F J 16).toNat (nhV (goI F J) 1 127)) sJ ht2 (by omega) (by omega) (by omega)
    refine ⟨J'', q'', TL', TB', ?_, g2, by rw [show c + ((m + 1 : Nat) : Int) + 1 = c + 1 + (m : Int) + 1 by omega]; exact g3⟩
    unfold tyL
    rw [eS, if_pos h10]
    exact g1
theorem ps_type {F : Nat → Int} {z q : Nat} {n : Net} {c : Int} {TL TB : Nat → Int} {s : paSt} {x i : Int} {f : Nat → Int} {m : Nat} {R : List Int} (h : PSt F z q n c TL TB s) (ht : Rem F z q (typeT x f (m + 1) R)) (hx : 97 ≤ x ∧ x ≤ 122) (hi : 0 ≤ i ∧ lnN n (228 + x) = i) (hf : ∀ i, 1 ≤ f i ∧ f i ≤ 127) (hc : 0 ≤ c ∧ c + m + 1 ≤ 60) :
    (s.1 12 = 0 ∧ ¬ s.1 10 = 0) ∧ ∃ q' TL' TB', Rem F z q' R ∧ PSt F z q' n (c + m + 1) TL' TB' (psS F s) := by
  obtain ⟨J, rfl, hJ⟩ := h
  unfold typeT at ht
  obtain ⟨q0, ht, s0, w0⟩ := gw0 hJ ht hd_b (by decide) (lt_w (by decide))
  obtain ⟨I0, hI0⟩ : ∃ I0, I0 = goI F J := ⟨_, rfl⟩
  rw [← hI0] at s0 w0 ⊢
  obtain ⟨q1, ht, s1, w1⟩ := gw s0 (Or.inr rfl) ht hd_b (lx_l x) (lx_r hx)
  obtain ⟨I1, hI1⟩ : ∃ I1, I1 = goI F I0 := ⟨_, rfl⟩
  rw [← hI1] at s1 w1
  have m1 := nm_ok s1.2.2.1 w1
  have e1 : t1I F n I0 = goI F I1 := by
    unfold t1I lhI
    rw [← hI1, m1.2, hi.2, if_neg (by omega), m1.1]
  obtain ⟨J', q', TL', TB', g1, g2, g3⟩ := ty_run (l := t1l F n I0) hf m 0 62 q1 c I1 TL TB s1 ht hc.1 hc.2 (by omega)
  have et : ttR F n I0 TL TB = (goI F J', TL', TB') := by
    unfold ttR
    rw [e1]
    exact g1
  obtain ⟨q2, ht2, s2, w2⟩ := gs0 (c := 59) g3 g2 (by decide)
  refine ⟨⟨s0.2.2.1, by show ¬ I0 10 = 0; rw [w0.1]; decide⟩, q2, TL', TB', ht2, goI F J', ?_, s2⟩
  have n0 : ¬ isWd F I0 w_line = true := by rw [Wd_no s0.2.2.1 w0 (by decide)]; decide
  have n1 : ¬ isWd F I0 w_lend = true := by rw [Wd_no s0.2.2.1 w0 (by decide)]; decide
  have i0 : isWd F I0 w_type = true := (Wd_is s0.2.2.1 w0).mpr rfl
  refine ((if_neg n0).trans ((if_neg n1).trans (if_pos i0))).trans ?_
  show (scI F (ttR F n I0 TL TB).1, n, (ttR F n I0 TL TB).2.1, (ttR F n I0 TL TB).2.2) = _
  rw [et]
  exact congrArg (fun z9 => (z9, n, TL', TB')) (sc_ok w2)
