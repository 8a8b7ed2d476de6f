/-! The statements of a text, as the reference parses them. -/
def p1I (F : Nat → Int) (n : Net) (I : Nat → Int) : Nat → Int := goI F (if n (-1) 0 = 6 then errI I 5 else I)
def p1N (F : Nat → Int) (n : Net) (I : Nat → Int) : Int := nmV F (p1I F n I)
def p2I (F : Nat → Int) (n : Net) (I : Nat → Int) : Nat → Int := goI F (if ¬ lnN n (p1N F n I) = -1 then errI (nmI F (p1I F n I)) 3 else nmI F (p1I F n I))
def p3c (F : Nat → Int) (n : Net) (I : Nat → Int) : Int := nhV (twI F (p2I F n I) w_cap) 4 60
def p3I (F : Nat → Int) (n : Net) (I : Nat → Int) : Nat → Int := nbI F (twI F (p2I F n I) w_cap) 4 60
def p4l (F : Nat → Int) (n : Net) (I : Nat → Int) : Int := nhV (twI F (p3I F n I) w_marks) 0 (p3c F n I - 1)
def p4I (F : Nat → Int) (n : Net) (I : Nat → Int) : Nat → Int := nbI F (twI F (p3I F n I) w_marks) 0 (p3c F n I - 1)
def p5h (F : Nat → Int) (n : Net) (I : Nat → Int) : Int := nhV (p4I F n I) (p4l F n I + 1) (p3c F n I)
def p5I (F : Nat → Int) (n : Net) (I : Nat → Int) : Nat → Int := nbI F (p4I F n I) (p4l F n I + 1) (p3c F n I)
def p6s (F : Nat → Int) (n : Net) (I : Nat → Int) : Int := nhV (twI F (p5I F n I) w_share) 1 9
def p6I (F : Nat → Int) (n : Net) (I : Nat → Int) : Nat → Int := nbI F (twI F (p5I F n I) w_share) 1 9
def p7e (F : Nat → Int) (n : Net) (I : Nat → Int) : Int := ecV F (p6I F n I)
def p7I (F : Nat → Int) (n : Net) (I : Nat → Int) : Nat → Int := ecI F (p6I F n I)
def p8I (F : Nat → Int) (n : Net) (I : Nat → Int) : Nat → Int := scI F (p7I F n I)
def plN (F : Nat → Int) (n : Net) (I : Nat → Int) : Net := if p8I F n I 12 = 0 then nAdd n (p1N F n I) (p3c F n I) (p4l F n I) (p5h F n I) (p6s F n I) (p7e F n I) else n
def q1I (F : Nat → Int) (I : Nat → Int) : Nat → Int := goI F I
def q1l (F : Nat → Int) (n : Net) (I : Nat → Int) : Int := lhV F n (q1I F I)
def q2I (F : Nat → Int) (n : Net) (I : Nat → Int) : Nat → Int := lhI F n (q1I F I)
def q3I (F : Nat → Int) (n : Net) (I : Nat → Int) : Nat → Int := goI F (if q2I F n I 12 = 0 ∧ 0 < n (q1l F n I) 12 then errI (q2I F n I) 3 else q2I F n I)
def q4I (F : Nat → Int) (n : Net) (I : Nat → Int) : Nat → Int := twI F (q3I F n I) w_to
def q4o (F : Nat → Int) (n : Net) (I : Nat → Int) : Int := lhV F n (q4I F n I)
def q5I (F : Nat → Int) (n : Net) (I : Nat → Int) : Nat → Int := lhI F n (q4I F n I)
def q6I (F : Nat → Int) (n : Net) (I : Nat → Int) : Nat → Int := goI F (if q1l F n I = q4o F n I then errI (q5I F n I) 3 else q5I F n I)
def q7t (F : Nat → Int) (n : Net) (I : Nat → Int) : Int := nhV (twI F (q6I F n I) w_for) 1 99
def q7I (F : Nat → Int) (n : Net) (I : Nat → Int) : Nat → Int := nbI F (twI F (q6I F n I) w_for) 1 99
def q8I (F : Nat → Int) (n : Net) (I : Nat → Int) : Nat → Int := scI F (q7I F n I)
def qlN (F : Nat → Int) (n : Net) (I : Nat → Int) : Net := if q8I F n I 12 = 0 then un n (q1l F n I) (bLend (n (q1l F n I)) (q4o F n I) (q7t F n I)) else n
abbrev tySt : Type := (Nat → Int) × (Nat → Int) × (Nat → Int)
def tyJ (I : Nat → Int) : Nat → Int := if I 16 = 60 then errI (nhI I 1 127) 5 else nhI I 1 127
/-- one byte of a type statement of the line l -/
def tyS (F : Nat → Int) (l : Int) (s : tySt) : tySt := if tyJ s.1 12 = 0 then (goI F (up (tyJ s.1) 16 (s.1 16 + 1)), up s.2.1 (s.1 16).toNat l, up s.2.2 (s.1 16).toNat (nhV s.1 1 127)) else (tyJ s.1, s.2.1, s.2.2)
def tyL (F : Nat → Int) (l : Int) : Nat → tySt → tySt
  | 0, s => s
  | k + 1, s => if (tyS F l s).1 12 = 0 ∧ (tyS F l s).1 10 = 2 then tyL F l k (tyS F l s) else tyS F l s
def t1l (F : Nat → Int) (n : Net) (I : Nat → Int) : Int := lhV F n (goI F I)
def t1I (F : Nat → Int) (n : Net) (I : Nat → Int) : Nat → Int := goI F (lhI F n (goI F I))
def ttR (F : Nat → Int) (n : Net) (I TL TB : Nat → Int) : tySt := tyL F (t1l F n I) 62 (t1I F n I, TL, TB)
abbrev paSt : Type := (Nat → Int) × Net × (Nat → Int) × (Nat → Int)
/-- a statement -/
def psS (F : Nat → Int) (s : paSt) : paSt :=
  if isWd F s.1 w_line = true then (p8I F s.2.1 s.1, plN F s.2.1 s.1, s.2.2.1, s.2.2.2)
  else if isWd F s.1 w_lend = true then (q8I F s.2.1 s.1, qlN F s.2.1 s.1, s.2.2.1, s.2.2.2)
  else if isWd F s.1 w_type = true then (scI F (ttR F s.2.1 s.1 s.2.2.1 s.2.2.2).1, s.2.1, (ttR F s.2.1 s.1 s.2.2.1 s.2.2.2).2.1, (ttR F s.2.1 s.1 s.2.2.1 s.2.2.2).2.2)
  else (errI s.1 1, s.2.1, s.2.2.1, s.2.2.2)
def psL (F : Nat → Int) : Nat → paSt → paSt
  | 0, s => s
  | k + 1, s => if s.1 12 = 0 ∧ ¬ s.1 10 = 0 then psL F k (psS F s) else s

theorem ifE_9 {I : Nat → Int} {c : Int} {p : Prop} [Decidable p] : I 9 ≤ (if p then errI I c else I) 9 := if_9 (Int.le_of_eq err_9.symm) (Int.le_refl _)
theorem ifE_P {F I : Nat → Int} {c : Int} {p : Prop} [Decidable p] (hc : 0 ≤ c ∧ c ≤ 9) (h : Pin F I) : Pin F (if p then errI I c else I) := Pin_if (Pin_err hc h) h
theorem p1_P {F I : Nat → Int} {n : Net} (hF : ∀ j, -128 ≤ F j ∧ F j ≤ 127) (h : Pin F I) : Pin F (p1I F n I) := Pin_go hF (ifE_P (by decide) h)
theorem p2_P {F I : Nat → Int} {n : Net} (hF : ∀ j, -128 ≤ F j ∧ F j ≤ 127) (h : Pin F I) : Pin F (p2I F n I) := Pin_go hF (ifE_P (by decide) (Pin_nm (p1_P hF h)))
theorem p3_P {F I : Nat → Int} {n : Net} (hF : ∀ j, -128 ≤ F j ∧ F j ≤ 127) (h : Pin F I) : Pin F (p3I F n I) := Pin_nb hF (Pin_tw hF (p2_P hF h))
theorem p4_P {F I : Nat → Int} {n : Net} (hF : ∀ j, -128 ≤ F j ∧ F j ≤ 127) (h : Pin F I) : Pin F (p4I F n I) := Pin_nb hF (Pin_tw hF (p3_P hF h))
theorem p5_P {F I : Nat → Int} {n : Net} (hF : ∀ j, -128 ≤ F j ∧ F j ≤ 127) (h : Pin F I) : Pin F (p5I F n I) := Pin_nb hF (p4_P hF h)
theorem p6_P {F I : Nat → Int} {n : Net} (hF : ∀ j, -128 ≤ F j ∧ F j ≤ 127) (h : Pin F I) : Pin F (p6I F n I) := Pin_nb hF (Pin_tw hF (p5_P hF h))
theorem p7_P {F I : Nat → Int} {n : Net} (hF : ∀ j, -128 ≤ F j ∧ F j ≤ 127) (h : Pin F I) : Pin F (p7I F n I) := Pin_ec hF (p6_P hF h)
theorem p8_P {F I : Nat → Int} {n : Net} (hF : ∀ j, -128 ≤ F j ∧ F j ≤ 127) (h : Pin F I) : Pin F (p8I F n I) := Pin_sc hF (p7_P hF h)
theorem q1_P {F I : Nat → Int} {n : Net} (hF : ∀ j, -128 ≤ F j ∧ F j ≤ 127) (h : Pin F I) : Pin F (q1I F I) := Pin_go hF h
theorem q2_P {F I : Nat → Int} {n : Net} (hF : ∀ j, -128 ≤ F j ∧ F j ≤ 127) (h : Pin F I) : Pin F (q2I F n I) := Pin_lh (q1_P (n := n) hF h)
theorem q3_P {F I : Nat → Int} {n : Net} (hF : ∀ j, -128 ≤ F j ∧ F j ≤ 127) (h : Pin F I) : Pin F (q3I F n I) := Pin_go hF (ifE_P (by decide) (q2_P hF h))
theorem q4_P {F I : Nat → Int} {n : Net} (hF : ∀ j, -128 ≤ F j ∧ F j ≤ 127) (h : Pin F I) : Pin F (q4I F n I) := Pin_tw hF (q3_P hF h)
theorem q5_P {F I : Nat → Int} {n : Net} (hF : ∀ j, -128 ≤ F j ∧ F j ≤ 127) (h : Pin F I) : Pin F (q5I F n I) := Pin_lh (q4_P hF h)
theorem q6_P {F I : Nat → Int} {n : Net} (hF : ∀ j, -128 ≤ F j ∧ F j ≤ 127) (h : Pin F I) : Pin F (q6I F n I) := Pin_go hF (ifE_P (by decide) (q5_P hF h))
theorem q7_P {F I : Nat → Int} {n : Net} (hF : ∀ j, -128 ≤ F j ∧ F j ≤ 127) (h : Pin F I) : Pin F (q7I F n I) := Pin_nb hF (Pin_tw hF (q6_P hF h))
theorem q8_P {F I : Nat → Int} {n : Net} (hF : ∀ j, -128 ≤ F j ∧ F j ≤ 127) (h : Pin F I) : Pin F (q8I F n I) := Pin_sc hF (q7_P hF h)
theorem t1_P {F I : Nat → Int} {n : Net} (hF : ∀ j, -128 ≤ F j ∧ F j ≤ 127) (h : Pin F I) : Pin F (t1I F n I) := Pin_go hF (Pin_lh (Pin_go hF h))
theorem t1_9 {F I : Nat → Int} {n : Net} (hF : ∀ j, -128 ≤ F j ∧ F j ≤ 127) (h : Pin F I) : I 9 ≤ (t1I F n I) 9 := Int.le_trans (go_9 hF h) (Int.le_trans lh_9 (go_9 hF (Pin_lh (Pin_go hF h))))
theorem tyJ_P {F I : Nat → Int} (h : Pin F I) : Pin F (tyJ I) := Pin_if (Pin_err (by decide) (Pin_nh h)) (Pin_nh h)
theorem tyJ_9 {I : Nat → Int} : I 9 ≤ tyJ I 9 := if_9 (by rw [err_9]; exact nh_9) nh_9
theorem nhI_o {I : Nat → Int} {a b : Int} {i : Nat} (h : i ≠ 12 ∧ i ≠ 13) : nhI I a b i = I i := by
  unfold nhI
  split <;> split <;> simp only [errI_o h]
theorem tyJ_16 {I : Nat → Int} (h : tyJ I 12 = 0) : ¬ I 16 = 60 := by
  intro z
  unfold tyJ at h
  rw [if_pos z, errI_12] at h
  split at h
  · omega
  · contradiction
theorem Pin_up16 {F I : Nat → Int} {x : Int} (h : Pin F I) (hx : 0 ≤ x ∧ x ≤ 60) : Pin F (up I 16 x) := by
  unfold Pin Pin0 at *
  simp (disch := decide) only [up_s, up_n]
  exact ⟨⟨h.1.1, h.1.2.1, h.1.2.2.1, h.1.2.2.2.1, hx⟩, h.2⟩
theorem tyS_P {F : Nat → Int} {l : Int} {s : tySt} (hF : ∀ j, -128 ≤ F j ∧ F j ≤ 127) (h : Pin F s.1) : Pin F (tyS F l s).1 ∧ s.1 9 ≤ (tyS F l s).1 9 := by
  unfold tyS
  have h16 := h.1.2.2.2.2
  split
  · next c =>
    have h1 := tyJ_16 c
    have h2 := Pin_up16 (x := s.1 16 + 1) (tyJ_P h) (by omega)
    refine ⟨Pin_go hF h2, ?_⟩
    have h3 := go_9 hF h2
    rw [up_n (by decide)] at h3
    exact Int.le_trans tyJ_9 h3
  · exact ⟨tyJ_P h, tyJ_9⟩
theorem tyL_P {F : Nat → Int} {l : Int} (hF : ∀ j, -128 ≤ F j ∧ F j ≤ 127) : ∀ (k : Nat) (s : tySt), Pin F s.1 → Pin F (tyL F l k s).1 ∧ s.1 9 ≤ (tyL F l k s).1 9
  | 0, s, h => ⟨h, Int.le_refl _⟩
  | k + 1, s, h => by
    have h1 := tyS_P (l := l) hF h
    unfold tyL
    split
    · have h2 := tyL_P (l := l) hF k _ h1.1
      exact ⟨h2.1, Int.le_trans h1.2 h2.2⟩
    · exact h1
theorem ttR_P {F I TL TB : Nat → Int} {n : Net} (hF : ∀ j, -128 ≤ F j ∧ F j ≤ 127) (h : Pin F I) : Pin F (ttR F n I TL TB).1 ∧ I 9 ≤ (ttR F n I TL TB).1 9 := by
  have h1 := tyL_P (l := t1l F n I) hF 62 (t1I F n I, TL, TB) (t1_P hF h)
  exact ⟨h1.1, Int.le_trans (t1_9 hF h) h1.2⟩
/-! behind an error nothing moves -/
theorem go_e {F I : Nat → Int} (h : ¬ I 12 = 0) : goI F I = I := if_neg h
theorem ifE_e {I : Nat → Int} {c : Int} {p : Prop} [Decidable p] (h : ¬ I 12 = 0) : (if p then errI I c else I) = I := by rw [errI_id h, ite_self]
theorem ifE_e' {I : Nat → Int} {c : Int} {p : Prop} [Decidable p] (h : ¬ I 12 = 0) : (if p then I else errI I c) = I := by rw [errI_id h, ite_self]
theorem nb_e {F I : Nat → Int} {a b : Int} (h : ¬ I 12 = 0) : nbI F I a b = I := by unfold nbI; rw [nhI_D h, go_e h]
theorem tw_e {F I : Nat → Int} {w : List Int} (h : ¬ I 12 = 0) : twI F I w = I := by unfold twI; rw [ifE_e' h, go_e h]
theorem sc_e {F I : Nat → Int} (h : ¬ I 12 = 0) : scI F I = I := by unfold scI; rw [ifE_e' h, go_e h]
theorem nmE_e {F I : Nat → Int} (h : ¬ I 12 = 0) : nmI F I = I := by unfold nmI; rw [ifE_e h]
theorem lh_e {F I : Nat → Int} {n : Net} (h : ¬ I 12 = 0) : lhI F n I = I := by unfold lhI; rw [nmE_e h, ifE_e h]
theorem isWd_e {F I : Nat → Int} {w : List Int} (h : ¬ I 12 = 0) : ¬ isWd F I w = true := fun z => h (isWd_iff.mp z).1.1
theorem ec_e {F I : Nat → Int} (h : ¬ I 12 = 0) : ecI F I = I := by unfold ecI; rw [if_neg (isWd_e h)]
theorem p2_e {F I : Nat → Int} {n : Net} (h : ¬ p1I F n I 12 = 0) : p2I F n I = p1I F n I := by unfold p2I; rw [nmE_e h, ifE_e h, go_e h]
theorem p3_e {F I : Nat → Int} {n : Net} (h : ¬ p2I F n I 12 = 0) : p3I F n I = p2I F n I := by unfold p3I; rw [tw_e h, nb_e h]
theorem p4_e {F I : Nat → Int} {n : Net} (h : ¬ p3I F n I 12 = 0) : p4I F n I = p3I F n I := by unfold p4I; rw [tw_e h, nb_e h]
theorem p5_e {F I : Nat → Int} {n : Net} (h : ¬ p4I F n I 12 = 0) : p5I F n I = p4I F n I := by unfold p5I; rw [nb_e h]
theorem p6_e {F I : Nat → Int} {n : Net} (h : ¬ p5I F n I 12 = 0) : p6I F n I = p5I F n I := by unfold p6I; rw [tw_e h, nb_e h]
theorem p7_e {F I : Nat → Int} {n : Net} (h : ¬ p6I F n I 12 = 0) : p7I F n I = p6I F n I := by unfold p7I; rw [ec_e h]
theorem p8_e {F I : Nat → Int} {n : Net} (h : ¬ p7I F n I 12 = 0) : p8I F n I = p7I F n I := by unfold p8I; rw [sc_e h]
theorem p18_e {F I : Nat → Int} {n : Net} (h : ¬ p1I F n I 12 = 0) : p8I F n I = p1I F n I := by
  have e2 := p2_e h
  have e3 := p3_e (by rw [e2]; exact h)
  have e4 := p4_e (by rw [e3, e2]; exact h)
  have e5 := p5_e (by rw [e4, e3, e2]; exact h)
  have e6 := p6_e (by rw [e5, e4, e3, e2]; exact h)
  have e7 := p7_e (by rw [e6, e5, e4, e3, e2]; exact h)
  have e8 := p8_e (by rw [e7, e6, e5, e4, e3, e2]; exact h)
  rw [e8, e7, e6, e5, e4, e3, e2]
theorem tyS_e {F : Nat → Int} {l : Int} {s : tySt} (h : ¬ s.1 12 = 0) : tyS F l s = s := by
  have e : tyJ s.1 = s.1 := by unfold tyJ; rw [nhI_D h, ifE_e h]
  unfold tyS
  rw [e, if_neg h]
theorem tyL_e {F : Nat → Int} {l : Int} {s : tySt} (h : ¬ s.1 12 = 0) : ∀ k, tyL F l k s = s
  | 0 => rfl
  | k + 1 => by
    unfold tyL
    rw [tyS_e h, if_neg (fun z => h z.1)]
theorem goI_9s {F I : Nat → Int} (hF : ∀ j, -128 ≤ F j ∧ F j ≤ 127) (h : Pin F I) (h0 : I 12 = 0) (h1 : I 10 = 1) : I 9 < goI F I 9 := by
  have h2 := (Pin_scan hF h.1).2
  have h3 := (h.2.2.2 h1).1
  unfold goI
  rw [if_pos h0]
  omega
/-- a statement begins behind the one ahead of it -/
theorem psS_ok {F : Nat → Int} {s : paSt} (hF : ∀ j, -128 ≤ F j ∧ F j ≤ 127) (h : Pin F s.1) : Pin F (psS F s).1 ∧ ((psS F s).1 12 = 0 → s.1 9 < (psS F s).1 9) := by
  unfold psS
  split
  · next c =>
    have hc := (isWd_iff.mp c).1
    refine ⟨p8_P hF h, fun z => ?_⟩
    have h1 : p1I F s.2.1 s.1 12 = 0 := by
      by_cases q : p1I F s.2.1 s.1 12 = 0
      · exact q
      · have z' : p8I F s.2.1 s.1 12 = 0 := z
        rw [p18_e q] at z'
        exact absurd z' q
    have h2 : ¬ s.2.1 (-1) 0 = 6 := by
      intro q
      unfold p1I at h1
      rw [if_pos q, go_e (by rw [errI_g hc.1]; decide), errI_g hc.1] at h1
      exact absurd h1 (by decide)
    have h3 : p1I F s.2.1 s.1 = goI F s.1 := by unfold p1I; rw [if_neg h2]
    have h4 := goI_9s hF h hc.1 hc.2.1
    have p1 := p1_P (n := s.2.1) hF h
    have h5 : p1I F s.2.1 s.1 9 ≤ p8I F s.2.1 s.1 9 := Int.le_trans (Int.le_trans (Int.le_trans nm_9 (Int.le_trans ifE_9 (go_9 hF (ifE_P (by decide) (Pin_nm p1))))) (Int.le_trans (Int.le_trans (tw_9 hF (p2_P hF h)) (nb_9 hF (Pin_tw hF (p2_P hF h)))) (Int.le_trans (Int.le_trans (tw_9 hF (p3_P hF h)) (nb_9 hF (Pin_tw hF (p3_P hF h)))) (Int.le_trans (nb_9 hF (p4_P hF h)) (Int.le_trans (tw_9 hF (p5_P hF h)) (nb_9 hF (Pin_tw hF (p5_P hF h)))))))) (Int.le_trans (ec_9 hF (p6_P hF h)) (sc_9 hF (p7_P hF h)))
    rw [h3] at h5
    exact Int.lt_of_lt_of_le h4 h5
  · split
    · next c =>
      have hc := (isWd_iff.mp c).1
      refine ⟨q8_P hF h, fun z => ?_⟩
      have h4 := goI_9s hF h hc.1 hc.2.1
      have h5 : goI F s.1 9 ≤ q8I F s.2.1 s.1 9 := Int.le_trans lh_9 (Int.le_trans (Int.le_trans ifE_9 (go_9 hF (ifE_P (by decide) (q2_P hF h)))) (Int.le_trans (tw_9 hF (q3_P hF h)) (Int.le_trans lh_9 (Int.le_trans (Int.le_trans ifE_9 (go_9 hF (ifE_P (by decide) (q5_P hF h)))) (Int.le_trans (Int.le_trans (tw_9 hF (q6_P hF h)) (nb_9 hF (Pin_tw hF (q6_P hF h)))) (sc_9 hF (q7_P hF h)))))))
      exact Int.lt_of_lt_of_le h4 h5
    · split
      · next c =>
        have hc := (isWd_iff.mp c).1
        have h6 := ttR_P (TL := s.2.2.1) (TB := s.2.2.2) (n := s.2.1) hF h
        refine ⟨Pin_sc hF h6.1, fun z => ?_⟩
        have h4 := goI_9s hF h hc.1 hc.2.1
        have h5 : goI F s.1 9 ≤ t1I F s.2.1 s.1 9 := Int.le_trans lh_9 (go_9 hF (Pin_lh (Pin_go hF h)))
        have h7 := (tyL_P (l := t1l F s.2.1 s.1) hF 62 (t1I F s.2.1 s.1, s.2.2.1, s.2.2.2) (t1_P hF h)).2
        have h8 := sc_9 hF h6.1
        have h9 : t1I F s.2.1 s.1 9 ≤ (ttR F s.2.1 s.1 s.2.2.1 s.2.2.2).1 9 := h7
        exact Int.lt_of_lt_of_le h4 (Int.le_trans h5 (Int.le_trans h9 h8))
      · refine ⟨Pin_err (by decide) h, fun z => ?_⟩
        have z' : errI s.1 1 12 = 0 := z
        rw [errI_12] at z'
        split at z'
        · exact absurd z' (by decide)
        · contradiction
