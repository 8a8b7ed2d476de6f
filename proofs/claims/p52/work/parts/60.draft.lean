/-! The draft of a text: what always holds of it, and what the load makes of it. -/
def oP (i : Nat) : Prop := i ≠ 8 ∧ i ≠ 9 ∧ i ≠ 10 ∧ i ≠ 11 ∧ i ≠ 12 ∧ i ≠ 13
theorem go_o {F I : Nat → Int} {i : Nat} (h : oP i) : goI F I i = I i := goI_o ⟨h.1, h.2.1, h.2.2.1, h.2.2.2.1⟩
theorem er_o {I : Nat → Int} {c : Int} {i : Nat} (h : oP i) : errI I c i = I i := errI_o h.2.2.2.2
theorem nh_o {I : Nat → Int} {a b : Int} {i : Nat} (h : oP i) : nhI I a b i = I i := nhI_o h.2.2.2.2
theorem if_o {I J : Nat → Int} {p : Prop} [Decidable p] {x : Int} {i : Nat} (h1 : I i = x) (h2 : J i = x) : (if p then I else J) i = x := by
  split
  · exact h1
  · exact h2
theorem nb_o {F I : Nat → Int} {a b : Int} {i : Nat} (h : oP i) : nbI F I a b i = I i := (go_o h).trans (nh_o h)
theorem tw_o {F I : Nat → Int} {w : List Int} {i : Nat} (h : oP i) : twI F I w i = I i := (go_o h).trans (if_o rfl (er_o h))
theorem sc_o {F I : Nat → Int} {i : Nat} (h : oP i) : scI F I i = I i := (go_o h).trans (if_o rfl (er_o h))
theorem nm_o {F I : Nat → Int} {i : Nat} (h : oP i) : nmI F I i = I i := if_o (er_o h) rfl
theorem lh_o {F I : Nat → Int} {n : Net} {i : Nat} (h : oP i) : lhI F n I i = I i := if_o ((er_o h).trans (nm_o h)) (nm_o h)
theorem ec_o {F I : Nat → Int} {i : Nat} (h : oP i) : ecI F I i = I i := if_o ((go_o h).trans (if_o (go_o h) ((er_o h).trans (go_o h)))) rfl
theorem ie_o {I : Nat → Int} {c : Int} {p : Prop} [Decidable p] {i : Nat} (h : oP i) : (if p then errI I c else I) i = I i := if_o (er_o h) rfl
theorem p8_o {F I : Nat → Int} {n : Net} {i : Nat} (h : oP i) : p8I F n I i = I i := by
  have e1 : p1I F n I i = I i := (go_o h).trans (ie_o h)
  have e2 : p2I F n I i = I i := ((go_o h).trans (ie_o h)).trans ((nm_o h).trans e1)
  have e3 : p3I F n I i = I i := ((nb_o h).trans (tw_o h)).trans e2
  have e4 : p4I F n I i = I i := ((nb_o h).trans (tw_o h)).trans e3
  have e5 : p5I F n I i = I i := (nb_o h).trans e4
  have e6 : p6I F n I i = I i := ((nb_o h).trans (tw_o h)).trans e5
  exact ((sc_o h).trans (ec_o h)).trans e6
theorem q8_o {F I : Nat → Int} {n : Net} {i : Nat} (h : oP i) : q8I F n I i = I i := by
  have e2 : q2I F n I i = I i := (lh_o h).trans (go_o h)
  have e3 : q3I F n I i = I i := ((go_o h).trans (ie_o h)).trans e2
  have e5 : q5I F n I i = I i := ((lh_o h).trans (tw_o h)).trans e3
  have e6 : q6I F n I i = I i := ((go_o h).trans (ie_o h)).trans e5
  exact (sc_o h).trans (((nb_o h).trans (tw_o h)).trans e6)
def Zn : Net := fun _ _ => 0
def DOk (n : Net) : Prop := (0 ≤ n (-1) 0 ∧ n (-1) 0 ≤ 6) ∧ (∀ w, 1 ≤ w → w ≤ 7 → n (-1) w = 0) ∧ (∀ l, 0 ≤ l → l < n (-1) 0 → LineOk 0 (n (-1) 0) 0 l (n l)) ∧ (∀ l w, n (-1) 0 ≤ l → l < 6 → 0 ≤ w → w < 268 → n l w = 0)
theorem DOk_Z : DOk Zn := ⟨⟨by decide, by decide⟩, fun _ _ _ => rfl, fun l h0 h1 => by have : l < 0 := h1; omega, fun _ _ _ _ _ _ => rfl⟩
theorem LineOk_lines {b m m' time l : Int} {B : Blk} (h : LineOk b m time l B) (hm : m ≤ m') : LineOk b m' time l B := by
  obtain ⟨h0, h1, h2, h3, h4, h5, h6, h7, h8, h9, h10, h11, h12, h13⟩ := h
  exact ⟨h0, h1, h2, h3, h4, h5, h6, h7, h8, h9, h10, h11, ⟨h12.1, h12.2.1, fun z => ⟨by have := (h12.2.2 z).1; omega, (h12.2.2 z).2⟩⟩, h13⟩
theorem LineOk_new {m l a0 a1 a2 a3 a4 a5 : Int} {B : Blk} (hB : ∀ w, 0 ≤ w → w < 268 → B w = 0) (h0 : 0 ≤ a0 ∧ a0 < 387420489) (h1 : 4 ≤ a1 ∧ a1 ≤ 60) (h2 : 0 ≤ a2 ∧ a2 < a3 ∧ a3 ≤ a1) (h4 : 1 ≤ a4 ∧ a4 ≤ 9) (h5 : 0 ≤ a5 ∧ a5 ≤ 2) : LineOk 0 m 0 l (bNew B a0 a1 a2 a3 a4 a5) := by
  have e : ∀ w, 6 ≤ w → w < 268 → ¬ w = 14 → bNew B a0 a1 a2 a3 a4 a5 w = 0 := fun w u v z => by
    unfold bNew
    rw [ub_n z, ub_n (by omega), ub_n (by omega), ub_n (by omega), ub_n (by omega), ub_n (by omega), ub_n (by omega)]
    exact hB w (by omega) v
  have e0 : bNew B a0 a1 a2 a3 a4 a5 0 = a0 := by unfold bNew; simp (disch := omega) only [ub_n, ub_s]
  have e1 : bNew B a0 a1 a2 a3 a4 a5 1 = a1 := by unfold bNew; simp (disch := omega) only [ub_n, ub_s]
  have e2 : bNew B a0 a1 a2 a3 a4 a5 2 = a2 := by unfold bNew; simp (disch := omega) only [ub_n, ub_s]
  have e3 : bNew B a0 a1 a2 a3 a4 a5 3 = a3 := by unfold bNew; simp (disch := omega) only [ub_n, ub_s]
  have e4 : bNew B a0 a1 a2 a3 a4 a5 4 = a4 := by unfold bNew; simp (disch := omega) only [ub_n, ub_s]
  have e5 : bNew B a0 a1 a2 a3 a4 a5 5 = a5 := by unfold bNew; simp (disch := omega) only [ub_n, ub_s]
  have e14 : bNew B a0 a1 a2 a3 a4 a5 14 = -1 := by unfold bNew; simp (disch := omega) only [ub_n, ub_s]
  unfold LineOk
  rw [e0, e1, e2, e3, e4, e5, e14, e 6 (by decide) (by decide) (by decide), e 7 (by decide) (by decide) (by decide), e 8 (by decide) (by decide) (by decide), e 9 (by decide) (by decide) (by decide), e 10 (by decide) (by decide) (by decide), e 11 (by decide) (by decide) (by decide), e 12 (by decide) (by decide) (by decide), e 13 (by decide) (by decide) (by decide), e 15 (by decide) (by decide) (by decide)]
  refine ⟨h0, h1, h2, h4, h5, by omega, by omega, by omega, by omega, Or.inl rfl, Or.inl rfl, by omega, ⟨by decide, by decide, fun z => absurd z (by decide)⟩, by decide, ⟨by decide, by show (0 : Int) + 0 ≤ 60 * 0; decide⟩, fun k u v => ?_, fun j u v => by omega, fun j u v => by omega, fun j u v => by omega, fun j u v => by omega⟩
  rw [e k (by omega) (by omega) (by omega)]
  decide
theorem DOk_add {n : Net} {a0 a1 a2 a3 a4 a5 : Int} (h : DOk n) (h6 : n (-1) 0 < 6) (h0 : 0 ≤ a0 ∧ a0 < 387420489) (h1 : 4 ≤ a1 ∧ a1 ≤ 60) (h2 : 0 ≤ a2 ∧ a2 < a3 ∧ a3 ≤ a1) (h4 : 1 ≤ a4 ∧ a4 ≤ 9) (h5 : 0 ≤ a5 ∧ a5 ≤ 2) : DOk (nAdd n a0 a1 a2 a3 a4 a5) ∧ nAdd n a0 a1 a2 a3 a4 a5 (-1) 0 = n (-1) 0 + 1 := by
  obtain ⟨g0, g1, g2, g3⟩ := h
  have eh : nAdd n a0 a1 a2 a3 a4 a5 (-1) = ub (n (-1)) 0 (n (-1) 0 + 1) := by unfold nAdd; rw [un_n (by omega), un_s]
  have e0 : nAdd n a0 a1 a2 a3 a4 a5 (-1) 0 = n (-1) 0 + 1 := by rw [eh, ub_s]
  refine ⟨⟨by rw [e0]; omega, fun w u v => by rw [eh, ub_n (by omega)]; exact g1 w u v, fun l u v => ?_, fun l w u v x y => ?_⟩, e0⟩
  · rw [e0] at v ⊢
    unfold nAdd
    by_cases hl : l = n (-1) 0
    · subst hl
      rw [un_s]
      exact LineOk_new (fun w x y => g3 _ w (Int.le_refl _) h6 x y) h0 h1 h2 h4 h5
    · rw [un_n hl, un_n (by omega)]
      exact LineOk_lines (g2 l u (by omega)) (by omega)
  · rw [e0] at u
    unfold nAdd
    rw [un_n (by omega), un_n (by omega)]
    exact g3 l w (by omega) v x y
theorem DOk_lend {n : Net} {l o t : Int} (h : DOk n) (hl : 0 ≤ l ∧ l < n (-1) 0) (ho : 0 ≤ o ∧ o < n (-1) 0) (hn : ¬ o = l) (ht : 0 ≤ t ∧ t ≤ 99) : DOk (un n l (bLend (n l) o t)) := by
  obtain ⟨g0, g1, g2, g3⟩ := h
  have eh : un n l (bLend (n l) o t) (-1) = n (-1) := un_n (by omega)
  refine ⟨by rw [eh]; exact g0, fun w u v => by rw [eh]; exact g1 w u v, fun k u v => ?_, fun k w u v x y => ?_⟩
  · rw [eh] at v ⊢
    by_cases hk : k = l
    · subst hk
      rw [un_s]
      exact LineOk_lend (g2 k u v) ho g0.2 hn ht
    · rw [un_n hk]
      exact g2 k u v
  · rw [eh] at u
    rw [un_n (by omega)]
    exact g3 k w u v x y
def TyOk (n : Net) (z : Int) (TL TB : Nat → Int) : Prop := ∀ k : Nat, (k : Int) < z → (0 ≤ TL k ∧ TL k < n (-1) 0) ∧ 1 ≤ TB k ∧ TB k ≤ 127
/-- what always holds while a text is read -/
def PsOk (F : Nat → Int) (s : paSt) : Prop := Pin F s.1 ∧ DOk s.2.1 ∧ (s.1 12 = 0 → TyOk s.2.1 (s.1 16) s.2.2.1 s.2.2.2)
theorem lnN_ok {n : Net} {F I : Nat → Int} (h : DOk n) (hl : lhI F n I 12 = 0) : 0 ≤ lhV F n I ∧ lhV F n I < n (-1) 0 ∧ I 12 = 0 := by
  have h1 := lnN_r (n := n) (v := nmV F I) h.1
  unfold lhI at hl
  unfold lhV
  split at hl
  · next c =>
    rw [errI_12] at hl
    split at hl
    · omega
    · contradiction
  · next c => exact ⟨by omega, by omega, (nmI_ok hl).1⟩
theorem go_g {F I : Nat → Int} (h : goI F I 12 = 0) : I 12 = 0 := by
  by_cases c : I 12 = 0
  · exact c
  · rw [go_e c] at h; exact h
theorem ie_g {I : Nat → Int} {c : Int} {p : Prop} [Decidable p] (hc : ¬ c = 0) (h : (if p then errI I c else I) 12 = 0) : ¬ p ∧ I 12 = 0 := by
  split at h
  · rw [errI_12] at h
    split at h
    · exact absurd h hc
    · contradiction
  · next q => exact ⟨q, h⟩
theorem ie_g' {I : Nat → Int} {c : Int} {p : Prop} [Decidable p] (hc : ¬ c = 0) (h : (if p then I else errI I c) 12 = 0) : p ∧ I 12 = 0 := by
  split at h
  · next q => exact ⟨q, h⟩
  · rw [errI_12] at h
    split at h
    · exact absurd h hc
    · contradiction
theorem nh_g {I : Nat → Int} {a b : Int} (h : nhI I a b 12 = 0) : I 12 = 0 ∧ I 10 = 2 ∧ a ≤ I 11 ∧ I 11 ≤ b := by
  unfold nhI at h
  by_cases c : a ≤ I 11 ∧ I 11 ≤ b
  · rw [if_pos c] at h
    have h1 := ie_g' (by decide) h
    exact ⟨h1.2, h1.1, c⟩
  · rw [if_neg c] at h
    exfalso
    by_cases d : (if I 10 = 2 then I else errI I 1) 12 = 0
    · rw [errI_g d] at h; exact absurd h (by decide)
    · exact absurd h (errI_b d)
theorem nb_g {F I : Nat → Int} {a b : Int} (h : nbI F I a b 12 = 0) : I 12 = 0 ∧ I 10 = 2 ∧ a ≤ I 11 ∧ I 11 ≤ b := nh_g (go_g h)
theorem tw_g {F I : Nat → Int} {w : List Int} (h : twI F I w 12 = 0) : isWd F I w = true ∧ I 12 = 0 := ie_g' (by decide) (go_g h)
theorem sc_g {F I : Nat → Int} (h : scI F I 12 = 0) : (I 10 = 3 ∧ I 11 = 59) ∧ I 12 = 0 := ie_g' (by decide) (go_g h)
theorem ec_g {F I : Nat → Int} (h : ecI F I 12 = 0) : I 12 = 0 := by
  unfold ecI at h
  split at h
  · next c => exact (isWd_iff.mp c).1.1
  · exact h
theorem p8_g {F I : Nat → Int} {n : Net} (h : p8I F n I 12 = 0) : p7I F n I 12 = 0 ∧ p6I F n I 12 = 0 ∧ p5I F n I 12 = 0 ∧ p4I F n I 12 = 0 ∧ p3I F n I 12 = 0 ∧ p2I F n I 12 = 0 ∧ p1I F n I 12 = 0 ∧ I 12 = 0 ∧ ¬ n (-1) 0 = 6 := by
  have h7 := (sc_g h).2
  have h6 := ec_g h7
  have h5 := (tw_g (nb_g h6).1).2
  have h4 := (nb_g h5).1
  have h3 := (tw_g (nb_g h4).1).2
  have h2 := (tw_g (nb_g h3).1).2
  have h1 := (nmI_ok (ie_g (by decide) (go_g h2)).2).1
  have h0 := ie_g (by decide) (go_g h1)
  exact ⟨h7, h6, h5, h4, h3, h2, h1, h0.2, h0.1⟩
theorem q8_g {F I : Nat → Int} {n : Net} (h : q8I F n I 12 = 0) : q7I F n I 12 = 0 ∧ q6I F n I 12 = 0 ∧ q5I F n I 12 = 0 ∧ ¬ q1l F n I = q4o F n I ∧ q4I F n I 12 = 0 ∧ q3I F n I 12 = 0 ∧ q2I F n I 12 = 0 ∧ q1I F I 12 = 0 ∧ I 12 = 0 := by
  have h7 := (sc_g h).2
  have h6 := (tw_g (nb_g h7).1).2
  have h5 := ie_g (by decide) (go_g h6)
  have h4 : q4I F n I 12 = 0 := by
    by_cases c : q4I F n I 12 = 0
    · exact c
    · have h5' := h5.2
      unfold q5I at h5'
      rw [lh_e c] at h5'
      exact h5'
  have h3 := (tw_g h4).2
  have h2 := (ie_g (by decide) (go_g h3)).2
  have h1 : q1I F I 12 = 0 := by
    by_cases c : q1I F I 12 = 0
    · exact c
    · have h2' := h2
      unfold q2I at h2'
      rw [lh_e c] at h2'
      exact h2'
  exact ⟨h7, h6, h5.2, h5.1, h4, h3, h2, h1, go_g h1⟩
theorem tyL_ok {F : Nat → Int} {n : Net} {l : Int} (hl : 0 ≤ l ∧ l < n (-1) 0) : ∀ (k : Nat) (s : tySt), 0 ≤ s.1 16 → TyOk n (s.1 16) s.2.1 s.2.2 → (tyL F l k s).1 12 = 0 → TyOk n ((tyL F l k s).1 16) (tyL F l k s).2.1 (tyL F l k s).2.2
  | 0, s, _, h, _ => h
  | k + 1, s, h0, h, hg => by
    have key : (tyS F l s).1 12 = 0 → TyOk n ((tyS F l s).1 16) (tyS F l s).2.1 (tyS F l s).2.2 := by
      intro hs
      rw [tyS_16 hs]
      unfold tyS at hs ⊢
      split
      · next c =>
        have hv : nhI s.1 1 127 12 = 0 := by
          unfold tyJ at c
          exact (ie_g (by decide) c).2
        have hv2 := nh_g hv
        intro j hj
        show (0 ≤ up s.2.1 (s.1 16).toNat l j ∧ up s.2.1 (s.1 16).toNat l j < n (-1) 0) ∧ 1 ≤ up s.2.2 (s.1 16).toNat (nhV s.1 1 127) j ∧ up s.2.2 (s.1 16).toNat (nhV s.1 1 127) j ≤ 127
        by_cases e : j = (s.1 16).toNat
        · rw [e, up_s, up_s, nhV_0 hv]
          exact ⟨hl, hv2.2.2⟩
        · rw [up_n e, up_n e]
          exact h j (by omega)
      · next c =>
        rw [if_neg c] at hs
        exact absurd hs c
    unfold tyL at hg ⊢
    split
    · next c =>
      rw [if_pos c] at hg
      exact tyL_ok hl k _ (by rw [tyS_16 c.1]; omega) (key c.1) hg
    · next c =>
      rw [if_neg c] at hg
      exact key hg
theorem PsOk_S {F : Nat → Int} {s : paSt} (hF : ∀ j, -128 ≤ F j ∧ F j ≤ 127) (h : PsOk F s) : PsOk F (psS F s) := by
  obtain ⟨hP, hD, hT⟩ := h
  have hp := (psS_ok hF hP).1
  refine ⟨hp, ?_⟩
  unfold psS
  split
  · show DOk (plN F s.2.1 s.1) ∧ (p8I F s.2.1 s.1 12 = 0 → TyOk (plN F s.2.1 s.1) (p8I F s.2.1 s.1 16) s.2.2.1 s.2.2.2)
    unfold plN
    split
    · next c =>
      have g := p8_g c
      have rc := nhV_r (I := twI F (p2I F s.2.1 s.1) w_cap) (a := 4) (b := 60) (by decide)
      rw [show nhV (twI F (p2I F s.2.1 s.1) w_cap) 4 60 = p3c F s.2.1 s.1 from rfl] at rc
      have rl := nhV_r (I := twI F (p3I F s.2.1 s.1) w_marks) (a := 0) (b := p3c F s.2.1 s.1 - 1) (by omega)
      rw [show nhV (twI F (p3I F s.2.1 s.1) w_marks) 0 (p3c F s.2.1 s.1 - 1) = p4l F s.2.1 s.1 from rfl] at rl
      have rh := nhV_r (I := p4I F s.2.1 s.1) (a := p4l F s.2.1 s.1 + 1) (b := p3c F s.2.1 s.1) (by omega)
      rw [show nhV (p4I F s.2.1 s.1) (p4l F s.2.1 s.1 + 1) (p3c F s.2.1 s.1) = p5h F s.2.1 s.1 from rfl] at rh
      have rs := nhV_r (I := twI F (p5I F s.2.1 s.1) w_share) (a := 1) (b := 9) (by decide)
      rw [show nhV (twI F (p5I F s.2.1 s.1) w_share) 1 9 = p6s F s.2.1 s.1 from rfl] at rs
      have h6 := hD.1
      have ha := DOk_add (a0 := p1N F s.2.1 s.1) (a1 := p3c F s.2.1 s.1) (a2 := p4l F s.2.1 s.1) (a3 := p5h F s.2.1 s.1) (a4 := p6s F s.2.1 s.1) (a5 := p7e F s.2.1 s.1) hD (by have := g.2.2.2.2.2.2.2.2; omega) (nmV_r (p1_P hF hP)) rc ⟨by omega, by omega, by omega⟩ rs ecV_r
      refine ⟨ha.1, fun _ j hj => ?_⟩
      rw [p8_o (by unfold oP; decide)] at hj
      have := hT g.2.2.2.2.2.2.2.1 j hj
      rw [ha.2]
      omega
    · next c => exact ⟨hD, fun z => absurd z c⟩
  · split
    · show DOk (qlN F s.2.1 s.1) ∧ (q8I F s.2.1 s.1 12 = 0 → TyOk (qlN F s.2.1 s.1) (q8I F s.2.1 s.1 16) s.2.2.1 s.2.2.2)
      unfold qlN
      split
      · next c =>
        have g := q8_g c
        have l1 := lnN_ok hD g.2.2.2.2.2.2.1
        have l2 := lnN_ok hD g.2.2.1
        have rt := nhV_r (I := twI F (q6I F s.2.1 s.1) w_for) (a := 1) (b := 99) (by decide)
        have e1 : lhV F s.2.1 (goI F s.1) = q1l F s.2.1 s.1 := rfl
        have e2 : lhV F s.2.1 (q4I F s.2.1 s.1) = q4o F s.2.1 s.1 := rfl
        have ha := DOk_lend (l := q1l F s.2.1 s.1) (o := q4o F s.2.1 s.1) (t := q7t F s.2.1 s.1) hD ⟨l1.1, l1.2.1⟩ ⟨l2.1, l2.2.1⟩ (fun z => g.2.2.2.1 z.symm) ⟨by have := rt.1; unfold q7t; omega, rt.2⟩
        refine ⟨ha, fun _ j hj => ?_⟩
        rw [q8_o (by unfold oP; decide)] at hj
        have := hT g.2.2.2.2.2.2.2.2 j hj
        have l1' : 0 ≤ q1l F s.2.1 s.1 := l1.1
        rw [un_n (by omega)]
        exact this
      · next c => exact ⟨hD, fun z => absurd z c⟩
    · split
      · show DOk s.2.1 ∧ (scI F (ttR F s.2.1 s.1 s.2.2.1 s.2.2.2).1 12 = 0 → TyOk s.2.1 (scI F (ttR F s.2.1 s.1 s.2.2.1 s.2.2.2).1 16) (ttR F s.2.1 s.1 s.2.2.1 s.2.2.2).2.1 (ttR F s.2.1 s.1 s.2.2.1 s.2.2.2).2.2)
        refine ⟨hD, fun z => ?_⟩
        have z2 := (sc_g z).2
        rw [sc_o (by unfold oP; decide)]
        unfold ttR at z2 ⊢
        have ht : t1I F s.2.1 s.1 12 = 0 := by
          by_cases c : t1I F s.2.1 s.1 12 = 0
          · exact c
          · rw [tyL_e (s := (t1I F s.2.1 s.1, s.2.2.1, s.2.2.2)) c] at z2
            exact z2
        have hl := lnN_ok hD (go_g ht)
        have e16 : t1I F s.2.1 s.1 16 = s.1 16 := (go_o (by unfold oP; decide)).trans ((lh_o (by unfold oP; decide)).trans (go_o (by unfold oP; decide)))
        have h16 := hP.1.2.2.2.2
        exact tyL_ok ⟨hl.1, hl.2.1⟩ 62 (t1I F s.2.1 s.1, s.2.2.1, s.2.2.2) (by show 0 ≤ t1I F s.2.1 s.1 16; rw [e16]; exact h16.1) (by show TyOk _ (t1I F s.2.1 s.1 16) _ _; rw [e16]; exact hT (go_g hl.2.2)) z2
      · refine ⟨hD, fun z => ?_⟩
        have z' : errI s.1 1 12 = 0 := z
        rw [errI_12] at z'
        split at z'
        · exact absurd z' (by decide)
        · contradiction
theorem psS_lines {F : Nat → Int} {s : paSt} (hF : ∀ j, -128 ≤ F j ∧ F j ≤ 127) (h : PsOk F s) : s.2.1 (-1) 0 ≤ (psS F s).2.1 (-1) 0 := by
  unfold psS
  split
  · show _ ≤ plN F s.2.1 s.1 (-1) 0
    unfold plN
    split
    · unfold nAdd
      have := h.2.1.1
      rw [un_n (by omega), un_s, ub_s]
      omega
    · exact Int.le_refl _
  · split
    · show _ ≤ qlN F s.2.1 s.1 (-1) 0
      unfold qlN
      split
      · have : 0 ≤ q1l F s.2.1 s.1 := by unfold q1l lhV; omega
        rw [un_n (by omega)]
        exact Int.le_refl _
      · exact Int.le_refl _
    · split
      · exact Int.le_refl _
      · exact Int.le_refl _
theorem PsOk_L {F : Nat → Int} (hF : ∀ j, -128 ≤ F j ∧ F j ≤ 127) : ∀ (k : Nat) (s : paSt), PsOk F s → PsOk F (psL F k s) ∧ s.2.1 (-1) 0 ≤ (psL F k s).2.1 (-1) 0
  | 0, s, h => ⟨h, Int.le_refl _⟩
  | k + 1, s, h => by
    unfold psL
    split
    · have h1 := PsOk_L hF k _ (PsOk_S hF h)
      exact ⟨h1.1, Int.le_trans (psS_lines hF h) h1.2⟩
    · exact ⟨h, Int.le_refl _⟩
theorem psL_e {F : Nat → Int} {s : paSt} (h : ¬ (s.1 12 = 0 ∧ ¬ s.1 10 = 0)) : ∀ k, psL F k s = s
  | 0 => rfl
  | k + 1 => if_neg h
/-! the load -/
def ldI0 (I : Nat → Int) : Nat → Int := up (up (up (up (up (up (up I 0 0) 7 (I 6)) 6 0) 8 0) 12 0) 13 (-1)) 16 0
def ldJ (F I : Nat → Int) : Nat → Int := if ¬ isWd F (scanI F (ldI0 I)) w_line = true then errI (scanI F (ldI0 I)) 1 else scanI F (ldI0 I)
def ldR (F I TL TB : Nat → Int) : paSt := psL F 500 (ldJ F I, Zn, TL, TB)
def ldD (n : Net) : Net := un n (-1) (ub (n (-1)) 3 (n 0 4))
def tyN (TL TB : Nat → Int) (n : Net) : Nat → Net
  | 0 => n
  | k + 1 => un (tyN TL TB n k) (TL k) (bType (tyN TL TB n k (TL k)) (TB k) (tyN TL TB n k (-1) 1))
def ldN (F I TL TB : Nat → Int) : Net := tyN (ldR F I TL TB).2.2.1 (ldR F I TL TB).2.2.2 (ldD (ldR F I TL TB).2.1) ((ldR F I TL TB).1 16).toNat
theorem ldI0_v (I : Nat → Int) : ldI0 I 7 = I 6 ∧ ldI0 I 8 = 0 ∧ ldI0 I 12 = 0 ∧ ldI0 I 16 = 0 ∧ ldI0 I 11 = I 11 ∧ ldI0 I 20 = I 20 := by
  unfold ldI0
  refine ⟨?_, ?_, ?_, ?_, ?_, ?_⟩ <;> simp (disch := decide) only [up_s, up_n]
theorem ldI0_P {I : Nat → Int} (h6 : 0 ≤ I 6 ∧ I 6 ≤ 400) (h11 : 0 ≤ I 11 ∧ I 11 ≤ 9999) : Pin0 (ldI0 I) := by
  have h := ldI0_v I
  unfold Pin0
  rw [h.1, h.2.1, h.2.2.1, h.2.2.2.1, h.2.2.2.2.1]
  exact ⟨h6, by decide, h11, by decide, by decide⟩
theorem ldJ_ok {F I TL TB : Nat → Int} (hF : ∀ j, -128 ≤ F j ∧ F j ≤ 127) (h6 : 0 ≤ I 6 ∧ I 6 ≤ 400) (h11 : 0 ≤ I 11 ∧ I 11 ≤ 9999) : PsOk F (ldJ F I, Zn, TL, TB) := by
  have h := (Pin_scan hF (ldI0_P h6 h11)).1
  refine ⟨ifE_P (by decide) h, DOk_Z, fun _ k hk => ?_⟩
  have e : ldJ F I 16 = 0 := (if_o (er_o (by unfold oP; decide)) rfl).trans ((scanI_o (by decide)).trans (ldI0_v I).2.2.2.1)
  exact absurd (show (k : Int) < 0 from by rw [← e]; exact hk) (by omega)
theorem ldR_ok {F I TL TB : Nat → Int} (hF : ∀ j, -128 ≤ F j ∧ F j ≤ 127) (h6 : 0 ≤ I 6 ∧ I 6 ≤ 400) (h11 : 0 ≤ I 11 ∧ I 11 ≤ 9999) : PsOk F (ldR F I TL TB) ∧ ((ldR F I TL TB).1 12 = 0 → 1 ≤ (ldR F I TL TB).2.1 (-1) 0) := by
  have h := ldJ_ok (TL := TL) (TB := TB) hF h6 h11
  refine ⟨(PsOk_L hF 500 _ h).1, fun z => ?_⟩
  unfold ldR at z ⊢
  have hj : ldJ F I 12 = 0 := by
    by_cases c : ldJ F I 12 = 0
    · exact c
    · rw [psL_e (s := (ldJ F I, Zn, TL, TB)) (fun q => c q.1)] at z
      exact z
  have hw := ie_g (by decide) hj
  have hw2 : isWd F (scanI F (ldI0 I)) w_line = true := by simpa using hw.1
  have eJ : ldJ F I = scanI F (ldI0 I) := if_neg hw.1
  have h10 := (isWd_iff.mp hw2).1
  have e1 : psL F 500 (ldJ F I, Zn, TL, TB) = psL F 499 (psS F (ldJ F I, Zn, TL, TB)) := if_pos ⟨hj, by show ¬ ldJ F I 10 = 0; rw [eJ, h10.2.1]; decide⟩
  rw [e1] at z ⊢
  have e2 : psS F (ldJ F I, Zn, TL, TB) = (p8I F Zn (ldJ F I), plN F Zn (ldJ F I), TL, TB) := if_pos (by show isWd F (ldJ F I) w_line = true; rw [eJ]; exact hw2)
  have h2 := (PsOk_L hF 499 _ (PsOk_S hF h)).2
  have h3 : p8I F Zn (ldJ F I) 12 = 0 := by
    by_cases c : p8I F Zn (ldJ F I) 12 = 0
    · exact c
    · rw [e2, psL_e (s := (p8I F Zn (ldJ F I), plN F Zn (ldJ F I), TL, TB)) (fun q => c q.1)] at z
      exact z
  refine Int.le_trans ?_ h2
  rw [e2]
  show 1 ≤ plN F Zn (ldJ F I) (-1) 0
  unfold plN
  rw [if_pos h3]
  unfold nAdd
  rw [un_n (by decide), un_s, ub_s]
  decide
theorem ldD_ok {n : Net} (h : DOk n) (h1 : 1 ≤ n (-1) 0) : NetOk 0 (ldD n) := by
  obtain ⟨g0, g1, g2, g3⟩ := h
  have e1 : ldD n (-1) = ub (n (-1)) 3 (n 0 4) := un_s _ _ _
  have e : ∀ j, ¬ j = -1 → ldD n j = n j := fun j hj => un_n hj
  have c : ∀ w, 1 ≤ w → w ≤ 7 → ¬ w = 3 → ldD n (-1) w = 0 := fun w u v x => by rw [e1, ub_n x]; exact g1 w u v
  have c0 : ldD n (-1) 0 = n (-1) 0 := by rw [e1, ub_n (by decide)]
  have c3 : ldD n (-1) 3 = n 0 4 := by rw [e1, ub_s]
  have l0 := g2 0 (by decide) (by omega)
  refine ⟨?_, ?_, ?_⟩
  · unfold HeadOk
    rw [c0, c 1 (by decide) (by decide) (by decide), c 2 (by decide) (by decide) (by decide), c3, c 4 (by decide) (by decide) (by decide), c 5 (by decide) (by decide) (by decide), c 6 (by decide) (by decide) (by decide), c 7 (by decide) (by decide) (by decide)]
    refine ⟨⟨h1, g0.2⟩, by decide, ⟨by decide, by omega⟩, l0.2.2.2.1, by decide, by decide, Or.inl rfl, by decide, ?_⟩
    have hz : ∀ k : Nat, (k : Int) ≤ n (-1) 0 → qs (fun l => ldD n l 17) k = 0 := by
      intro k
      induction k with
      | zero => intro _; rfl
      | succ k ih =>
        intro hk
        have h5 := LineOk_c (g2 k (by omega) (by omega)) (k := 17) (by decide) (by decide)
        show qs (fun l => ldD n l 17) k + ldD n (k : Int) 17 = 0
        rw [ih (by omega), e k (by omega)]
        omega
    exact (hz _ (by omega)).symm
  · intro k u v
    rw [c 7 (by decide) (by decide) (by decide)] at v
    omega
  · intro l u v
    rw [c0] at v ⊢
    rw [c 1 (by decide) (by decide) (by decide), e l (by omega)]
    exact g2 l u v
theorem tyN_ok {n : Net} {TL TB : Nat → Int} {z : Int} (hT : TyOk n z TL TB) (hn : NetOk 0 (ldD n)) : ∀ k : Nat, (k : Int) ≤ z → NetOk (122 * k) (tyN TL TB (ldD n) k) ∧ tyN TL TB (ldD n) k (-1) 0 = n (-1) 0
  | 0, _ => ⟨hn, by show ldD n (-1) 0 = _; unfold ldD; rw [un_s, ub_n (by decide)]⟩
  | k + 1, hk => by
    have h1 := tyN_ok hT hn k (by omega)
    have h2 := hT k (by omega)
    have h3 := NetOk_type (l := TL k) (v := TB k) h1.1 ⟨h2.1.1, by rw [h1.2]; exact h2.1.2⟩ h2.2
    refine ⟨NetOk_mono h3 (by omega), ?_⟩
    show un _ (TL k) _ (-1) 0 = _
    rw [un_n (by omega)]
    exact h1.2
