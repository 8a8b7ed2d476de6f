/-! The class's parser beside the reference's: stages. -/
theorem goI_dd {F I : Nat → Int} (h : ¬ I 12 = 0) : goI F I = I := if_neg h
theorem isWd_dd {F I : Nat → Int} {w : List Int} (h : ¬ I 12 = 0) : ¬ isWd F I w = true := fun q => h (isWd_iff.mp q).1.1
theorem er_dd {I : Nat → Int} {c : Int} {p : Prop} [Decidable p] (h : ¬ I 12 = 0) : (if p then errI I c else I) = I := by rw [errI_id h, ite_self]
theorem er_dd2 {I : Nat → Int} {c : Int} {p : Prop} [Decidable p] (h : ¬ I 12 = 0) : (if p then I else errI I c) = I := by rw [errI_id h, ite_self]
theorem twI_dd {F I : Nat → Int} {w : List Int} (h : ¬ I 12 = 0) : twI F I w = I := by unfold twI; rw [er_dd2 h, goI_dd h]
theorem scI_dd {F I : Nat → Int} (h : ¬ I 12 = 0) : scI F I = I := by unfold scI; rw [er_dd2 h, goI_dd h]
theorem nbI_dd {F I : Nat → Int} {a b : Int} (h : ¬ I 12 = 0) : nbI F I a b = I := by unfold nbI; rw [nhI_D h, goI_dd h]
theorem nmI_dd {F I : Nat → Int} (h : ¬ I 12 = 0) : nmI F I = I := by unfold nmI; rw [er_dd h]
theorem lhI_dd {F I : Nat → Int} {n : Net} (h : ¬ I 12 = 0) : lhI F n I = I := by unfold lhI; rw [nmI_dd h, er_dd h]
theorem ecI_dd {F I : Nat → Int} (h : ¬ I 12 = 0) : ecI F I = I := if_neg (isWd_dd h)
section Chain
variable {F I X : Nat → Int} {n : Net}
theorem p8_7 (hd : ¬ X 12 = 0) (h : p7I F n I = X) : p8I F n I = X := by unfold p8I; rw [h, scI_dd hd]
theorem p8_6 (hd : ¬ X 12 = 0) (h : p6I F n I = X) : p8I F n I = X := p8_7 hd (by unfold p7I; rw [h, ecI_dd hd])
theorem p8_5s (hd : ¬ X 12 = 0) (h : twI F (p5I F n I) w_share = X) : p8I F n I = X := p8_6 hd (by unfold p6I; rw [h, nbI_dd hd])
theorem p8_5 (hd : ¬ X 12 = 0) (h : p5I F n I = X) : p8I F n I = X := p8_5s hd (by rw [h, twI_dd hd])
theorem p8_4 (hd : ¬ X 12 = 0) (h : p4I F n I = X) : p8I F n I = X := p8_5 hd (by unfold p5I; rw [h, nbI_dd hd])
theorem p8_3m (hd : ¬ X 12 = 0) (h : twI F (p3I F n I) w_marks = X) : p8I F n I = X := p8_4 hd (by unfold p4I; rw [h, nbI_dd hd])
theorem p8_3 (hd : ¬ X 12 = 0) (h : p3I F n I = X) : p8I F n I = X := p8_3m hd (by rw [h, twI_dd hd])
theorem p8_2c (hd : ¬ X 12 = 0) (h : twI F (p2I F n I) w_cap = X) : p8I F n I = X := p8_3 hd (by unfold p3I; rw [h, nbI_dd hd])
theorem p8_2 (hd : ¬ X 12 = 0) (h : p2I F n I = X) : p8I F n I = X := p8_2c hd (by rw [h, twI_dd hd])
theorem p8_1 (hd : ¬ X 12 = 0) (h : p1I F n I = X) : p8I F n I = X := p8_2 hd (by unfold p2I; rw [h, nmI_dd hd, er_dd hd, goI_dd hd])
theorem q8_7 (hd : ¬ X 12 = 0) (h : q7I F n I = X) : q8I F n I = X := by unfold q8I; rw [h, scI_dd hd]
theorem q8_6f (hd : ¬ X 12 = 0) (h : twI F (q6I F n I) w_for = X) : q8I F n I = X := q8_7 hd (by unfold q7I; rw [h, nbI_dd hd])
theorem q8_6 (hd : ¬ X 12 = 0) (h : q6I F n I = X) : q8I F n I = X := q8_6f hd (by rw [h, twI_dd hd])
theorem q8_5 (hd : ¬ X 12 = 0) (h : q5I F n I = X) : q8I F n I = X := q8_6 hd (by unfold q6I; rw [h, er_dd hd, goI_dd hd])
theorem q8_4 (hd : ¬ X 12 = 0) (h : q4I F n I = X) : q8I F n I = X := q8_5 hd (by unfold q5I; rw [h, lhI_dd hd])
theorem q8_3 (hd : ¬ X 12 = 0) (h : q3I F n I = X) : q8I F n I = X := q8_4 hd (by unfold q4I; rw [h, twI_dd hd])
theorem q8_2 (hd : ¬ X 12 = 0) (h : q2I F n I = X) : q8I F n I = X := q8_3 hd (by unfold q3I; rw [h, if_neg (fun z => hd z.1), goI_dd hd])
end Chain
theorem errI_v {I : Nat → Int} {c : Int} (h : I 12 = 0) : errI I c 12 = c ∧ errI I c 13 = I 9 := by
  unfold errI
  rw [if_pos h]
  exact ⟨by rw [up_n (by decide), up_s], up_s _ _ _⟩
/-- the result has this error -/
theorem errR {F I : Nat → Int} {c : Int} {N : paSt} {f : Nat} (h : I 12 = 0) (hc : ¬ c = 0) (hN : N.1 = errI I c) : (psL F f N).1 12 = c ∧ (psL F f N).1 13 = I 9 := by
  have h1 := errI_v (c := c) h
  rw [psL_e (s := N) (fun z => hc (by rw [hN, h1.1] at z; exact z.1)), hN]
  exact h1
theorem sc_st {F I : Nat → Int} : ∀ (z v : Int) (_ : ∀ j, -128 ≤ F j ∧ F j ≤ 127) (_ : Pin0 I), ¬ scanI F I 10 = 0 → scanI F I 9 < scanI F I 8 ∧ scanI F I 8 ≤ I 7 := by
  intro z v hF hP h
  unfold scanI at h ⊢
  obtain ⟨s, hs⟩ : ∃ s, s = skp isW (byt F (I 7)) 500 (I 8) := ⟨_, rfl⟩
  rw [← hs] at h ⊢
  by_cases c1 : byt F (I 7) s = -1
  · rw [if_pos c1] at h
    exact absurd (setI_v I s s 0 (I 11)).1.2.2.1 h
  · rw [if_neg c1] at h ⊢
    by_cases c2 : 97 ≤ byt F (I 7) s ∧ byt F (I 7) s ≤ 122
    · rw [if_pos c2] at h ⊢
      have e := (setI_v I (skp isA (byt F (I 7)) 500 s) s 1 (I 11)).1
      rw [e.1, e.2.1]
      have a1 : skp isA (byt F (I 7)) (499 + 1) s = skp isA (byt F (I 7)) 499 (s + 1) := skp_yes (isA_1 c2)
      have a2 := skp_ge isA (byt F (I 7)) 499 (s + 1)
      have a3 := skp_le (p := isA) (F := F) (ts := I 7) (by decide) 500 s
      have a4 := byt_k c1
      refine ⟨?_, by omega⟩
      show s < skp isA (byt F (I 7)) (499 + 1) s
      omega
    · rw [if_neg c2] at h ⊢
      by_cases c3 : 48 ≤ byt F (I 7) s ∧ byt F (I 7) s ≤ 57
      · rw [if_pos c3] at h ⊢
        have e := (setI_v I (nums (byt F (I 7)) 500 s 0).1 s 2 (nums (byt F (I 7)) 500 s 0).2).1
        rw [e.1, e.2.1]
        have a1 : nums (byt F (I 7)) (499 + 1) s 0 = nums (byt F (I 7)) 499 (s + 1) (min 9999 (10 * 0 + byt F (I 7) s - 48)) := if_pos (isD_1 c3)
        have a2 := (nums_b (F := F) (ts := I 7) 499 (s + 1) (min 9999 (10 * 0 + byt F (I 7) s - 48)) (by omega) (by omega)).1
        have a4 := byt_k c1
        show s < (nums (byt F (I 7)) (499 + 1) s 0).1 ∧ (nums (byt F (I 7)) (499 + 1) s 0).1 ≤ I 7
        rw [a1]
        omega
      · rw [if_neg c3] at h ⊢
        have e := (setI_v I (s + 1) s 3 (byt F (I 7) s)).1
        have a4 := byt_k c1
        rw [e.1, e.2.1]
        omega
def ALs (F : Nat → Int) (z : Int) (I J : Nat → Int) : Prop := AL F z I J ∧ (¬ I 10 = 0 → I 9 < I 8 ∧ I 8 ≤ z) ∧ I 13 = -1
theorem ALs_scan {F : Nat → Int} {z v : Int} {I : Nat → Int} (hF : ∀ j, -128 ≤ F j ∧ F j ≤ 127) (hP : Pin0 I) (h12 : I 12 = 0) (h7 : I 7 = z) (hv : 0 ≤ v ∧ v ≤ 1000) (h13 : I 13 = -1) : ALs F z (scanI F I) (tkN F z v (I 8)) := ⟨AL_scan hF hP h12 h7 hv, fun q => by rw [← h7]; exact sc_st z v hF hP q, (scanI_o (by decide)).trans h13⟩
theorem ALs_next {F : Nat → Int} {z : Int} {I J : Nat → Int} (hF : ∀ j, -128 ≤ F j ∧ F j ≤ 127) (h : ALs F z I J) : ALs F z (goI F I) (tkN F z (J 4) (J 3)) ∧ I 9 ≤ goI F I 9 ∧ (¬ I 10 = 0 → I 9 < goI F I 9) ∧ goI F I 16 = I 16 := by
  obtain ⟨⟨h12, hP, ⟨h7, e2, e3⟩, t⟩, hs, h13⟩ := h
  have eg : goI F I = scanI F I := if_pos h12
  rw [eg, e3]
  have h8 := (Pin_scan hF hP.1).2
  have h9 := hP.2.1
  exact ⟨ALs_scan hF hP.1 h12 h7 t.2.2.2.2 h13, by omega, fun q => by have := hs q; omega, scanI_o (by decide)⟩
theorem ALs_next16 {F : Nat → Int} {z x : Int} {I J : Nat → Int} (hF : ∀ j, -128 ≤ F j ∧ F j ≤ 127) (h : ALs F z I J) (hx : 0 ≤ x ∧ x ≤ 60) : ALs F z (goI F (up I 16 x)) (tkN F z (J 4) (J 3)) ∧ I 9 ≤ goI F (up I 16 x) 9 ∧ (¬ I 10 = 0 → I 9 < goI F (up I 16 x) 9) ∧ goI F (up I 16 x) 16 = x := by
  obtain ⟨⟨h12, hP, ⟨h7, e2, e3⟩, t⟩, hs, h13⟩ := h
  have u : ∀ i, ¬ i = 16 → up I 16 x i = I i := fun i hi => up_n hi
  have hP0 : Pin0 (up I 16 x) := by
    have := hP.1
    unfold Pin0 at this ⊢
    rw [u 7 (by decide), u 8 (by decide), u 11 (by decide), u 12 (by decide), up_s]
    exact ⟨this.1, this.2.1, this.2.2.1, this.2.2.2.1, hx⟩
  have eg : goI F (up I 16 x) = scanI F (up I 16 x) := if_pos (by rw [u 12 (by decide)]; exact h12)
  rw [eg, e3]
  have h8 := (Pin_scan hF hP0).2
  rw [u 8 (by decide)] at h8
  have h9 := hP.2.1
  have hA := ALs_scan (z := z) (v := J 4) hF hP0 (by rw [u 12 (by decide)]; exact h12) (by rw [u 7 (by decide)]; exact h7) t.2.2.2.2 (by rw [u 13 (by decide)]; exact h13)
  rw [u 8 (by decide)] at hA
  exact ⟨hA, by omega, fun q => by have := hs q; omega, (scanI_o (by decide)).trans (up_s _ _ _)⟩
/-- a number -/
theorem AL_NUM {F : Nat → Int} {z lo hi : Int} {I J : Nat → Int} (h : AL F z I J) (hlo : lo ≤ 1000) (hhi : hi < 1000) : (tnC J lo hi = 0 → nhI I lo hi = I ∧ nhV I lo hi = J 4 ∧ (lo ≤ J 4 ∧ J 4 ≤ hi) ∧ ¬ I 10 = 0) ∧ (¬ tnC J lo hi = 0 → nhI I lo hi = errI I (tnC J lo hi)) := by
  have hn := AL_num h
  have ht := h.2.2.2.2.1
  have h12 := h.1
  unfold tnC
  by_cases c1 : J 1 = 1
  · have h2 := hn.mp c1
    have h4 := (ht h2).2
    rw [if_pos c1]
    by_cases c2 : J 4 < lo ∨ hi < J 4
    · rw [if_pos c2]
      exact ⟨fun q => absurd q (by decide), fun _ => nhI_C h2 (by omega)⟩
    · rw [if_neg c2]
      have e : nhI I lo hi = I := nhI_B h2 (by omega)
      refine ⟨fun _ => ⟨e, ?_, by omega, by omega⟩, fun q => absurd rfl q⟩
      rw [nhV_0 (by rw [e]; exact h12)]
      omega
  · rw [if_neg c1]
    exact ⟨fun q => absurd q (by decide), fun _ => nhI_A h12 (fun q => c1 (hn.mpr q))⟩
theorem nbI_ok {F I : Nat → Int} {a b : Int} (h : nhI I a b = I) : nbI F I a b = goI F I := by unfold nbI; rw [h]
theorem nbI_er {F I : Nat → Int} {a b c : Int} (h0 : I 12 = 0) (hc : ¬ c = 0) (h : nhI I a b = errI I c) : nbI F I a b = errI I c := by
  unfold nbI
  rw [h, goI_dd (by rw [(errI_v h0).1]; exact hc)]
/-- a keyword -/
theorem AL_KW {F : Nat → Int} {z k : Int} {w : List Int} {I J : Nat → Int} (h : AL F z I J) (hk : ∀ s e : Int, kcF F z s e = k ↔ hwK F z s e w) (h4 : 4 < k) : (knC J k = 0 → twI F I w = goI F I ∧ ¬ I 10 = 0) ∧ (¬ knC J k = 0 → knC J k = 1 ∧ twI F I w = errI I 1) := by
  have e := AL_kw h hk h4
  unfold knC
  by_cases c : J 1 = k
  · rw [if_pos c]
    have hw := e.mp c
    refine ⟨fun _ => ⟨by unfold twI; rw [if_pos hw], ?_⟩, fun q => absurd rfl q⟩
    have := (isWd_iff.mp hw).1.2.1
    omega
  · rw [if_neg c]
    refine ⟨fun q => absurd q (by decide), fun _ => ⟨rfl, ?_⟩⟩
    unfold twI
    rw [if_neg (fun q => c (e.mpr q)), goI_dd (by rw [(errI_v h.1).1]; decide)]
theorem AL_SC {F : Nat → Int} {z : Int} {I J : Nat → Int} (h : AL F z I J) : (knC J 2 = 0 → scI F I = goI F I ∧ ¬ I 10 = 0) ∧ (¬ knC J 2 = 0 → knC J 2 = 1 ∧ scI F I = errI I 1) := by
  have e := AL_semi h
  unfold knC
  by_cases c : J 1 = 2
  · rw [if_pos c]
    have hw := e.mp c
    exact ⟨fun _ => ⟨by unfold scI; rw [if_pos hw], by omega⟩, fun q => absurd rfl q⟩
  · rw [if_neg c]
    refine ⟨fun q => absurd q (by decide), fun _ => ⟨rfl, ?_⟩⟩
    unfold scI
    rw [if_neg (fun q => c (e.mpr q)), goI_dd (by rw [(errI_v h.1).1]; decide)]
/-- a name -/
theorem AL_NM {F : Nat → Int} {z : Int} {I J : Nat → Int} (h : AL F z I J) : (J 1 = 4 → nmI F I = I ∧ nmV F I = nmF F (I 9).toNat (I 8 - I 9).toNat ∧ I 10 = 1 ∧ (0 ≤ I 9 ∧ I 9 < I 8 ∧ I 8 ≤ z ∧ I 8 - I 9 ≤ 6) ∧ ∀ j : Nat, I 9 ≤ (j : Int) → (j : Int) < I 8 → 97 ≤ F j ∧ F j ≤ 122) ∧ (¬ J 1 = 4 → nmI F I = errI I 1 ∧ ∀ n : Net, lhI F n I = errI I 1) := by
  have e := AL_name h
  refine ⟨fun c => ?_, fun c => ?_⟩
  · have hc := e.mp c
    have e1 : nmI F I = I := if_neg hc
    obtain ⟨g1, g2⟩ := not_or.mp hc
    obtain ⟨g3, g4⟩ := not_or.mp g2
    have h10 : I 10 = 1 := by omega
    have hp := h.2.1.2.2.2 h10
    have h9 := h.2.1.2.1
    have h7 := h.2.2.1.1
    exact ⟨e1, by unfold nmV; rw [e1, if_pos h.1], h10, by omega, hp.2.2⟩
  · have hc : I 10 ≠ 1 ∨ 6 < I 8 - I 9 ∨ keyW F I = true := Classical.byContradiction fun q => c (e.mpr q)
    have e1 : nmI F I = errI I 1 := if_pos hc
    refine ⟨e1, fun n => ?_⟩
    unfold lhI
    rw [e1, er_dd (by rw [(errI_v h.1).1]; decide)]
/-! the two nets -/
def isL (B : Blk) : Prop := isNm (B 0) ∧ B 6 = 0 ∧ B 7 = 0 ∧ B 8 = 0
def RelS (n nm : Net) : Prop := n (-1) 0 = nm (-1) 0 ∧ (∀ w, 1 ≤ w → w ≤ 7 → ¬ w = 3 → n (-1) w = 0) ∧ (∀ j w, 0 ≤ j → j < nm (-1) 0 → 0 ≤ w → w < 28 → n j w = nm j w) ∧ (∀ j, nm (-1) 0 ≤ j → j < 6 → ∃ J, n j = bOver J) ∧ ∀ j, 0 ≤ j → j < nm (-1) 0 → isL (nm j)
def BLD (n nm : Net) (v : Int) : Prop := (n (-1) 0 = nm (-1) 0 + 1 ∧ nm (-1) 0 < 6 ∧ 0 ≤ nm (-1) 0) ∧ (∀ w, 1 ≤ w → w ≤ 7 → ¬ w = 3 → n (-1) w = 0) ∧ (∀ j w, 0 ≤ j → j < nm (-1) 0 → 0 ≤ w → w < 28 → n j w = nm j w) ∧ (∀ j, nm (-1) 0 < j → j < 6 → ∃ J, n j = bOver J) ∧ (∀ j, 0 ≤ j → j < nm (-1) 0 → isL (nm j)) ∧ isNm v ∧ n (nm (-1) 0) 0 = v ∧ (∀ w, 6 ≤ w → w < 28 → n (nm (-1) 0) w = if w = 14 then -1 else 0) ∧ n (nm (-1) 0) 5 = 0
theorem BLD_lst {n nm : Net} {v : Int} (h : BLD n nm v) : lst n = nm (-1) 0 := by
  unfold lst
  have := h.1.1
  omega
theorem BLD_set {n nm : Net} {v w x : Int} (h : BLD n nm v) (hw : 1 ≤ w ∧ w ≤ 4) : BLD (seL n w x) nm v ∧ seL n w x (nm (-1) 0) w = x ∧ ∀ w', ¬ w' = w → seL n w x (nm (-1) 0) w' = n (nm (-1) 0) w' := by
  have hl := BLD_lst h
  obtain ⟨h1, h2, h3, h4, h5, h6, h7, h8, h9⟩ := h
  have e : ∀ j, ¬ j = nm (-1) 0 → seL n w x j = n j := fun j hj => by unfold seL; rw [hl, un_n hj]
  have ek : seL n w x (nm (-1) 0) = ub (n (nm (-1) 0)) w x := by unfold seL; rw [hl, un_s]
  refine ⟨⟨?_, ?_, ?_, ?_, h5, h6, ?_, ?_, ?_⟩, by rw [ek, ub_s], fun w' hw' => by rw [ek, ub_n hw']⟩
  · rw [e _ (by omega)]; exact h1
  · intro w' u v' q; rw [e _ (by omega)]; exact h2 w' u v' q
  · intro j w' a b c d; rw [e _ (by omega)]; exact h3 j w' a b c d
  · intro j a b; rw [e _ (by omega)]; exact h4 j a b
  · rw [ek, ub_n (by omega)]; exact h7
  · intro w' a b; rw [ek, ub_n (by omega)]; exact h8 w' a b
  · rw [ek, ub_n (by omega)]; exact h9
theorem BLD_end {n nm : Net} {v e : Int} (hD : DOk nm) (h : BLD n nm v) : RelS (seL n 5 e) (nAdd nm v (n (nm (-1) 0) 1) (n (nm (-1) 0) 2) (n (nm (-1) 0) 3) (n (nm (-1) 0) 4) e) := by
  have hl := BLD_lst h
  obtain ⟨h1, h2, h3, h4, h5, h6, h7, h8, h9⟩ := h
  have e0 : ∀ j, ¬ j = nm (-1) 0 → seL n 5 e j = n j := fun j hj => by unfold seL; rw [hl, un_n hj]
  have ek : seL n 5 e (nm (-1) 0) = ub (n (nm (-1) 0)) 5 e := by unfold seL; rw [hl, un_s]
  obtain ⟨N, hN⟩ : ∃ N, N = nAdd nm v (n (nm (-1) 0) 1) (n (nm (-1) 0) 2) (n (nm (-1) 0) 3) (n (nm (-1) 0) 4) e := ⟨_, rfl⟩
  rw [← hN]
  have a0 : N (-1) 0 = nm (-1) 0 + 1 := by rw [hN]; unfold nAdd; rw [un_n (by omega), un_s, ub_s]
  have aj : ∀ j, 0 ≤ j → j < nm (-1) 0 → N j = nm j := fun j u w => by rw [hN]; unfold nAdd; rw [un_n (by omega), un_n (by omega)]
  have ak : N (nm (-1) 0) = bNew (nm (nm (-1) 0)) v (n (nm (-1) 0) 1) (n (nm (-1) 0) 2) (n (nm (-1) 0) 3) (n (nm (-1) 0) 4) e := by
    rw [hN]; unfold nAdd; rw [un_s]
  have z0 : ∀ w, 0 ≤ w → w < 268 → nm (nm (-1) 0) w = 0 := fun w a b => hD.2.2.2 _ w (Int.le_refl _) h1.2.1 a b
  refine ⟨by rw [e0 _ (by omega), a0]; exact h1.1, fun w a b c => by rw [e0 _ (by omega)]; exact h2 w a b c, fun j w a b c d => ?_, fun j a b => by rw [a0] at a; rw [e0 _ (by omega)]; exact h4 j (by omega) b, fun j a b => ?_⟩
  · rw [a0] at b
    by_cases q : j = nm (-1) 0
    · rw [q, ek, ak]
      unfold bNew
      have hc : w = 0 ∨ w = 1 ∨ w = 2 ∨ w = 3 ∨ w = 4 ∨ w = 5 ∨ w = 14 ∨ (6 ≤ w ∧ ¬ w = 14) := by omega
      rcases hc with r | r | r | r | r | r | r | r
      · subst r; rw [ub_n (by decide), h7]; rfl
      · subst r; rfl
      · subst r; rfl
      · subst r; rfl
      · subst r; rfl
      · subst r; rfl
      · subst r; rw [ub_n (by decide), h8 14 (by decide) (by decide)]; rfl
      · rw [ub_n (by omega), h8 w (by omega) d, if_neg r.2, ub_n (by omega), ub_n (by omega), ub_n (by omega), ub_n (by omega), ub_n (by omega), ub_n (by omega), ub_n (by omega), z0 w c (by omega)]
    · rw [e0 _ q, aj j a (by omega)]
      exact h3 j w a (by omega) c d
  · rw [a0] at b
    by_cases q : j = nm (-1) 0
    · rw [q, ak]
      exact ⟨h6, z0 6 (by decide) (by decide), z0 7 (by decide) (by decide), z0 8 (by decide) (by decide)⟩
    · rw [aj j a (by omega)]; exact h5 j a (by omega)
theorem BLD_end0 {n nm : Net} {v : Int} (hD : DOk nm) (h : BLD n nm v) : RelS n (nAdd nm v (n (nm (-1) 0) 1) (n (nm (-1) 0) 2) (n (nm (-1) 0) 3) (n (nm (-1) 0) 4) 0) := by
  have h1 := BLD_end (e := 0) hD h
  have e : seL n 5 0 = n := by
    unfold seL
    rw [BLD_lst h]
    have h9 := h.2.2.2.2.2.2.2.2
    funext j
    unfold un
    split
    · next q =>
      subst q
      funext w
      unfold ub
      split
      · next q => rw [q, h9]
      · rfl
    · rfl
  rw [e] at h1
  exact h1
theorem BLD_new {n nm : Net} {v : Int} (h : RelS n nm) (h6 : nm (-1) 0 < 6) (h0 : 0 ≤ nm (-1) 0) (hv : isNm v) : BLD (nwN n v) nm v := by
  obtain ⟨h1, h2, h3, h4, h5⟩ := h
  obtain ⟨J, hJ⟩ := h4 (nm (-1) 0) (Int.le_refl _) h6
  have eh : ∀ w, nwN n v (-1) w = ub (n (-1)) 0 (n (-1) 0 + 1) w := fun w => by unfold nwN; rw [un_n (by omega), un_s]
  have ej : ∀ j, 0 ≤ j → ¬ j = nm (-1) 0 → nwN n v j = n j := fun j a b => by unfold nwN; rw [un_n (by omega), un_n (by omega)]
  have ek : nwN n v (nm (-1) 0) = ub (n (nm (-1) 0)) 0 v := by unfold nwN; rw [h1, un_s]
  refine ⟨⟨by rw [eh, ub_s, h1], h6, h0⟩, fun w a b c => by rw [eh, ub_n (by omega)]; exact h2 w a b c, fun j w a b c d => by rw [ej j a (by omega)]; exact h3 j w a b c d, fun j a b => by rw [ej j (by omega) (by omega)]; exact h4 j (by omega) b, h5, hv, by rw [ek, ub_s], fun w a b => ?_, ?_⟩
  · rw [ek, ub_n (by omega), hJ]
    unfold bOver
    rw [if_neg (by omega)]
  · rw [ek, ub_n (by omega), hJ]; rfl
theorem RelS_lend {n nm : Net} {l o t : Int} (h : RelS n nm) (hl : 0 ≤ l ∧ l < nm (-1) 0) : RelS (un n l (bLend (n l) o t)) (un nm l (bLend (nm l) o t)) := by
  obtain ⟨h1, h2, h3, h4, h5⟩ := h
  have e1 : un nm l (bLend (nm l) o t) (-1) = nm (-1) := un_n (by omega)
  have e2 : un n l (bLend (n l) o t) (-1) = n (-1) := un_n (by omega)
  refine ⟨by rw [e1, e2]; exact h1, fun w a b c => by rw [e2]; exact h2 w a b c, fun j w a b c d => ?_, fun j a b => by rw [e1] at a; rw [un_n (by omega)]; exact h4 j a b, fun j a b => ?_⟩
  · rw [e1] at b
    by_cases q : j = l
    · rw [q, un_s, un_s]
      have hh := h3 l w hl.1 hl.2 c d
      unfold bLend ub
      rw [hh]
    · rw [un_n q, un_n q]; exact h3 j w a b c d
  · rw [e1] at b
    by_cases q : j = l
    · rw [q, un_s]
      exact h5 l hl.1 hl.2
    · rw [un_n q]; exact h5 j a b
