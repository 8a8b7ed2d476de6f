/-! Trunks kept for later: rows of them. -/
def pQ (G : Gm) (M : Pool) (P : Nat → Option Nat) (Lp : Nat → Int → Nat) (c : Int) (N : Nat → Net) (j : Nat) : SA := match P j with
  | none => WL []
  | some t => if (j : Int) < c then TO G M t (Lp j) (N j) else TG G t (Lp j)
theorem pQ_none {G : Gm} {M : Pool} {P : Nat → Option Nat} {Lp : Nat → Int → Nat} {c : Int} {N : Nat → Net} {j : Nat} (h : P j = none) : pQ G M P Lp c N j = WL [] := by unfold pQ; rw [h]
theorem pQ_told {G : Gm} {M : Pool} {P : Nat → Option Nat} {Lp : Nat → Int → Nat} {c : Int} {N : Nat → Net} {j t : Nat} (h : P j = some t) (hc : (j : Int) < c) : pQ G M P Lp c N j = TO G M t (Lp j) (N j) := by
  unfold pQ; rw [h]; exact if_pos hc
theorem pQ_not {G : Gm} {M : Pool} {P : Nat → Option Nat} {Lp : Nat → Int → Nat} {c : Int} {N : Nat → Net} {j t : Nat} (h : P j = some t) (hc : ¬ (j : Int) < c) : pQ G M P Lp c N j = TG G t (Lp j) := by
  unfold pQ; rw [h]; exact if_neg hc
theorem pQ_eq {G : Gm} {M : Pool} {P P' : Nat → Option Nat} {Lp Lp' : Nat → Int → Nat} {c c' : Int} {N N' : Nat → Net} {j j' : Nat} (hP : P' j' = P j) (hL : Lp' j' = Lp j) (hc : (j' : Int) < c' ↔ (j : Int) < c) (hN : (j : Int) < c → N' j' = N j) : pQ G M P' Lp' c' N' j' = pQ G M P Lp c N j := by
  cases h : P j with
  | none => rw [pQ_none h, pQ_none (hP.trans h)]
  | some t =>
    by_cases q : (j : Int) < c
    · rw [pQ_told h q, pQ_told (hP.trans h) (hc.mpr q), hL, hN q]
    · rw [pQ_not h q, pQ_not (hP.trans h) (fun z => q (hc.mp z)), hL]
def PS (G : Gm) (M : Pool) (pa : Nat) (c : Int) (N : Nat → Net) : SA := fun d => ∃ (P : Nat → Option Nat) (Lp : Nat → Int → Nat), (∀ j : Nat, (j : Int) < c → j < 6 → P j ≠ none) ∧ WL [arR G 6 pa 6 P, fam6 (pQ G M P Lp c N)] d
theorem fam6_sub {Q : Nat → SA} {d : Sto} (h : fam6 Q d) (i : Nat) (hi : i < 6) : ∃ d' : Sto, Q i d' ∧ ∀ a e, d' a = some e → d a = some e := by
  obtain ⟨f, f1, f2, f3, -⟩ := h
  refine ⟨f i, ?_, fun a e he => (f3 i a e hi he).1⟩
  have hc : i = 0 ∨ i = 1 ∨ i = 2 ∨ i = 3 ∨ i = 4 ∨ i = 5 := by omega
  rcases hc with rfl | rfl | rfl | rfl | rfl | rfl
  · exact f1 0 _ rfl
  · exact f1 1 _ rfl
  · exact f1 2 _ rfl
  · exact f1 3 _ rfl
  · exact f1 4 _ rfl
  · exact f1 5 _ rfl
theorem TG_obj {G : Gm} {t : Nat} {L : Int → Nat} {d : Sto} (h : TG G t L d) : ∃ fs, d t = some (.inr (8, fs)) := by
  obtain ⟨al, lg, J, f, f1, f2, f3, -⟩ := h
  exact ⟨_, (f3 0 _ _ (by simp) (f1 0 _ rfl)).1⟩
theorem pQ_obj {G : Gm} {M : Pool} {P : Nat → Option Nat} {Lp : Nat → Int → Nat} {c : Int} {N : Nat → Net} {i t : Nat} (hi : i < 6) (hP : P i = some t) (d : Sto) (h : fam6 (pQ G M P Lp c N) d) : ∃ fs, d t = some (.inr (8, fs)) := by
  obtain ⟨d', h1, h2⟩ := fam6_sub h i hi
  have h3 : TG G t (Lp i) d' := by
    by_cases q : (i : Int) < c
    · rw [pQ_told hP q] at h1; exact TG_of h1
    · rw [pQ_not hP q] at h1; exact h1
  obtain ⟨fs, h4⟩ := TG_obj h3
  exact ⟨fs, h2 _ _ h4⟩
theorem PS_al {G : Gm} {M : Pool} {pa : Nat} {c : Int} {N : Nat → Net} (d : Sto) (h : PS G M pa c N d) : ∃ x : vp_A, d pa = some (.inl (G.2.2 6, x)) ∧ x.1 = 6 := by
  obtain ⟨P, Lp, -, f, f1, f2, f3, -⟩ := h
  obtain ⟨x, h1, h2⟩ := arR_al _ (f1 0 _ rfl)
  exact ⟨x, (f3 0 _ _ (by simp) h1).1, h2⟩
theorem WF_cPS {G : Gm} {M : Pool} {pa : Nat} {P P' : Nat → Option Nat} {Lp Lp' : Nat → Int → Nat} {c c' : Int} {N N' : Nat → Net} {R : List SA} {cf c0 : Sto} (i : Nat) (hi : i < 6) (hQ : ∀ j, j < 6 → j ≠ i → pQ G M P' Lp' c' N' j = pQ G M P Lp c N j) (hne : ∀ j : Nat, (j : Int) < c' → j < 6 → P' j ≠ none) (h : WF (arR G 6 pa 6 P' :: pQ G M P' Lp' c' N' i :: hole (pQ G M P Lp c N) i :: R) cf c0) : WF (PS G M pa c' N' :: R) cf c0 := by
  refine WF_in (P := [arR G 6 pa 6 P', pQ G M P' Lp' c' N' i, hole (pQ G M P Lp c N) i]) (P' := [PS G M pa c' N']) h (fun cf c h => ?_)
  have h1 := fam6_put (Q' := pQ G M P' Lp' c' N') (R := [arR G 6 pa 6 P']) i hi hQ rfl (WF_pick [1, 2, 0] rfl rfl h)
  exact WF_close (L := [arR G 6 pa 6 P', fam6 (pQ G M P' Lp' c' N')]) (R := []) (WF_pick [1, 0] rfl rfl h1) (fun d hd => ⟨P', Lp', hne, hd⟩)
theorem PS_shift {G : Gm} {M : Pool} {pa : Nat} {P P' : Nat → Option Nat} {Lp : Nat → Int → Nat} {N : Nat → Net} {R : List SA} {cf c0 : Sto} (hP : ∀ j : Nat, j < 6 → P j ≠ none) (h5 : ∀ j : Nat, j < 5 → P' j = P (j + 1)) (h0 : P' 5 = P 0) (h : WF (arR G 6 pa 6 P' :: fam6 (pQ G M P Lp 6 N) :: R) cf c0) : WF (PS G M pa 5 (shN N) :: R) cf c0 := by
  have hsub : ∀ d, fam6 (pQ G M P Lp 6 N) d → fam6 (pQ G M P' (fun j => if j < 5 then Lp (j + 1) else Lp 0) 5 (shN N)) d := by
    intro d hd
    have h1 : WF [pQ G M P Lp 6 N 1, pQ G M P Lp 6 N 2, pQ G M P Lp 6 N 3, pQ G M P Lp 6 N 4, pQ G M P Lp 6 N 5, pQ G M P Lp 6 N 0] s_no d := WF_pick [1, 2, 3, 4, 5, 0] rfl rfl hd
    have e : ∀ j : Nat, j < 5 → ∀ d, pQ G M P Lp 6 N (j + 1) d → pQ G M P' (fun j => if j < 5 then Lp (j + 1) else Lp 0) 5 (shN N) j d := by
      intro j hj d hd
      rw [pQ_eq (G := G) (M := M) (P := P) (Lp := Lp) (c := 6) (N := N) (j := j + 1) (h5 j hj) (if_pos hj) (by omega) (fun _ => if_pos hj)]
      exact hd
    refine PW.wf (PW_cons (e 0 (by decide)) (PW_cons (e 1 (by decide)) (PW_cons (e 2 (by decide)) (PW_cons (e 3 (by decide)) (PW_cons (e 4 (by decide)) (PW_cons (fun d hd => ?_) PW_nil)))))) h1
    cases hc : P 0 with
    | none => exact absurd hc (hP 0 (by decide))
    | some t =>
      rw [pQ_told hc (by decide)] at hd
      rw [pQ_not (h0.trans hc) (by decide)]
      exact TG_of hd
  exact WF_close (L := [arR G 6 pa 6 P', fam6 (pQ G M P' (fun j => if j < 5 then Lp (j + 1) else Lp 0) 5 (shN N))]) (R := R) (PW.wf (PW_cons (fun _ h => h) (PW_cons hsub PW_rf)) h) (fun d hd => ⟨P', _, fun j hj hj6 => by
    by_cases q : j < 5
    · rw [h5 j q]; exact hP _ (by omega)
    · obtain rfl : j = 5 := by omega
      rw [h0]; exact hP 0 (by decide), hd⟩)
section Rules
variable {G : Gm} {X : Cx} {k n : Nat} {ws : List SA} {pc : Nat} {lv : List (Option Value)} {st : List Value}
theorem x_oPS {M : Pool} {pa : Nat} {c : Int} {N : Nat → Net} {R : List SA} (hw : ∀ cf c0, WF ws cf c0 → WF (PS G M pa c N :: R) cf c0) (K : ∀ (P : Nat → Option Nat) (Lp : Nat → Int → Nat), (∀ j : Nat, (j : Int) < c → j < 6 → P j ≠ none) → WX G X k n (arR G 6 pa 6 P :: fam6 (pQ G M P Lp c N) :: R) pc lv st) : WX G X k n ws pc lv st := by
  intro H locs ls c0 h1 h2 h3 h4
  obtain ⟨y, hy, h5⟩ := WF_openX (X := (Nat → Option Nat) × (Nat → Int → Nat)) (Y := fun y => ∀ j : Nat, (j : Int) < c → j < 6 → y.1 j ≠ none) (L := fun y => [arR G 6 pa 6 y.1, fam6 (pQ G M y.1 y.2 c N)]) (hw _ _ h1) (fun d hd => by
    obtain ⟨P, Lp, g0, g⟩ := hd
    exact ⟨(P, Lp), g0, g⟩)
  exact K y.1 y.2 hy H locs ls c0 h5 h2 h3 h4
theorem x_oR {Q : Nat → SA} {P' : SA} {R : List SA} (i : Nat) (hi : i < 6) (hw : ∀ cf c0, WF ws cf c0 → WF (fam6 Q :: R) cf c0) (e : Q i = P') (K : WX G X k n (P' :: hole Q i :: R) pc lv st) : WX G X k n ws pc lv st :=
  x_ws _ (fun cf c h => by have h1 := fam6_take i hi (hw cf c h); rw [e] at h1; exact h1) K
end Rules
