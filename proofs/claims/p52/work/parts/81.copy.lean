/-! Copies of trunks: the first k lines are told. -/
def lkQ (G : Gm) (M : Pool) (L : Int → Nat) (n : Net) (k : Int) (j : Nat) : SA := if (j : Int) < k then LN G M (L j) (L ((j : Int) + 6)) (n j) else LG G (L j) (L ((j : Int) + 6))
def LFk (G : Gm) (M : Pool) (L : Int → Nat) (n : Net) (k : Int) : SA := fam6 (lkQ G M L n k)
/-- six lines of which nothing is told -/
def LFG (G : Gm) (L : Int → Nat) : SA := fam6 (fun j => LG G (L (j : Int)) (L ((j : Int) + 6)))
theorem LFk_n (G : Gm) (M : Pool) (L : Int → Nat) (n : Net) : LFk G M L n (n (-1) 0) = LF G M L n := rfl
theorem fam6_eq {Q Q' : Nat → SA} (h : ∀ j, j < 6 → Q' j = Q j) : fam6 Q' = fam6 Q := by
  unfold fam6
  rw [h 0 (by decide), h 1 (by decide), h 2 (by decide), h 3 (by decide), h 4 (by decide), h 5 (by decide)]
theorem LFk_0 (G : Gm) (M : Pool) (L : Int → Nat) (n : Net) : LFk G M L n 0 = LFG G L := fam6_eq (fun j _ => if_neg (by omega))
theorem WL_imp {L L' : List SA} {d : Sto} (h : WL L d) (hl : L'.length = L.length) (hi : ∀ (i : Nat) (P P' : SA), L[i]? = some P → L'[i]? = some P' → ∀ d, P d → P' d) : WL L' d := WF_conv h hl hi
theorem fam6_imp {Q Q' : Nat → SA} (h : ∀ j, j < 6 → ∀ d, Q j d → Q' j d) {d : Sto} (hd : fam6 Q d) : fam6 Q' d := by
  refine WL_imp hd rfl (fun i P P' hP hP' => ?_)
  match i, hP, hP' with
  | 0, rfl, rfl => exact h 0 (by decide)
  | 1, rfl, rfl => exact h 1 (by decide)
  | 2, rfl, rfl => exact h 2 (by decide)
  | 3, rfl, rfl => exact h 3 (by decide)
  | 4, rfl, rfl => exact h 4 (by decide)
  | 5, rfl, rfl => exact h 5 (by decide)
theorem LFG_of {G : Gm} {M : Pool} {L : Int → Nat} {n : Net} {d : Sto} (h : LF G M L n d) : LFG G L d := fam6_imp (fun j _ d hd => by
  unfold lfQ at hd
  split at hd
  · exact LG_of_LN hd
  · exact hd) h
theorem LF_mono {G : Gm} {M M' : Pool} {L : Int → Nat} {n : Net} (hM : ∀ x ∈ M, x ∈ M') {d : Sto} (h : LF G M L n d) : LF G M' L n d := fam6_imp (fun j _ d hd => by
  unfold lfQ at hd ⊢
  split
  · next c => rw [if_pos c] at hd; exact hd.mono hM
  · next c => rw [if_neg c] at hd; exact hd) h
theorem LOGG_of {G : Gm} {lg : Nat} {n : Net} {d : Sto} (h : LOG G lg n d) : LOGG G lg d := by
  obtain ⟨la, x, f, -, h⟩ := h
  exact ⟨la, _, x, f, h⟩
section Rules
variable {G : Gm} {X : Cx} {l : Launch} {own nm : String} {cc : ByteArray} {nL : Nat} {ret : Option FieldType} {d mc ms : Nat} {k n : Nat} {ws : List SA} {pc pc' len : Nat} {lv : List (Option Value)} {st : List Value}
/-- opens the first line that isn't told -/
theorem x_oK {M : Pool} {L : Int → Nat} {m : Net} {i : Int} {R : List SA} (hi : 0 ≤ i ∧ i < 6) (hw : ∀ cf c, WF ws cf c → WF (LFk G M L m i :: R) cf c) (K : ∀ (A : Nat → Nat) (w : Int) (J z : Nat → Int) (f : Nat → Nat → Int), A 1 = L (i + 6) → WX G X k n (lnR G (L i) A w J z f ++ hole (lkQ G M L m i) i.toNat :: R) pc lv st) : WX G X k n ws pc lv st := by
  intro H locs ls c h1 h2 h3 h4
  have h5 := fam6_take i.toNat (by omega) (hw _ _ h1)
  have e : lkQ G M L m i i.toNat = LG G (L i) (L (i + 6)) := by
    unfold lkQ
    rw [show ((i.toNat : Nat) : Int) = i by omega, if_neg (by omega)]
  rw [e] at h5
  obtain ⟨y, hy, h6⟩ := WF_openX (X := (Nat → Nat) × Int × (Nat → Int) × (Nat → Int) × (Nat → Nat → Int)) (Y := fun y => y.1 1 = L (i + 6)) (L := fun y => lnR G (L i) y.1 y.2.1 y.2.2.1 y.2.2.2.1 y.2.2.2.2) h5 (fun d hd => by
    obtain ⟨A, w, J, z, f, g0, g⟩ := hd
    exact ⟨(A, w, J, z, f), g0, g⟩)
  exact K y.1 y.2.1 y.2.2.1 y.2.2.2.1 y.2.2.2.2 hy H locs ls c h6 h2 h3 h4
/-- one line more is told -/
theorem x_cK {M : Pool} {L : Int → Nat} {m : Net} {i : Int} {A : Nat → Nat} {p0 p1 p2 p3 p4 p5 p6 p7 p8 p9 : SA} {R : List SA} (hi : 0 ≤ i ∧ i < 6) (hN : NQ G M (L (i + 6)) A (m i 0)) (hcv : ∀ cf c, WF [p0, p1, p2, p3, p4, p5, p6, p7, p8, p9] cf c → WF (lnA G (L i) A (m i)) cf c) (K : WX G X k n (LFk G M L m (i + 1) :: R) pc lv st) : WX G X k n (p0 :: p1 :: p2 :: p3 :: p4 :: p5 :: p6 :: p7 :: p8 :: p9 :: hole (lkQ G M L m i) i.toNat :: R) pc lv st := by
  refine x_ws _ (fun cf c h => ?_) K
  have h1 : WF (LN G M (L i) (L (i + 6)) (m i) :: hole (lkQ G M L m i) i.toNat :: R) cf c := WF_close (L := lnA G (L i) A (m i)) (WF_in (P := [p0, p1, p2, p3, p4, p5, p6, p7, p8, p9]) h hcv) (fun d hd => ⟨A, hN, hd⟩)
  refine fam6_put i.toNat (by omega) (fun j hj hji => ?_) ?_ h1
  · unfold lkQ
    by_cases c : (j : Int) < i
    · rw [if_pos c, if_pos (by omega)]
    · rw [if_neg c, if_neg (by omega)]
  · unfold lkQ
    rw [show ((i.toNat : Nat) : Int) = i by omega, if_pos (by omega)]
/-- opens a log of which nothing is told -/
theorem x_oGG {lg : Nat} {R : List SA} (hw : ∀ cf c, WF ws cf c → WF (LOGG G lg :: R) cf c) (K : ∀ (la : Nat) (z x : Int) (f : Nat → Int), WX G X k n (ob lg 3 [some (.ref la), none, none] (lgI z x) :: ar G 0 la 200 200 f :: R) pc lv st) : WX G X k n ws pc lv st := by
  intro H locs ls c h1 h2 h3 h4
  obtain ⟨y, -, h5⟩ := WF_openX (X := Nat × Int × Int × (Nat → Int)) (Y := fun _ => True) (L := fun y => [ob lg 3 [some (.ref y.1), none, none] (lgI y.2.1 y.2.2.1), ar G 0 y.1 200 200 y.2.2.2]) (hw _ _ h1) (fun d hd => by
    obtain ⟨la, z, x, f, g⟩ := hd
    exact ⟨(la, z, x, f), trivial, g⟩)
  exact K y.1 y.2.1 y.2.2.1 y.2.2.2 H locs ls c h5 h2 h3 h4
end Rules
/-- a trunk, as the class's object holds it: L are its lines -/
def TO (G : Gm) (M : Pool) (t : Nat) (L : Int → Nat) (n : Net) : SA := fun d => ∃ al lg : Nat, WL [ob t 8 (tkS al lg) (tkI n), arR G 5 al 6 (fun j => some (L (j : Int))), LF G M L n, LOG G lg n] d
/-- a trunk of which nothing is told -/
def TG (G : Gm) (t : Nat) (L : Int → Nat) : SA := fun d => ∃ (al lg : Nat) (J : Nat → Int), WL [ob t 8 (tkS al lg) J, arR G 5 al 6 (fun j => some (L (j : Int))), LFG G L, LOGG G lg] d
theorem TG_of {G : Gm} {M : Pool} {t : Nat} {L : Int → Nat} {n : Net} {d : Sto} (h : TO G M t L n d) : TG G t L d := by
  obtain ⟨al, lg, h⟩ := h
  refine ⟨al, lg, tkI n, WL_imp h rfl (fun i P P' hP hP' => ?_)⟩
  match i, hP, hP' with
  | 0, rfl, rfl => exact fun _ h => h
  | 1, rfl, rfl => exact fun _ h => h
  | 2, rfl, rfl => exact fun _ h => LFG_of h
  | 3, rfl, rfl => exact fun _ h => LOGG_of h
theorem TO_mono {G : Gm} {M M' : Pool} {t : Nat} {L : Int → Nat} {n : Net} (hM : ∀ x ∈ M, x ∈ M') {d : Sto} (h : TO G M t L n d) : TO G M' t L n d := by
  obtain ⟨al, lg, h⟩ := h
  refine ⟨al, lg, WL_imp h rfl (fun i P P' hP hP' => ?_)⟩
  match i, hP, hP' with
  | 0, rfl, rfl => exact fun _ h => h
  | 1, rfl, rfl => exact fun _ h => h
  | 2, rfl, rfl => exact fun _ h => LF_mono hM h
  | 3, rfl, rfl => exact fun _ h => h
