/-! The six lines while a text is parsed: those beyond the count are as they start. -/
def LZ (G : Gm) (a q : Nat) (B : Blk) : SA := fun d => ∃ A : Nat → Nat, A 1 = q ∧ WL (lnA G a A B) d
theorem LG_of_LZ {G : Gm} {a q : Nat} {B : Blk} {d : Sto} (h : LZ G a q B d) : LG G a q d := by
  obtain ⟨A, hN, h⟩ := h
  rw [lnA_R] at h
  exact ⟨A, _, _, _, _, hN, h⟩
def lzQ (G : Gm) (M : Pool) (L : Int → Nat) (n : Net) (j : Nat) : SA := if (j : Int) < n (-1) 0 then LN G M (L j) (L ((j : Int) + 6)) (n j) else LZ G (L j) (L ((j : Int) + 6)) (n j)
def LFz (G : Gm) (M : Pool) (L : Int → Nat) (n : Net) : SA := fam6 (lzQ G M L n)
theorem LFz_LF {G : Gm} {M : Pool} {L : Int → Nat} {n : Net} {d : Sto} (h : LFz G M L n d) : LF G M L n d := fam6_imp (fun j _ d hd => by
  unfold lzQ at hd
  unfold lfQ
  split
  · next c => rw [if_pos c] at hd; exact hd
  · next c => rw [if_neg c] at hd; exact LG_of_LZ hd) h
theorem LFz_G {G : Gm} {M : Pool} {L : Int → Nat} {n : Net} {d : Sto} (h : LFz G M L n d) : LFG G L d := LFG_of (LFz_LF h)
theorem LFz_mono {G : Gm} {M M' : Pool} {L : Int → Nat} {n : Net} (hM : ∀ x ∈ M, x ∈ M') {d : Sto} (h : LFz G M L n d) : LFz G M' L n d := fam6_imp (fun j _ d hd => by
  unfold lzQ at hd ⊢
  split
  · next c => rw [if_pos c] at hd; exact hd.mono hM
  · next c => rw [if_neg c] at hd; exact hd) h
theorem LFz_open {G : Gm} {M : Pool} {L : Int → Nat} {n : Net} {R : List SA} {cf c : Sto} {i : Int} (hi : 0 ≤ i ∧ i < n (-1) 0 ∧ n (-1) 0 ≤ 6) (h : WF (LFz G M L n :: R) cf c) : ∃ A : Nat → Nat, NQ G M (L (i + 6)) A (n i 0) ∧ WF (lnA G (L i) A (n i) ++ hole (lzQ G M L n) i.toNat :: R) cf c := by
  have h1 := fam6_take i.toNat (by omega) h
  have e : lzQ G M L n i.toNat = LN G M (L i) (L (i + 6)) (n i) := by
    unfold lzQ
    rw [show ((i.toNat : Nat) : Int) = i by omega, if_pos hi.2.1]
  rw [e] at h1
  obtain ⟨A, h2, h3⟩ := WF_openX (Y := fun A => NQ G M (L (i + 6)) A (n i 0)) (L := fun A => lnA G (L i) A (n i)) h1 (fun d hd => hd)
  exact ⟨A, h2, h3⟩
theorem LFz_close {G : Gm} {M : Pool} {L : Int → Nat} {n : Net} {R : List SA} {cf c : Sto} {i : Int} {A : Nat → Nat} {B : Blk} (hi : 0 ≤ i ∧ i < n (-1) 0 ∧ n (-1) 0 ≤ 6) (hN : NQ G M (L (i + 6)) A (B 0)) (h : WF (lnA G (L i) A B ++ hole (lzQ G M L n) i.toNat :: R) cf c) : WF (LFz G M L (un n i B) :: R) cf c := by
  have h1 : WF (LN G M (L i) (L (i + 6)) B :: hole (lzQ G M L n) i.toNat :: R) cf c := WF_close h (fun d hd => ⟨A, hN, hd⟩)
  have eh : un n i B (-1) = n (-1) := un_n (by omega)
  refine fam6_put i.toNat (by omega) (fun j hj hji => ?_) ?_ h1
  · unfold lzQ
    rw [eh, un_n (by omega)]
  · unfold lzQ
    rw [eh, show ((i.toNat : Nat) : Int) = i by omega, if_pos hi.2.1, un_s]
theorem LFz_open0 {G : Gm} {M : Pool} {L : Int → Nat} {n : Net} {R : List SA} {cf c : Sto} {i : Int} (hi : 0 ≤ i ∧ i = n (-1) 0 ∧ n (-1) 0 < 6) (h : WF (LFz G M L n :: R) cf c) : ∃ A : Nat → Nat, A 1 = L (i + 6) ∧ WF (lnA G (L i) A (n i) ++ hole (lzQ G M L n) i.toNat :: R) cf c := by
  have h1 := fam6_take i.toNat (by omega) h
  have e : lzQ G M L n i.toNat = LZ G (L i) (L (i + 6)) (n i) := by
    unfold lzQ
    rw [show ((i.toNat : Nat) : Int) = i by omega, if_neg (by omega)]
  rw [e] at h1
  obtain ⟨A, h2, h3⟩ := WF_openX (Y := fun A => A 1 = L (i + 6)) (L := fun A => lnA G (L i) A (n i)) h1 (fun d hd => hd)
  exact ⟨A, h2, h3⟩
/-- a line more -/
theorem LFz_close0 {G : Gm} {M : Pool} {L : Int → Nat} {n : Net} {R : List SA} {cf c : Sto} {i : Int} {A : Nat → Nat} {B : Blk} (hi : 0 ≤ i ∧ i = n (-1) 0 ∧ n (-1) 0 < 6) (hN : NQ G M (L (i + 6)) A (B 0)) (h : WF (lnA G (L i) A B ++ hole (lzQ G M L n) i.toNat :: R) cf c) : WF (LFz G M L (un (un n (-1) (ub (n (-1)) 0 (i + 1))) i B) :: R) cf c := by
  have h1 : WF (LN G M (L i) (L (i + 6)) B :: hole (lzQ G M L n) i.toNat :: R) cf c := WF_close h (fun d hd => ⟨A, hN, hd⟩)
  have eh : un (un n (-1) (ub (n (-1)) 0 (i + 1))) i B (-1) 0 = i + 1 := by rw [un_n (by omega), un_s, ub_s]
  refine fam6_put i.toNat (by omega) (fun j hj hji => ?_) ?_ h1
  · unfold lzQ
    rw [eh, un_n (by omega), un_n (by omega)]
    by_cases c : (j : Int) < i
    · rw [if_pos (by omega), if_pos (by omega)]
    · rw [if_neg (by omega), if_neg (by omega)]
  · unfold lzQ
    rw [eh, show ((i.toNat : Nat) : Int) = i by omega, if_pos (by omega), un_s]
/-- what a part of the lines is started over -/
def lsQ (G : Gm) (L : Int → Nat) (n : Net) (k : Int) (j : Nat) : SA := if (j : Int) < k then LZ G (L j) (L ((j : Int) + 6)) (n j) else LG G (L j) (L ((j : Int) + 6))
def LFs (G : Gm) (L : Int → Nat) (n : Net) (k : Int) : SA := fam6 (lsQ G L n k)
theorem LFs_0 (G : Gm) (L : Int → Nat) (n : Net) : LFs G L n 0 = LFG G L := fam6_eq (fun j _ => if_neg (by omega))
theorem LFs_6 {G : Gm} {M : Pool} {L : Int → Nat} {n : Net} (h : n (-1) 0 = 0) : LFs G L n 6 = LFz G M L n := (fam6_eq (fun j hj => by
  unfold lzQ lsQ
  rw [h, if_neg (by omega), if_pos (by omega)])).symm
section Rules
variable {G : Gm} {X : Cx} {k n : Nat} {ws : List SA} {pc : Nat} {lv : List (Option Value)} {st : List Value}
theorem x_oZ {M : Pool} {L : Int → Nat} {m : Net} {i : Int} {R : List SA} (hi : 0 ≤ i ∧ i < m (-1) 0 ∧ m (-1) 0 ≤ 6) (hw : ∀ cf c, WF ws cf c → WF (LFz G M L m :: R) cf c) (K : ∀ A : Nat → Nat, NQ G M (L (i + 6)) A (m i 0) → WX G X k n (lnA G (L i) A (m i) ++ hole (lzQ G M L m) i.toNat :: R) pc lv st) : WX G X k n ws pc lv st := by
  intro H locs ls c h1 h2 h3 h4
  obtain ⟨A, hN, h5⟩ := LFz_open hi (hw _ _ h1)
  exact K A hN H locs ls c h5 h2 h3 h4
theorem x_cZ {M : Pool} {L : Int → Nat} {m : Net} {i : Int} {A : Nat → Nat} {B : Blk} {p0 p1 p2 p3 p4 p5 p6 p7 p8 p9 : SA} {R : List SA} (hi : 0 ≤ i ∧ i < m (-1) 0 ∧ m (-1) 0 ≤ 6) (hN : NQ G M (L (i + 6)) A (B 0)) (hcv : ∀ cf c, WF [p0, p1, p2, p3, p4, p5, p6, p7, p8, p9] cf c → WF (lnA G (L i) A B) cf c) (K : WX G X k n (LFz G M L (un m i B) :: R) pc lv st) : WX G X k n (p0 :: p1 :: p2 :: p3 :: p4 :: p5 :: p6 :: p7 :: p8 :: p9 :: hole (lzQ G M L m) i.toNat :: R) pc lv st :=
  x_ws _ (fun cf c h => LFz_close (A := A) hi hN (WF_in (P := [p0, p1, p2, p3, p4, p5, p6, p7, p8, p9]) h hcv)) K
theorem x_oZ0 {M : Pool} {L : Int → Nat} {m : Net} {i : Int} {R : List SA} (hi : 0 ≤ i ∧ i = m (-1) 0 ∧ m (-1) 0 < 6) (hw : ∀ cf c, WF ws cf c → WF (LFz G M L m :: R) cf c) (K : ∀ A : Nat → Nat, A 1 = L (i + 6) → WX G X k n (lnA G (L i) A (m i) ++ hole (lzQ G M L m) i.toNat :: R) pc lv st) : WX G X k n ws pc lv st := by
  intro H locs ls c h1 h2 h3 h4
  obtain ⟨A, hN, h5⟩ := LFz_open0 hi (hw _ _ h1)
  exact K A hN H locs ls c h5 h2 h3 h4
theorem x_oS {L : Int → Nat} {m : Net} {i : Int} {R : List SA} (hi : 0 ≤ i ∧ i < 6) (hw : ∀ cf c, WF ws cf c → WF (LFs G L m i :: R) cf c) (K : ∀ (A : Nat → Nat) (w : Int) (J z : Nat → Int) (f : Nat → Nat → Int), A 1 = L (i + 6) → WX G X k n (lnR G (L i) A w J z f ++ hole (lsQ G L m i) i.toNat :: R) pc lv st) : WX G X k n ws pc lv st := by
  intro H locs ls c h1 h2 h3 h4
  have h5 := fam6_take i.toNat (by omega) (hw _ _ h1)
  have e : lsQ G L m i i.toNat = LG G (L i) (L (i + 6)) := by
    unfold lsQ
    rw [show ((i.toNat : Nat) : Int) = i by omega, if_neg (by omega)]
  rw [e] at h5
  obtain ⟨y, hy, h6⟩ := WF_openX (X := (Nat → Nat) × Int × (Nat → Int) × (Nat → Int) × (Nat → Nat → Int)) (Y := fun y => y.1 1 = L (i + 6)) (L := fun y => lnR G (L i) y.1 y.2.1 y.2.2.1 y.2.2.2.1 y.2.2.2.2) h5 (fun d hd => by
    obtain ⟨A, w, J, z, f, g0, g⟩ := hd
    exact ⟨(A, w, J, z, f), g0, g⟩)
  exact K y.1 y.2.1 y.2.2.1 y.2.2.2.1 y.2.2.2.2 hy H locs ls c h6 h2 h3 h4
theorem x_cS {L : Int → Nat} {m : Net} {i : Int} {A : Nat → Nat} {B : Blk} {p0 p1 p2 p3 p4 p5 p6 p7 p8 p9 : SA} {R : List SA} (hi : 0 ≤ i ∧ i < 6) (hA : A 1 = L (i + 6)) (hcv : ∀ cf c, WF [p0, p1, p2, p3, p4, p5, p6, p7, p8, p9] cf c → WF (lnA G (L i) A B) cf c) (K : WX G X k n (LFs G L (un m i B) (i + 1) :: R) pc lv st) : WX G X k n (p0 :: p1 :: p2 :: p3 :: p4 :: p5 :: p6 :: p7 :: p8 :: p9 :: hole (lsQ G L m i) i.toNat :: R) pc lv st := by
  refine x_ws _ (fun cf c h => ?_) K
  have h1 : WF (LZ G (L i) (L (i + 6)) B :: hole (lsQ G L m i) i.toNat :: R) cf c := WF_close (L := lnA G (L i) A B) (WF_in (P := [p0, p1, p2, p3, p4, p5, p6, p7, p8, p9]) h hcv) (fun d hd => ⟨A, hA, hd⟩)
  refine fam6_put i.toNat (by omega) (fun j hj hji => ?_) ?_ h1
  · unfold lsQ
    rw [un_n (by omega)]
    by_cases c : (j : Int) < i
    · rw [if_pos c, if_pos (by omega)]
    · rw [if_neg c, if_neg (by omega)]
  · unfold lsQ
    rw [show ((i.toNat : Nat) : Int) = i by omega, if_pos (by omega), un_s]
end Rules
/-- a trunk as a text starts it over -/
def CL0 (n : Net) : Prop := (∀ w, ¬ w = 3 → n (-1) w = 0) ∧ ∀ j, 0 ≤ j → j < 6 → ∃ J, n j = bOver J
/-- a trunk while a text is parsed; one of which nothing is told, if the text has an error -/
def TOz (G : Gm) (M : Pool) (t : Nat) (L : Int → Nat) (n : Net) : SA := fun d => ∃ al lg : Nat, WL [ob t 8 (tkS al lg) (tkI n), arR G 5 al 6 (fun j => some (L (j : Int))), LFz G M L n, LOG G lg n] d
theorem TG_of_z {G : Gm} {M : Pool} {t : Nat} {L : Int → Nat} {n : Net} {d : Sto} (h : TOz G M t L n d) : TG G t L d := by
  obtain ⟨al, lg, h⟩ := h
  refine ⟨al, lg, tkI n, WL_imp h rfl (fun i P P' hP hP' => ?_)⟩
  match i, hP, hP' with
  | 0, rfl, rfl => exact fun _ h => h
  | 1, rfl, rfl => exact fun _ h => h
  | 2, rfl, rfl => exact fun _ h => LFz_G h
  | 3, rfl, rfl => exact fun _ h => LOGG_of h
def TC (G : Gm) (M : Pool) (t : Nat) (L : Int → Nat) (n : Net) (c : Int) : SA := fun d => if c = 0 then TOz G M t L n d else TG G t L d
theorem WF_cTC {G : Gm} {M : Pool} {t al lg : Nat} {L : Int → Nat} {m : Net} {R : List SA} {cf c0 : Sto} (c : Int) (h : WF (ob t 8 (tkS al lg) (tkI m) :: arR G 5 al 6 (fun j => some (L (j : Int))) :: LFz G M L m :: LOG G lg m :: R) cf c0) : WF (TC G M t L m c :: R) cf c0 :=
  WF_close (L := [ob t 8 (tkS al lg) (tkI m), arR G 5 al 6 (fun j => some (L (j : Int))), LFz G M L m, LOG G lg m]) (R := R) h (fun d hd => by
    unfold TC
    split
    · exact ⟨al, lg, hd⟩
    · exact TG_of_z ⟨al, lg, hd⟩)
theorem LOG_0 {G : Gm} {lg la : Nat} {n : Net} {f : Nat → Int} {R : List SA} {cf c : Sto} (h7 : n (-1) 7 = 0) (h : WF (ob lg 3 [some (.ref la), none, none] (lgI 0 0) :: ar G 0 la 200 200 f :: R) cf c) : WF (LOG G lg n :: R) cf c := by
  refine WF_close (L := [ob lg 3 [some (.ref la), none, none] (lgI 0 0), ar G 0 la 200 200 f]) h (fun d hd => ⟨la, 0, f, ⟨⟨by decide, by decide⟩, fun k w h0 h1 _ _ => by rw [h7] at h1; omega⟩, ?_⟩)
  rw [h7]
  exact hd
