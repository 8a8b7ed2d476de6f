/-! A trunk of the class: its own cell, the row of its lines, the lines, the log. -/
abbrev tkS (al lg : Nat) : List (Option Value) := [some (.ref al), some (.ref lg), none, none, none, none, none, none, none]
def tkI (n : Net) (k : Nat) : Int := if k = 2 then n (-1) 0 else if k = 3 then n (-1) 1 else if k = 4 then n (-1) 2 else if k = 5 then n (-1) 3 else if k = 6 then n (-1) 6 else if k = 7 then n (-1) 4 else if k = 8 then n (-1) 5 else 0
theorem tkI_2 (n : Net) : tkI n 2 = n (-1) 0 := rfl
theorem tkI_3 (n : Net) : tkI n 3 = n (-1) 1 := rfl
theorem tkI_4 (n : Net) : tkI n 4 = n (-1) 2 := rfl
theorem tkI_5 (n : Net) : tkI n 5 = n (-1) 3 := rfl
theorem tkI_6 (n : Net) : tkI n 6 = n (-1) 6 := rfl
theorem tkI_7 (n : Net) : tkI n 7 = n (-1) 4 := rfl
theorem tkI_8 (n : Net) : tkI n 8 = n (-1) 5 := rfl
def LOG (G : Gm) (lg : Nat) (n : Net) : SA := fun d => ∃ (la : Nat) (x : Int) (f : Nat → Int), ((0 ≤ x ∧ x < 40) ∧ LogR f x n) ∧ WL [ob lg 3 [some (.ref la), none, none] (lgI (n (-1) 7) x), ar G 0 la 200 200 f] d
/-- a log of which nothing is told -/
def LOGG (G : Gm) (lg : Nat) : SA := fun d => ∃ (la : Nat) (z x : Int) (f : Nat → Int), WL [ob lg 3 [some (.ref la), none, none] (lgI z x), ar G 0 la 200 200 f] d
theorem LOG_eq {G : Gm} {lg : Nat} {n n' : Net} (h7 : n' (-1) 7 = n (-1) 7) (h2 : n' (-2) = n (-2)) : LOG G lg n' = LOG G lg n := by
  unfold LOG LogR
  rw [h7, h2]
theorem LF_eq {G : Gm} {M : Pool} {L : Int → Nat} {n n' : Net} (h0 : n' (-1) 0 = n (-1) 0) (hl : ∀ l, 0 ≤ l → l < 6 → n' l = n l) : LF G M L n' = LF G M L n := by
  have e : ∀ j : Nat, j < 6 → lfQ G M L n' j = lfQ G M L n j := fun j hj => by
    unfold lfQ
    rw [h0, hl j (by omega) (by omega)]
  unfold LF fam6
  rw [e 0 (by decide), e 1 (by decide), e 2 (by decide), e 3 (by decide), e 4 (by decide), e 5 (by decide)]
theorem tkOb {t al lg : Nat} {J : Nat → Int} {n : Net} (h2 : J 2 = n (-1) 0) (h3 : J 3 = n (-1) 1) (h4 : J 4 = n (-1) 2) (h5 : J 5 = n (-1) 3) (h6 : J 6 = n (-1) 6) (h7 : J 7 = n (-1) 4) (h8 : J 8 = n (-1) 5) (d : Sto) (hd : ob t 8 (tkS al lg) J d) : ob t 8 (tkS al lg) (tkI n) d := by
  refine ob_congr (fun i hi => ?_) hd
  match i, hi with
  | 2, _ => exact h2
  | 3, _ => exact h3
  | 4, _ => exact h4
  | 5, _ => exact h5
  | 6, _ => exact h6
  | 7, _ => exact h7
  | 8, _ => exact h8
  | (k + 9), h => exact absurd h (by simp)
theorem TKcv {G : Gm} {M : Pool} {L : Int → Nat} {t al lg : Nat} {J : Nat → Int} {n n1 n2 : Net} {R : List SA} {cf c : Sto} (h2 : J 2 = n (-1) 0) (h3 : J 3 = n (-1) 1) (h4 : J 4 = n (-1) 2) (h5 : J 5 = n (-1) 3) (h6 : J 6 = n (-1) 6) (h7 : J 7 = n (-1) 4) (h8 : J 8 = n (-1) 5) (h0 : n (-1) 0 = n1 (-1) 0) (hl : ∀ l, 0 ≤ l → l < 6 → n l = n1 l) (g7 : n (-1) 7 = n2 (-1) 7) (g2 : n (-2) = n2 (-2))
    (h : WF (ob t 8 (tkS al lg) J :: arR G 5 al 6 (fun j => some (L (j : Int))) :: LF G M L n1 :: LOG G lg n2 :: R) cf c) : WF (ob t 8 (tkS al lg) (tkI n) :: arR G 5 al 6 (fun j => some (L (j : Int))) :: LF G M L n :: LOG G lg n :: R) cf c := by
  rw [← LF_eq (n := n1) (n' := n) h0 hl, ← LOG_eq (lg := lg) g7 g2] at h
  exact PW.wf (PW_cons (tkOb h2 h3 h4 h5 h6 h7 h8) PW_rf) h
theorem nNext_if {n : Net} (h1 : 1 ≤ n (-1) 0) (h2 : 0 ≤ n (-1) 2 ∧ n (-1) 2 < n (-1) 0) : nNext n = if n (-1) 2 + 1 < n (-1) 0 then n (-1) 2 + 1 else 0 := by
  unfold nNext
  split
  · exact Int.emod_eq_of_lt (by omega) (by omega)
  · rw [show n (-1) 2 + 1 = n (-1) 0 by omega, Int.emod_self]
theorem lnTo_r {b lines time l : Int} {B : Blk} (h : LineOk b lines time l B) : (lnTo B = -1 ↔ ¬ 0 < B 12) ∧ (0 < B 12 → lnTo B = B 13) := by
  unfold LineOk at h
  unfold lnTo
  constructor
  · split <;> omega
  · intro q
    rw [if_pos q]
theorem nPass_l {n : Net} {l : Int} (hl : 0 ≤ l) : nPass n l = nPass0 n l := by unfold nPass; rw [un_n (by omega)]
theorem nPass0_2 {n : Net} (h : 0 ≤ n (-1) 2) : nPass0 n (-2) = n (-2) := by
  unfold nPass0
  split
  · rw [un_n (by omega)]
  · rfl
theorem nPass_2 {n : Net} (h : 0 ≤ n (-1) 2) : nPass n (-2) = n (-2) := by
  unfold nPass
  rw [un_n (by decide), nPass0_2 h]
theorem nPass0_4 {n : Net} {l w : Int} (hl : 0 ≤ l) (hw : ¬ w = 12) : nPass0 n l w = n l w := by
  have := nPass_c (n := n) (j := l) (w := w) (by omega) hw
  rw [nPass_l hl] at this
  exact this
section Rules
variable {G : Gm} {X : Cx} {l : Launch} {own nm : String} {cc : ByteArray} {nL : Nat} {ret : Option FieldType} {d mc ms : Nat} {k n : Nat} {pc pc' len : Nat} {lv : List (Option Value)} {st : List Value}
/-- closes a line -/
theorem x_cL {M : Pool} {L : Int → Nat} {m : Net} {i : Int} {A : Nat → Nat} {B : Blk} {p0 p1 p2 p3 p4 p5 p6 p7 p8 p9 : SA} {R : List SA} (hi : 0 ≤ i ∧ i < m (-1) 0 ∧ m (-1) 0 ≤ 6) (hN : NQ G M (L (i + 6)) A (B 0)) (hcv : ∀ cf c, WF [p0, p1, p2, p3, p4, p5, p6, p7, p8, p9] cf c → WF (lnA G (L i) A B) cf c) (K : WX G X k n (LF G M L (un m i B) :: R) pc lv st) : WX G X k n (p0 :: p1 :: p2 :: p3 :: p4 :: p5 :: p6 :: p7 :: p8 :: p9 :: hole (lfQ G M L m) i.toNat :: R) pc lv st :=
  x_ws _ (fun cf c h => LF_close (A := A) hi hN (WF_in (P := [p0, p1, p2, p3, p4, p5, p6, p7, p8, p9]) h hcv)) K
end Rules
