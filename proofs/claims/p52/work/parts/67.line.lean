/-! A line of the class: ten cells. -/
abbrev lnS (nm qi qa qo qw cn : Nat) (w : Int) : List (Option Value) := [some (.ref nm), none, none, none, none, none, some (.ref qi), some (.ref qa), some (.ref qo), some (.ref qw), none, none, none, none, none, none, some (.ref cn), some (.long (zL w))]
/-- to which line a line lends, as the class tells it -/
def lnTo (B : Blk) : Int := if 0 < B 12 then B 13 else -1
def lnI (B : Blk) (k : Nat) : Int := if k = 10 then B 9 else if k = 11 then lnTo B else if k = 12 then B 12 else if k = 13 then B 10 else if k = 14 then B 11 else if k = 15 then B 14 else B k
theorem lnI_1 (B : Blk) : lnI B 1 = B 1 := rfl
theorem lnI_2 (B : Blk) : lnI B 2 = B 2 := rfl
theorem lnI_3 (B : Blk) : lnI B 3 = B 3 := rfl
theorem lnI_4 (B : Blk) : lnI B 4 = B 4 := rfl
theorem lnI_5 (B : Blk) : lnI B 5 = B 5 := rfl
theorem lnI_10 (B : Blk) : lnI B 10 = B 9 := rfl
theorem lnI_11 (B : Blk) : lnI B 11 = lnTo B := rfl
theorem lnI_12 (B : Blk) : lnI B 12 = B 12 := rfl
theorem lnI_13 (B : Blk) : lnI B 13 = B 10 := rfl
theorem lnI_14 (B : Blk) : lnI B 14 = B 11 := rfl
theorem lnI_15 (B : Blk) : lnI B 15 = B 14 := rfl
theorem QoCv {q b : Nat} {z z' : Int} (h : z = z') (d : Sto) (hd : ob q 5 [some (.ref b), none] (fun _ => z) d) : ob q 5 [some (.ref b), none] (fun _ => z') d := by subst h; exact hd
theorem QaCv {G : Gm} {b : Nat} {z z' : Int} {f f' : Nat → Int} (h : z = z') (hf : ∀ j : Nat, (j : Int) < z → f j = f' j) (d : Sto) (hd : ar G 0 b 60 z.toNat f d) : ar G 0 b 60 z'.toNat f' d := by subst h; exact ar_congr (Nat.le_refl _) (fun j hj => hf j (by omega)) hd
theorem lnOb {a nm qi qa qo qw cn : Nat} {w w' : Int} {J J' : Nat → Int} (hw : w = w') (h1 : J 1 = J' 1) (h2 : J 2 = J' 2) (h3 : J 3 = J' 3) (h4 : J 4 = J' 4) (h5 : J 5 = J' 5) (h10 : J 10 = J' 10) (h11 : J 11 = J' 11) (h12 : J 12 = J' 12) (h13 : J 13 = J' 13) (h14 : J 14 = J' 14) (h15 : J 15 = J' 15) (d : Sto) (hd : ob a 2 (lnS nm qi qa qo qw cn w) J d) : ob a 2 (lnS nm qi qa qo qw cn w') J' d := by
  subst hw
  refine ob_congr (fun i hi => ?_) hd
  match i with
  | 0 => exact absurd hi (by simp)
  | 1 => exact h1
  | 2 => exact h2
  | 3 => exact h3
  | 4 => exact h4
  | 5 => exact h5
  | 6 => exact absurd hi (by simp)
  | 7 => exact absurd hi (by simp)
  | 8 => exact absurd hi (by simp)
  | 9 => exact absurd hi (by simp)
  | 10 => exact h10
  | 11 => exact h11
  | 12 => exact h12
  | 13 => exact h13
  | 14 => exact h14
  | 15 => exact h15
  | 16 => exact absurd hi (by simp)
  | 17 => exact absurd hi (by simp)
  | (k + 18) => exact absurd hi (by simp)
theorem LRcv {G : Gm} {a nm qi bi qa ba qo bo qw bw cn : Nat} {w w' zi zi' za za' zo zo' zw zw' : Int} {J J' fi fi' fa fa' fo fo' fw fw' cf cf' : Nat → Int} (hw : w = w') (h1 : J 1 = J' 1) (h2 : J 2 = J' 2) (h3 : J 3 = J' 3) (h4 : J 4 = J' 4) (h5 : J 5 = J' 5) (h10 : J 10 = J' 10) (h11 : J 11 = J' 11) (h12 : J 12 = J' 12) (h13 : J 13 = J' 13) (h14 : J 14 = J' 14) (h15 : J 15 = J' 15) (ei : zi = zi') (gi : ∀ j : Nat, (j : Int) < zi → fi j = fi' j) (ea : za = za') (ga : ∀ j : Nat, (j : Int) < za → fa j = fa' j) (eo : zo = zo') (go : ∀ j : Nat, (j : Int) < zo → fo j = fo' j) (ew : zw = zw') (gw : ∀ j : Nat, (j : Int) < zw → fw j = fw' j) (gc : ∀ j : Nat, j < 12 → cf j = cf' j) {cf0 c : Sto} (h : WF [ob a 2 (lnS nm qi qa qo qw cn w) J, ob qi 5 [some (.ref bi), none] (fun _ => zi), ar G 0 bi 60 (zi).toNat fi, ob qa 5 [some (.ref ba), none] (fun _ => za), ar G 0 ba 60 (za).toNat fa, ob qo 5 [some (.ref bo), none] (fun _ => zo), ar G 0 bo 60 (zo).toNat fo, ob qw 5 [some (.ref bw), none] (fun _ => zw), ar G 0 bw 60 (zw).toNat fw, ar G 0 cn 12 12 cf] cf0 c) : WF [ob a 2 (lnS nm qi qa qo qw cn w') J', ob qi 5 [some (.ref bi), none] (fun _ => zi'), ar G 0 bi 60 (zi').toNat fi', ob qa 5 [some (.ref ba), none] (fun _ => za'), ar G 0 ba 60 (za').toNat fa', ob qo 5 [some (.ref bo), none] (fun _ => zo'), ar G 0 bo 60 (zo').toNat fo', ob qw 5 [some (.ref bw), none] (fun _ => zw'), ar G 0 bw 60 (zw').toNat fw', ar G 0 cn 12 12 cf'] cf0 c :=
  PW.wf (PW_cons (lnOb hw h1 h2 h3 h4 h5 h10 h11 h12 h13 h14 h15) (PW_cons (QoCv ei) (PW_cons (QaCv ei gi) (PW_cons (QoCv ea) (PW_cons (QaCv ea ga) (PW_cons (QoCv eo) (PW_cons (QaCv eo go) (PW_cons (QoCv ew) (PW_cons (QaCv ew gw) (PW_cons (fun _ h => ar_congr (Nat.le_refl _) (fun j hj => gc j hj) h) PW_nil)))))))))) h
theorem bStop_ubk {B : Blk} {k v : Int} (h : ¬ k = 2 ∧ ¬ k = 3 ∧ ¬ k = 6 ∧ ¬ k = 10 ∧ ¬ k = 24) : bStop (ub B k v) = ub (bStop B) k v := by
  unfold bStop
  rw [ub_n (B := B) (w := k) (j := 3) (by omega), ub_n (B := B) (w := k) (j := 6) (by omega), ub_n (B := B) (w := k) (j := 10) (by omega), ub_n (B := B) (w := k) (j := 2) (by omega)]
  split
  · unfold inc
    rw [ub_comm (i := k) (j := 10) (by omega), ub_comm (i := k) (j := 24) (by omega), ub_n (B := ub B 10 1) (w := k) (j := 24) (by omega)]
  · split
    · rw [ub_comm (i := k) (j := 10) (by omega)]
    · rfl
/-- what sendFirst does, ahead of tellStopping -/
def bSnd (B : Blk) (e wait : Int) : Blk := ub (ub (ub (inc (bSend0 B) 17) 26 (bSend0 B 26 + e)) 27 (max (bSend0 B 27) wait)) 15 (bSend0 B 15 + wait)
theorem bSnd_stop (B : Blk) (e w : Int) : bStop (bSnd B e w) = bSend B e w := by
  unfold bSnd bSend inc
  dsimp only
  rw [bStop_ubk (by decide), bStop_ubk (by decide), bStop_ubk (by decide), bStop_ubk (by decide)]
  simp (disch := omega) only [ub_n, ub_s, bStop_n]
theorem zL_add (a b : Int) : zL a + zL b = zL (a + b) := (Int64.ofInt_add a b).symm
/-- a line of the class as startOver leaves it -/
def bOver (J : Nat → Int) : Blk := fun w => if 1 ≤ w ∧ w ≤ 4 then J w.toNat else if w = 14 then -1 else 0
def bIni : Blk := ub (ub (ub (ub (ub (fun _ => 0) 1 10) 2 2) 3 8) 4 1) 14 (-1)
