/-! What the class's parser does with one token. -/
abbrev paS (tk tr qb ql : Nat) : List (Option Value) := [some (.ref tk), some (.ref tr), some (.ref qb), some (.ref ql), none, none, none, none, none]
def knC (J : Nat → Int) (kd : Int) : Int := if J 1 = kd then 0 else 1
def tnC (J : Nat → Int) (lo hi : Int) : Int := if J 1 = 1 then (if J 4 < lo ∨ hi < J 4 then 2 else 0) else 1
def knm (J P : Nat → Int) : Int := if J 1 = 4 then (if P 5 = -1 then 4 else 0) else 1
def lst (n : Net) : Int := n (-1) 0 - 1
def seL (n : Net) (w v : Int) : Net := un n (lst n) (ub (n (lst n)) w v)
def nwN (n : Net) (v : Int) : Net := un (un n (-1) (ub (n (-1)) 0 (n (-1) 0 + 1))) (n (-1) 0) (ub (n (n (-1) 0)) 0 v)
def tsC (J : Nat → Int) (n : Net) : Int := if J 1 = 6 then (if n (-1) 0 < 6 then 0 else 5) else if J 1 = 14 then 0 else knC J 17
def tsA (J : Nat → Int) : Int := if J 1 = 6 then 3 else if J 1 = 14 then 13 else 18
def nnC (J P : Nat → Int) : Int := if J 1 = 4 then (if P 5 = -1 then 0 else 3) else 1
def ecC (J : Nat → Int) : Int := if J 1 = 11 ∨ J 1 = 12 ∨ J 1 = 13 then 0 else 1
def leC (J P : Nat → Int) (n : Net) : Int := if knm J P = 0 then (if lnTo (n (P 5)) = -1 then 0 else 3) else knm J P
def boC (J P : Nat → Int) : Int := if knm J P = 0 then (if P 5 = P 6 then 3 else 0) else knm J P
def tbC (J : Nat → Int) (z : Int) : Int := if tnC J 1 127 = 0 then (if z < 60 then 0 else 5) else tnC J 1 127
def stC (a : Int) (J P : Nat → Int) (n : Net) (z : Int) : Int := if a = 0 then knC J 6 else if a = 1 then tsC J n else if a = 2 then knC J 2 else if a = 3 then nnC J P else if a = 4 then knC J 7 else if a = 5 then tnC J 4 60 else if a = 6 then knC J 8 else if a = 7 then tnC J 0 (n (lst n) 1 - 1) else if a = 8 then tnC J (n (lst n) 2 + 1) (n (lst n) 1) else if a = 9 then knC J 9 else if a = 10 then tnC J 1 9 else if a = 11 then (if J 1 = 10 then 0 else knC J 2) else if a = 12 then ecC J else if a = 13 then leC J P n else if a = 14 then knC J 15 else if a = 15 then boC J P else if a = 16 then knC J 16 else if a = 17 then tnC J 1 99 else if a = 18 then knm J P else if a = 19 then tbC J z else (if J 1 = 1 then tbC J z else knC J 2)
def stP (a : Int) (J P : Nat → Int) : Nat → Int := if a = 0 then up P 4 3 else if a = 1 then up P 4 (tsA J) else if a = 2 then up P 4 1 else if a = 3 then up P 4 4 else if a = 4 then up P 4 5 else if a = 5 then up P 4 6 else if a = 6 then up P 4 7 else if a = 7 then up P 4 8 else if a = 8 then up P 4 9 else if a = 9 then up P 4 10 else if a = 10 then up P 4 11 else if a = 11 then up P 4 (if J 1 = 10 then 12 else 1) else if a = 12 then up P 4 2 else if a = 13 then up (up P 6 (P 5)) 4 14 else if a = 14 then up P 4 15 else if a = 15 then up (up P 7 (P 5)) 4 16 else if a = 16 then up P 4 17 else if a = 17 then up P 4 2 else if a = 18 then up (up P 8 (P 5)) 4 19 else if a = 19 then up P 4 20 else up P 4 (if J 1 = 1 then 20 else 1)
def stN (a v : Int) (J P : Nat → Int) (n : Net) : Net := if a = 3 then (if nnC J P = 0 then nwN n v else n) else if a = 5 then seL n 1 (J 4) else if a = 7 then seL n 2 (J 4) else if a = 8 then seL n 3 (J 4) else if a = 10 then seL n 4 (J 4) else if a = 12 then (if ecC J = 0 then seL n 5 (J 1 - 11) else n) else if a = 17 then un n (P 6) (bLend (n (P 6)) (P 7) (J 4)) else n
def stB (a : Int) (J : Nat → Int) (z : Int) : Bool := decide ((a = 19 ∨ a = 20 ∧ J 1 = 1) ∧ tbC J z = 0)
def adZ (b : Bool) (z : Int) : Int := if b = true then z + 1 else z
def adF (b : Bool) (z : Int) (f : Nat → Int) (v : Int) : Nat → Int := if b = true then up f z.toNat v else f
theorem tkI_un {n : Net} {i : Int} {B : Blk} (h : ¬ i = -1) : tkI (un n i B) = tkI n := by
  funext k
  unfold tkI
  rw [un_n (by omega)]
theorem LOG_un {G : Gm} {lg : Nat} {n : Net} {i : Int} {B : Blk} (h : 0 ≤ i) : LOG G lg (un n i B) = LOG G lg n := LOG_eq (by rw [un_n (by omega)]) (by rw [un_n (by omega)])
theorem WF_cTCu {G : Gm} {M : Pool} {t al lg : Nat} {L : Int → Nat} {m : Net} {i : Int} {B : Blk} {R : List SA} {cf c0 : Sto} (c : Int) (hi : 0 ≤ i) (h : WF (ob t 8 (tkS al lg) (tkI m) :: arR G 5 al 6 (fun j => some (L (j : Int))) :: LFz G M L (un m i B) :: LOG G lg m :: R) cf c0) : WF (TC G M t L (un m i B) c :: R) cf c0 := by
  refine WF_cTC (al := al) (lg := lg) c ?_
  rw [tkI_un (by omega), LOG_un hi]
  exact h
theorem hole_imp {Q Q' : Nat → SA} (h : ∀ j, j < 6 → ∀ d, Q j d → Q' j d) (i : Nat) (hi : i < 6) {d : Sto} (hd : hole Q i d) : hole Q' i d := by
  have hc : i = 0 ∨ i = 1 ∨ i = 2 ∨ i = 3 ∨ i = 4 ∨ i = 5 := by omega
  rcases hc with rfl | rfl | rfl | rfl | rfl | rfl
  · exact PW.wf (PW_cons (h 1 (by decide)) (PW_cons (h 2 (by decide)) (PW_cons (h 3 (by decide)) (PW_cons (h 4 (by decide)) (PW_cons (h 5 (by decide)) PW_nil))))) hd
  · exact PW.wf (PW_cons (h 0 (by decide)) (PW_cons (h 2 (by decide)) (PW_cons (h 3 (by decide)) (PW_cons (h 4 (by decide)) (PW_cons (h 5 (by decide)) PW_nil))))) hd
  · exact PW.wf (PW_cons (h 0 (by decide)) (PW_cons (h 1 (by decide)) (PW_cons (h 3 (by decide)) (PW_cons (h 4 (by decide)) (PW_cons (h 5 (by decide)) PW_nil))))) hd
  · exact PW.wf (PW_cons (h 0 (by decide)) (PW_cons (h 1 (by decide)) (PW_cons (h 2 (by decide)) (PW_cons (h 4 (by decide)) (PW_cons (h 5 (by decide)) PW_nil))))) hd
  · exact PW.wf (PW_cons (h 0 (by decide)) (PW_cons (h 1 (by decide)) (PW_cons (h 2 (by decide)) (PW_cons (h 3 (by decide)) (PW_cons (h 5 (by decide)) PW_nil))))) hd
  · exact PW.wf (PW_cons (h 0 (by decide)) (PW_cons (h 1 (by decide)) (PW_cons (h 2 (by decide)) (PW_cons (h 3 (by decide)) (PW_cons (h 4 (by decide)) PW_nil))))) hd
/-- a line is left as it comes: nothing is told of the trunk any more -/
theorem WF_lostTG {G : Gm} {M : Pool} {t al lg : Nat} {J : Nat → Int} {L : Int → Nat} {m : Net} {i : Int} {A : Nat → Nat} {w : Int} {Jl z : Nat → Int} {f : Nat → Nat → Int} {R : List SA} {cf c : Sto} (hi : 0 ≤ i ∧ i < 6) (hA : A 1 = L (i + 6)) (h : WF (lnR G (L i) A w Jl z f ++ hole (lzQ G M L m) i.toNat :: ob t 8 (tkS al lg) J :: arR G 5 al 6 (fun j => some (L (j : Int))) :: LOG G lg m :: R) cf c) : WF (TG G t L :: R) cf c := by
  have h1 : WF (LG G (L i) (L (i + 6)) :: hole (lzQ G M L m) i.toNat :: ob t 8 (tkS al lg) J :: arR G 5 al 6 (fun j => some (L (j : Int))) :: LOG G lg m :: R) cf c := WF_close h (fun d hd => ⟨A, w, Jl, z, f, hA, hd⟩)
  have h2 : WF (LG G (L i) (L (i + 6)) :: hole (fun j => LG G (L (j : Int)) (L ((j : Int) + 6))) i.toNat :: ob t 8 (tkS al lg) J :: arR G 5 al 6 (fun j => some (L (j : Int))) :: LOG G lg m :: R) cf c := PW.wf (PW_cons (fun _ h => h) (PW_cons (fun d hd => hole_imp (fun j _ d hd => by
    unfold lzQ at hd
    split at hd
    · exact LG_of_LN hd
    · exact LG_of_LZ hd) i.toNat (by omega) hd) PW_rf)) h1
  have h3 := fam6_put (Q' := fun j => LG G (L (j : Int)) (L ((j : Int) + 6))) i.toNat (by omega) (fun _ _ _ => rfl) (by rw [show ((i.toNat : Nat) : Int) = i by omega]) h2
  refine WF_close (L := [ob t 8 (tkS al lg) J, arR G 5 al 6 (fun j => some (L (j : Int))), LFG G L, LOGG G lg]) (R := R) ?_ (fun d hd => ⟨al, lg, J, hd⟩)
  have h4 : WF (LFG G L :: ob t 8 (tkS al lg) J :: arR G 5 al 6 (fun j => some (L (j : Int))) :: LOGG G lg :: R) cf c := PW.wf (PW_cons (fun _ h => h) (PW_cons (fun _ h => h) (PW_cons (fun _ h => h) (PW_cons (fun _ h => LOGG_of h) PW_rf)))) h3
  exact WF_in (P := [LFG G L, ob t 8 (tkS al lg) J, arR G 5 al 6 (fun j => some (L (j : Int))), LOGG G lg]) (P' := [ob t 8 (tkS al lg) J, arR G 5 al 6 (fun j => some (L (j : Int))), LFG G L, LOGG G lg]) h4 (fun cf c h => WF_pick [1, 2, 0, 3] rfl rfl h)
theorem TC_TG {G : Gm} {M : Pool} {t : Nat} {L : Int → Nat} {n : Net} {c : Int} (h : ¬ c = 0) (d : Sto) (hd : TG G t L d) : TC G M t L n c d := by
  unfold TC
  rw [if_neg h]
  exact hd
