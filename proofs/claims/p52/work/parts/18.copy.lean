def shN (P : Nat → Net) : Nat → Net := fun s => if s < 5 then P (s + 1) else P s
def bNew (B : Blk) (a0 a1 a2 a3 a4 a5 : Int) : Blk := ub (ub (ub (ub (ub (ub (ub B 0 a0) 1 a1) 2 a2) 3 a3) 4 a4) 5 a5) 14 (-1)
def nAdd (n : Net) (a0 a1 a2 a3 a4 a5 : Int) : Net := un (un n (-1) (ub (n (-1)) 0 (n (-1) 0 + 1))) (n (-1) 0) (bNew (n (n (-1) 0)) a0 a1 a2 a3 a4 a5)
/-- the first place from k on, among f, of which p holds -/
def srch (p : Nat → Bool) : Nat → Nat → Int
  | 0, _ => -1
  | f + 1, k => if p k = true then k else srch p f (k + 1)
/-- ticks and bytes typed before each of them -/
def nDrop (l : Int) : Nat → Net → Net
  | 0, n => n
  | k + 1, n => nTick (un (nDrop l k n) l (bType (nDrop l k n l) 127 (nDrop l k n (-1) 1)))
def aLent (n : Net) (g l o : Int) : Int := if g = -1 then nTicks 100 (un n l (bLend (n l) o 99)) (-1) 4 - n (-1) 4 else nTicks 100 (un n l (bLend (n l) o 99)) g 17 - n g 17
def aFull (n : Net) : Nat → Int
  | 0 => 0
  | k + 1 => if n (aFull n k) 6 + n (aFull n k) 7 < n ((k : Int) + 1) 6 + n ((k : Int) + 1) 7 then (k : Int) + 1 else aFull n k
def aBusy (n : Net) : Nat → Int
  | 0 => 0
  | k + 1 => if n (aBusy n k) 17 < n ((k : Int) + 1) 17 then (k : Int) + 1 else aBusy n k
def aRun (n : Net) : Nat → Int × Int
  | 0 => (0, 0)
  | k + 1 =>
    let r := if 0 < k ∧ n (-2) (5 * (k : Int) + 1) = n (-2) (5 * ((k : Int) - 1) + 1) then (aRun n k).2 + 1 else 1
    (max (aRun n k).1 r, r)
