/-- the first k places of a row laid from g -/
def cpy (g : Nat → Int) (a : Net) : Nat → Net
  | 0 => a
  | k + 1 => encU (cpy g a k) k (g k)
theorem enc_cpy (g : Nat → Int) (a : Net) : ∀ k, k ≤ 1816 → ∀ j, j < 1816 → enc (cpy g a k) j = if j < k then g j else enc a j := by
  intro k
  induction k with
  | zero => intro _ j _; rw [if_neg (by omega)]; rfl
  | succ k ih =>
    intro hk j hj
    unfold cpy
    rw [enc_encU _ _ (by omega) j hj]
    unfold up
    by_cases e : j = k
    · subst e; rw [if_pos rfl, if_pos (by omega)]
    · rw [if_neg e, ih (by omega) j hj]
      by_cases c : j < k
      · rw [if_pos c, if_pos (by omega)]
      · rw [if_neg c, if_neg (by omega)]
theorem uN_41 (N : Nat → Net) (a n z : Net) : uN (uN (uN N 4 a) 1 n) 4 z = uN (uN N 4 z) 1 n := by
  funext r; unfold uN
  by_cases h : r = 1
  · subst h; rw [if_neg (by decide), if_pos rfl, if_pos rfl]
  · rw [if_neg h]
    by_cases h4 : r = 4
    · rw [if_pos h4, if_neg h, if_pos h4]
    · rw [if_neg h4, if_neg h4, if_neg h, if_neg h4]
theorem uN_14 (N : Nat → Net) (a n z : Net) : uN (uN (uN N 4 a) 1 n) 1 z = uN (uN N 4 a) 1 z := uN_uN _ _ _ _
theorem uN_4 (N : Nat → Net) (a n : Net) : (uN (uN N 4 a) 1 n) 4 = a := rfl
theorem uN_1 (N : Nat → Net) (n : Net) : (uN N 1 n) 1 = n := rfl
/-- rows of nets behind each other in one array -/
def encM (K : Nat → Net) : Nat → Int := fun j => enc (K (j / 1816)) (j % 1816)
/-- a stretch of k places from base on, laid from g -/
def cpF (f g : Nat → Int) (base k : Nat) : Nat → Int := fun j => if base ≤ j ∧ j < base + k then g (j - base) else f j
theorem cpF_0 (f g : Nat → Int) (base : Nat) : cpF f g base 0 = f := by
  funext j; exact if_neg (by omega)
theorem cpF_s (f g : Nat → Int) (base k : Nat) : up (cpF f g base k) (base + k) (g k) = cpF f g base (k + 1) := by
  funext j
  unfold up cpF
  by_cases e : j = base + k
  · rw [if_pos e, if_pos (by omega), show j - base = k by omega]
  · rw [if_neg e]
    by_cases c : base ≤ j ∧ j < base + k
    · rw [if_pos c, if_pos (by omega)]
    · rw [if_neg c, if_neg (by omega)]
theorem cpF_M (K : Nat → Net) (n : Net) (s : Nat) : cpF (encM K) (enc n) (1816 * s) 1816 = encM (uN K s n) := by
  funext j
  unfold cpF encM uN
  by_cases c : 1816 * s ≤ j ∧ j < 1816 * s + 1816
  · rw [if_pos c, if_pos (show j / 1816 = s by omega), show j - 1816 * s = j % 1816 by omega]
  · rw [if_neg c, if_neg (show ¬ j / 1816 = s by omega)]
/-- all behind drawn one row ahead, as far as k -/
def shF (f : Nat → Int) (k : Nat) : Nat → Int := fun j => if j + 1816 < k then f (j + 1816) else f j
theorem shF_0 (f : Nat → Int) : shF f 1816 = f := by
  funext j; exact if_neg (by omega)
theorem shF_s (f : Nat → Int) {k : Nat} (h : 1816 ≤ k) : up (shF f k) (k - 1816) (shF f k k) = shF f (k + 1) := by
  funext j
  unfold up shF
  by_cases e : j = k - 1816
  · rw [if_pos e, if_neg (by omega), if_pos (by omega), show j + 1816 = k by omega]
  · rw [if_neg e]
    by_cases c : j + 1816 < k
    · rw [if_pos c, if_pos (by omega)]
    · rw [if_neg c, if_neg (by omega)]
def shN (P : Nat → Net) : Nat → Net := fun s => if s < 5 then P (s + 1) else P s
theorem shF_M (P : Nat → Net) : shF (encM P) 10896 = encM (shN P) := by
  funext j
  unfold shF encM shN
  by_cases c : j + 1816 < 10896
  · rw [if_pos c, if_pos (show j / 1816 < 5 by omega), show (j + 1816) / 1816 = j / 1816 + 1 by omega, show (j + 1816) % 1816 = j % 1816 by omega]
  · rw [if_neg c, if_neg (by omega)]
/-- no byte waits on the first k lines -/
def nQuietB (n : Net) : Nat → Bool
  | 0 => true
  | k + 1 => nQuietB n k && decide (n k 6 = 0) && decide (n k 7 = 0)
abbrev nQuiet (n : Net) (k : Nat) : Prop := nQuietB n k = true
theorem nQuiet_s {n : Net} {k : Nat} : nQuiet n (k + 1) ↔ nQuiet n k ∧ n k 6 = 0 ∧ n k 7 = 0 := by
  unfold nQuiet
  rw [nQuietB, Bool.and_eq_true, Bool.and_eq_true, decide_eq_true_iff, decide_eq_true_iff, and_assoc]
theorem nQuiet_f1 {n : Net} {k : Nat} (h : ¬ nQuiet n k) : ¬ nQuiet n (k + 1) := fun z => h (nQuiet_s.mp z).1
theorem nQuiet_f2 {n : Net} {k : Nat} (h : ¬ n k 6 = 0) : ¬ nQuiet n (k + 1) := fun z => h (nQuiet_s.mp z).2.1
theorem nQuiet_f3 {n : Net} {k : Nat} (h : ¬ n k 7 = 0) : ¬ nQuiet n (k + 1) := fun z => h (nQuiet_s.mp z).2.2
def bNew (B : Blk) (a0 a1 a2 a3 a4 a5 : Int) : Blk := ub (ub (ub (ub (ub (ub (ub B 0 a0) 1 a1) 2 a2) 3 a3) 4 a4) 5 a5) 14 (-1)
def nAdd (n : Net) (a0 a1 a2 a3 a4 a5 : Int) : Net := un (un n (-1) (ub (n (-1)) 0 (n (-1) 0 + 1))) (n (-1) 0) (bNew (n (n (-1) 0)) a0 a1 a2 a3 a4 a5)
/-- the first place from k on, among f, of which p holds -/
def srch (p : Nat → Bool) : Nat → Nat → Int
  | 0, _ => -1
  | f + 1, k => if p k = true then k else srch p f (k + 1)
def aEmpty (n : Net) (l : Int) : Int := srch (fun k => decide (nTicks k n l 6 = 0)) 501 0
def aQuiet (n : Net) : Int := srch (fun k => nQuietB (nTicks k n) (n (-1) 0).toNat) 501 0
def aSends (n : Net) (l : Int) : Int := srch (fun k => decide (n l 17 < nTicks k n l 17)) 500 1
/-- ticks and bytes typed before each of them -/
def nDrop (l : Int) : Nat → Net → Net
  | 0, n => n
  | k + 1, n => nTick (un (nDrop l k n) l (bType (nDrop l k n l) 127 (nDrop l k n (-1) 1)))
def aLent (n : Net) (g l o : Int) : Int := if g = -1 then nTicks 100 (un n l (bLend (n l) o 99)) (-1) 4 - n (-1) 4 else nTicks 100 (un n l (bLend (n l) o 99)) g 17 - n g 17
def aFull (n : Net) : Nat → Int
  | 0 => 0
  | k + 1 => if n (aFull n k) 6 + n (aFull n k) 7 < n ((k : Int) + 1) 6 + n ((k : Int) + 1) 7 then (k : Int) + 1 else aFull n k
def aBusy (n : Net) : Nat → Int
  | 0 => 0
  | k + 1 => if n (aBusy n k) 17 < n ((k : Int) + 1) 17 then (k : Int) + 1 else aBusy n k
def aRun (n : Net) : Nat → Int × Int
  | 0 => (0, 0)
  | k + 1 =>
    let r := if 0 < k ∧ n (-2) (5 * (k : Int) + 1) = n (-2) (5 * ((k : Int) - 1) + 1) then (aRun n k).2 + 1 else 1
    (max (aRun n k).1 r, r)
