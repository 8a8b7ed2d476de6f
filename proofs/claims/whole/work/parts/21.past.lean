def rmR (r : Int) : Int := if r = 6 then 6 else r + 1
def rmP (r : Int) (P : Nat → Net) (n : Net) : Nat → Net := if r = 6 then uN (shN P) 5 n else uN P r.toNat n
theorem enc_cpyM (K : Nat → Net) (a : Net) (s j : Nat) (hj : j < 1816) : enc (cpy (fun j => encM K (1816 * s + j)) a 1816) j = enc (K s) j := by
  rw [enc_cpy _ _ _ (Nat.le_refl _) j hj, if_pos hj]
  unfold encM
  rw [show (1816 * s + j) / 1816 = s by omega, show (1816 * s + j) % 1816 = j by omega]
theorem famK {G : Gm} {A : Nat → Nat} {N K : Nat → Net} {n : Net} {s : Nat} (c : Sto) (h : fam G A (uN N 1 (cpy (fun j => encM K (1816 * s + j)) n 1816)) c) : fam G A (uN N 1 (K s)) c := by
  refine fam_congr (fun r' hr' j hj => ?_) h
  unfold uN
  split
  · exact enc_cpyM K n s j hj
  · rfl
