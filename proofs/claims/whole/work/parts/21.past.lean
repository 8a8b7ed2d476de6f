def rmR (r : Int) : Int := if r = 6 then 6 else r + 1
def rmP (r : Int) (P : Nat → Net) (n : Net) : Nat → Net := if r = 6 then uN (shN P) 5 n else uN P r.toNat n
theorem enc_cpyM (K : Nat → Net) (a : Net) (s j : Nat) (hj : j < 1816) : enc (cpy (fun j => encM K (1816 * s + j)) a 1816) j = enc (K s) j := by
  rw [enc_cpy _ _ _ (Nat.le_refl _) j hj, if_pos hj]
  unfold encM
  rw [show (1816 * s + j) / 1816 = s by omega, show (1816 * s + j) % 1816 = j by omega]
