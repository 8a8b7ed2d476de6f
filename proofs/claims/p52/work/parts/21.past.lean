def rmR (r : Int) : Int := if r = 6 then 6 else r + 1
def rmP (r : Int) (P : Nat → Net) (n : Net) : Nat → Net := if r = 6 then uN (shN P) 5 n else uN P r.toNat n
def thoseV (n : Net) (w : Int) : Nat → Int32
  | 0 => zI 0
  | k + 1 => thoseV n w k ||| (if 0 < n k w then zI 1 <<< (zI k &&& 31) else zI 0)
def lineVal (n : Net) (l w : Int) : Int := if w = 0 then n l 1 else if w = 1 then n l 2 else if w = 2 then n l 3 else if w = 3 then n l 4 else if w = 4 then n l 5 else if w = 5 then n l 6 else if w = 6 then n l 7 else if w = 7 then n l 8 else if w = 8 then n l 9 else if w = 9 then (if 0 < n l 12 then n l 13 else -1) else n l 12
def propVal (n : Net) (w : Int) : Int32 := if w = 0 then zI (n (-1) 0) else if w = 1 then zI (n (-1) 1) else if w = 2 then zI (n (-1) 2) else if w = 3 then zI (nSender n) else if w = 4 then zI (n (-1) 3) else if w = 5 then zI (n (-1) 4) else if w = 6 then zI (n (-1) 5) else if w = 7 then thoseV n 9 (n (-1) 0).toNat else if w = 8 then thoseV n 10 (n (-1) 0).toNat else if w = 9 then thoseV n 11 (n (-1) 0).toNat else thoseV n 12 (n (-1) 0).toNat
