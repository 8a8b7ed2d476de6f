/-! New objects of the reference. -/
def adr (l : List Nat) (j : Nat) : Nat := l.getD j 0
def nInit : Net := un (nAdd Zn 0 10 2 8 1 0) (-1) (ub (nAdd Zn 0 10 2 8 1 0 (-1)) 3 1)
