/-! The reference's object: its own fields (ob), its rows net, draft and aside (fam), and its other arrays. -/
def uN (N : Nat → Net) (r : Nat) (n : Net) : Nat → Net := fun j => if j = r then n else N j
def rok (r : Nat) : Prop := r = 1 ∨ r = 2 ∨ r = 4
def fam (G : Gm) (A : Nat → Nat) (N : Nat → Net) : SA := fun c => (∀ r r', rok r → rok r' → A r = A r' → r = r') ∧ ∀ r, rok r → ar G 0 (A r) 1816 1816 (enc (N r)) c
section Rules
variable {G : Gm} {X : Cx} {l : Launch} {own nm : String} {cc : ByteArray} {nL : Nat} {ret : Option FieldType} {d mc ms : Nat} {k n : Nat} {ws : List SA} {pc pc' len : Nat} {lv : List (Option Value)} {st : List Value}
end Rules
