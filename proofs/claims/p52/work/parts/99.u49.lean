/-! The law's loop: what both sides hold between two calls. -/
def NamOk (n : Net) : Prop := ∀ j, 0 ≤ j → j < n (-1) 0 → isNm (n j 0)
def GOK (b : Int) (n : Net) : Prop := NetOk b n ∧ NamOk n
theorem GOK.mono {b b' : Int} {n : Net} (h : GOK b n) (hb : b ≤ b') : GOK b' n := ⟨NetOk_mono h.1 hb, h.2⟩
section Rules
variable {G : Gm} {X : Cx} {l : Launch} {own nm : String} {cc : ByteArray} {nL : Nat} {ret : Option FieldType} {d mc ms : Nat} {k n : Nat} {ws : List SA} {pc pc' pc1 pc2 pc3 pc4 len : Nat} {lv : List (Option Value)} {st : List Value}
end Rules
section Rules
variable {G : Gm} {X : Cx} {l : Launch} {own nm : String} {cc : ByteArray} {nL : Nat} {ret : Option FieldType} {d mc ms : Nat} {k n : Nat} {ws : List SA} {pc pc' : Nat} {lv : List (Option Value)} {st : List Value}
end Rules
