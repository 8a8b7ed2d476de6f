theorem and255 {x : Int} (h : -128 ≤ x ∧ x ≤ 127) : zI x &&& zI 255 = zI (if x < 0 then x + 256 else x) := by
  have h0 : ∀ k : Fin 256, zI (((k : Nat) : Int) - 128) &&& zI 255 = zI (if ((k : Nat) : Int) - 128 < 0 then ((k : Nat) : Int) - 128 + 256 else ((k : Nat) : Int) - 128) := by decide +kernel
  have h1 := h0 ⟨(x + 128).toNat, by omega⟩
  rw [show (((⟨(x + 128).toNat, by omega⟩ : Fin 256) : Nat) : Int) - 128 = x by show (((x + 128).toNat : Nat) : Int) - 128 = x; omega] at h1
  exact h1
/-- the byte at a place of the text; -1 behind it -/
def byt (F : Nat → Int) (ts k : Int) : Int := if k < ts then (if F k.toNat < 0 then F k.toNat + 256 else F k.toNat) else -1
theorem byt_r {F : Nat → Int} {ts k : Int} (h : ∀ j, -128 ≤ F j ∧ F j ≤ 127) : -1 ≤ byt F ts k ∧ byt F ts k ≤ 255 := by
  have := h k.toNat
  unfold byt
  split
  · split <;> omega
  · omega
def errI (I : Nat → Int) (c : Int) : Nat → Int := if I 12 = 0 then up (up I 12 c) 13 (I 9) else I
