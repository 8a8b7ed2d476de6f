/-! New objects of the reference. -/
def adr (l : List Nat) (j : Nat) : Nat := l.getD j 0
theorem fam_mk {G : Gm} {A : Nat → Nat} {d : Sto} (h : WL [ar G 0 (A 1) 1816 1816 (fun _ => 0), ar G 0 (A 2) 1816 1816 (fun _ => 0), ar G 0 (A 4) 1816 1816 (fun _ => 0)] d) : fam G A (uN (fun _ => Zn) 1 Zn) d := by
  obtain ⟨f, f1, f2, f3, -⟩ := h
  have e : uN (fun _ => Zn) 1 Zn = fun _ => Zn := uN_id (fun _ => Zn) 1
  rw [e]
  have sub : ∀ i a x, i < 3 → f i a = some x → d a = some x := fun i a x hi hx => (f3 i a x hi hx).1
  have up' : ∀ i a, i < 3 → ar G 0 a 1816 1816 (fun _ => 0) (f i) → ar G 0 a 1816 1816 (enc Zn) d := fun i a hi ⟨g, g1, g2, g3⟩ => ⟨g, g1, fun j hj => by rw [g2 j hj, enc_Z], sub i a _ hi g3⟩
  have ne : ∀ i j a, i < 3 → j < 3 → i ≠ j → ar G 0 a 1816 1816 (fun _ => 0) (f i) → ar G 0 a 1816 1816 (fun _ => 0) (f j) → False := fun i j a hi hj hij ⟨g, _, _, g3⟩ ⟨g', _, _, g3'⟩ => by
    rcases f2 i j a hi hj hij with z | z
    · rw [z] at g3; cases g3
    · rw [z] at g3'; cases g3'
  have h0 := f1 0 _ rfl
  have h1 := f1 1 _ rfl
  have h2 := f1 2 _ rfl
  refine ⟨fun r r' hr hr' ee => ?_, fun r hr => ?_⟩
  · rcases hr with rfl | rfl | rfl <;> rcases hr' with rfl | rfl | rfl
    · rfl
    · exact (ne 0 1 _ (by decide) (by decide) (by decide) h0 (by rw [ee]; exact h1)).elim
    · exact (ne 0 2 _ (by decide) (by decide) (by decide) h0 (by rw [ee]; exact h2)).elim
    · exact (ne 1 0 _ (by decide) (by decide) (by decide) h1 (by rw [ee]; exact h0)).elim
    · rfl
    · exact (ne 1 2 _ (by decide) (by decide) (by decide) h1 (by rw [ee]; exact h2)).elim
    · exact (ne 2 0 _ (by decide) (by decide) (by decide) h2 (by rw [ee]; exact h0)).elim
    · exact (ne 2 1 _ (by decide) (by decide) (by decide) h2 (by rw [ee]; exact h1)).elim
    · rfl
  · rcases hr with rfl | rfl | rfl
    · exact up' 0 _ (by decide) h0
    · exact up' 1 _ (by decide) h1
    · exact up' 2 _ (by decide) h2
def nInit : Net := un (nAdd Zn 0 10 2 8 1 0) (-1) (ub (nAdd Zn 0 10 2 8 1 0 (-1)) 3 1)
theorem nInit_ok : NetOk 0 nInit := by
  have h := DOk_add (a0 := 0) (a1 := 10) (a2 := 2) (a3 := 8) (a4 := 1) (a5 := 0) DOk_Z (by decide) (by decide) (by decide) (by decide) (by decide) (by decide)
  have h1 := ldD_ok h.1 (by rw [h.2]; decide)
  have e : nAdd Zn 0 10 2 8 1 0 0 4 = 1 := rfl
  unfold ldD at h1
  rw [e] at h1
  exact h1
