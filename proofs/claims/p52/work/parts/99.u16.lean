/-! Names written. -/
/-- the strings that were made can be read -/
def PLok (G : Gm) (M : Pool) : Prop := ∀ q b w, (q, b, w) ∈ M → SK G [PL G M] q b w
def namOk : Prop := ∀ u : List Int, u.length ≤ 6 → (∀ x ∈ u, 97 ≤ x ∧ x ≤ 122) → nam (wnum u) = u
theorem SP_sk {G : Gm} {M : Pool} {q b : Nat} {w : List Int} (hP : PLok G M) (h : SP G M q b w) : SK G [PL G M] q b w := h.elim (fun h => hP q b w h) (fun h => h.sk _)
