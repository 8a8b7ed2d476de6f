/-! The reference's object: its own fields (ob), its rows net, draft and aside (fam), and its other arrays. -/
def uN (N : Nat → Net) (r : Nat) (n : Net) : Nat → Net := fun j => if j = r then n else N j
theorem uN_s (N : Nat → Net) (r : Nat) (n : Net) : uN N r n r = n := if_pos rfl
theorem uN_uN (N : Nat → Net) (r : Nat) (n n' : Net) : uN (uN N r n) r n' = uN N r n' := by
  funext j; unfold uN; split <;> rfl
theorem uN_id (N : Nat → Net) (r : Nat) : uN N r (N r) = N := by
  funext j; unfold uN; split
  · next h => rw [h]
  · rfl
def rok (r : Nat) : Prop := r = 1 ∨ r = 2 ∨ r = 4
def fam (G : Gm) (A : Nat → Nat) (N : Nat → Net) : SA := fun c => (∀ r r', rok r → rok r' → A r = A r' → r = r') ∧ ∀ r, rok r → ar G 0 (A r) 1816 1816 (enc (N r)) c
abbrev shM (A : Nat → Nat) (r : Nat) : List (Option Value) := [none, some (.ref (A 1)), some (.ref (A 2)), some (.ref (A r)), some (.ref (A 4)), some (.ref (A 5)), none, none, none, none, none, none, none, none, some (.ref (A 14)), some (.ref (A 15)), none, some (.ref (A 17)), some (.ref (A 18)), some (.ref (A 19)), none, some (.ref (A 21)), none]
theorem fam_congr {G : Gm} {A : Nat → Nat} {N N' : Nat → Net} (h : ∀ r, rok r → ∀ j, j < 1816 → enc (N r) j = enc (N' r) j) {d : Sto} (hd : fam G A N d) : fam G A N' d :=
  ⟨hd.1, fun r hr => ar_congr (Nat.le_refl _) (h r hr) (hd.2 r hr)⟩
section Rules
variable {G : Gm} {X : Cx} {l : Launch} {own nm : String} {cc : ByteArray} {nL : Nat} {ret : Option FieldType} {d mc ms : Nat} {k n : Nat} {ws : List SA} {pc pc' len : Nat} {lv : List (Option Value)} {st : List Value}
theorem x_ialdP {a N M : Nat} {f : Nat → Int} {i : Int} {P : SA} (q : Nat) (C : OKc G X l own nm cc nL ret d mc ms) (D : dx cc pc .iaload 1 pc') (hq : ws[q]? = some P) (hP : ∀ c, P c → ar G 0 a N M f c) (hN : N < 2147483648) (hi : 0 ≤ i ∧ i < (M : Int)) (K : WX G X k n ws pc' lv (.int (zI (f i.toNat)) :: st)) : WX G X k n ws pc lv (.int (zI i) :: .ref a :: st) := by
  obtain ⟨p, l, e, R, s, m, args, below, meth, c0, cf, Q⟩ := X
  obtain ⟨hx, rfl, rfl, hb, hml, hown, hts, hK, hvm, hlk, hret, hnm⟩ := C
  obtain ⟨D1, rfl⟩ := D
  have hKs := hK.1.moved hvm.alike
  intro H locs ls c h1 h2 h3 h4
  obtain ⟨dd, hPd, hsub, -, -⟩ := WF_put h1 hq
  obtain ⟨g, hm, hg, hd⟩ := hP dd hPd
  have hi2 : i < (N : Int) := by omega
  have e : (zI i).toNatClampNeg = i.toNat := zI_nat hi.1 (by omega)
  refine va_iald (D := G.2.1) (cl := CL) (ws := [(a, .inl (G.2.2 0, N, .inl g))]) hx hb hKs (va_P1 (h2.2.2 a _ (hsub a _ hd)).2) 0 0 rfl rfl (zI_in hi.1 hi2 hN) D1 ?_
  rw [e, hg _ (by omega)]
  exact K H locs ls c h1 h2 h3 h4
theorem x_iastP {a N M : Nat} {f : Nat → Int} {i x : Int} {P P' : SA} (ws' : List SA) (q : Nat) (C : OKc G X l own nm cc nL ret d mc ms) (D : dx cc pc .iastore 1 pc') (hq : ws[q]? = some P) (hP : ∀ c, P c → ar G 0 a N M f c ∧ ∀ e, ar G 0 a N M (up f i.toNat x) (s_up c a e) → P' (s_up c a e)) (hN : N < 2147483648) (hi : 0 ≤ i ∧ i < (N : Int)) (hw : ws.set q P' = ws') (K : WX G X k n ws' pc' lv st) : WX G X k n ws pc lv (.int (zI x) :: .int (zI i) :: .ref a :: st) := by
  obtain ⟨p, l, e, R, s, m, args, below, meth, c0, cf, Q⟩ := X
  obtain ⟨hx, rfl, rfl, hb, hml, hown, hts, hK, hvm, hlk, hret, hnm⟩ := C
  obtain ⟨D1, rfl⟩ := D
  have hKs := hK.1.moved hvm.alike
  intro H locs ls c h1 h2 h3 h4
  obtain ⟨dd, hPd, hsub, -, hset⟩ := WF_put h1 hq
  obtain ⟨⟨g, hm, hg, hd⟩, hP'⟩ := hP dd hPd
  have e : (zI i).toNatClampNeg = i.toNat := zI_nat hi.1 (by omega)
  obtain ⟨w9, wP, wD, wc, -⟩ := HH_list h2
  obtain ⟨j, hj⟩ := wc a _ (hsub a _ hd)
  refine va_iast (D := G.2.1) (cl := CL) hx hb hKs wP wD (HH_ge (H1 := H) (locs1 := locs) h3) j 0 hj rfl (zI_in hi.1 hi.2 hN) D1 (fun H1 locs1 p1 _ s1 => ?_)
  subst hw
  refine K H1 locs1 ls _ (hset a _ _ _ hd (hP' _ ⟨_, hm, fun b hb => ?_, s_up_s _ _ _⟩)) (HH_set h2 hj wc p1 s1 (hsub a _ hd)) s1.2.2 h4
  rw [e]
  by_cases hbi : b = i.toNat
  · subst hbi
    rw [up_s]
    simp only [upd, if_true]
  · rw [up_n hbi]
    simp only [upd, hbi, if_false]
    exact hg b hb
theorem x_fald {A : Nat → Nat} {N : Nat → Net} {r : Nat} {i : Int} (q : Nat) (C : OKc G X l own nm cc nL ret d mc ms) (D : dx cc pc .iaload 1 pc') (hq : ws[q]? = some (fam G A N)) (hr : rok r) (hi : 0 ≤ i ∧ i < 1816) (K : WX G X k n ws pc' lv (.int (zI (enc (N r) i.toNat)) :: st)) : WX G X k n ws pc lv (.int (zI i) :: .ref (A r) :: st) :=
  x_ialdP q C D hq (fun c hc => hc.2 r hr) (by decide) hi K
theorem x_fast {A : Nat → Nat} {N : Nat → Net} {r : Nat} {i x : Int} (ws' : List SA) (q : Nat) (C : OKc G X l own nm cc nL ret d mc ms) (D : dx cc pc .iastore 1 pc') (hq : ws[q]? = some (fam G A N)) (hr : rok r) (hi : 0 ≤ i ∧ i < 1816) (hw : ws.set q (fam G A (uN N r (encU (N r) i.toNat x))) = ws') (K : WX G X k n ws' pc' lv st) : WX G X k n ws pc lv (.int (zI x) :: .int (zI i) :: .ref (A r) :: st) := by
  refine x_iastP (P' := fam G A (uN N r (encU (N r) i.toNat x))) ws' q C D hq (fun c hc => ⟨hc.2 r hr, fun e he => ⟨hc.1, fun r' hr' => ?_⟩⟩) (by decide) hi hw K
  by_cases h : r' = r
  · subst h
    rw [uN_s]
    exact ar_congr (Nat.le_refl _) (fun j hj => (enc_encU _ _ (by omega) j hj).symm) he
  · obtain ⟨g, g1, g2, g3⟩ := hc.2 r' hr'
    refine ⟨g, g1, fun j hj => ?_, ?_⟩
    · rw [g2 j hj]
      unfold uN
      rw [if_neg h]
    · rw [s_up_n (fun z => h (hc.1 r' r hr' hr z))]
      exact g3
theorem x_faldU {A : Nat → Nat} {N : Nat → Net} {r : Nat} {n9 : Net} {i : Int} (q : Nat) (C : OKc G X l own nm cc nL ret d mc ms) (D : dx cc pc .iaload 1 pc') (hq : ws[q]? = some (fam G A (uN N r n9))) (hr : rok r) (hi : 0 ≤ i ∧ i < 1816) (K : WX G X k n ws pc' lv (.int (zI (enc n9 i.toNat)) :: st)) : WX G X k n ws pc lv (.int (zI i) :: .ref (A r) :: st) :=
  x_fald q C D hq hr hi (by rw [uN_s]; exact K)
theorem x_fastU {A : Nat → Nat} {N : Nat → Net} {r : Nat} {n9 : Net} {i x : Int} (ws' : List SA) (q : Nat) (C : OKc G X l own nm cc nL ret d mc ms) (D : dx cc pc .iastore 1 pc') (hq : ws[q]? = some (fam G A (uN N r n9))) (hr : rok r) (hi : 0 ≤ i ∧ i < 1816) (hw : ws.set q (fam G A (uN N r (encU n9 i.toNat x))) = ws') (K : WX G X k n ws' pc' lv st) : WX G X k n ws pc lv (.int (zI x) :: .int (zI i) :: .ref (A r) :: st) :=
  x_fast ws' q C D hq hr hi (by rw [uN_s, uN_uN]; exact hw) K
end Rules
