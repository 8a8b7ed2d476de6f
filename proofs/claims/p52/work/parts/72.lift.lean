/-! Names, lines by name, families of six lines; contracts lifted to them. -/
def wnum : List Int → Int
  | [] => 0
  | w => w.foldl (fun v c => 27 * v + c - 96) 0
abbrev Pool : Type := List (Nat × Nat × List Int)
/-- the strings that were made -/
def PL (G : Gm) (M : Pool) : SA := fun d => ∀ x ∈ M, d x.1 = some (.inr (0, [.ref x.2.1, .int (zI 0), .int (zI 0), .int (zI 0)])) ∧ ∃ g : Nat → Int32, (∀ j, j < x.2.2.length → g j = zI (x.2.2.getD j 0)) ∧ d x.2.1 = some (.inl (G.2.2 1, x.2.2.length, .inl g))
def SP (G : Gm) (M : Pool) (q b : Nat) (w : List Int) : Prop := (q, b, w) ∈ M ∨ strG G q b w
/-- the string at q is a name's, of the number v -/
def NM (G : Gm) (M : Pool) (q : Nat) (v : Int) : Prop := ∃ b w, SP G M q b w ∧ w.length ≤ 6 ∧ (∀ x ∈ w, 97 ≤ x ∧ x ≤ 122) ∧ wnum w = v
theorem NM.mono {G : Gm} {M M' : Pool} {q : Nat} {v : Int} (h : NM G M q v) (hM : ∀ x ∈ M, x ∈ M') : NM G M' q v := by
  obtain ⟨b, w, h1, h2⟩ := h
  exact ⟨b, w, h1.imp (hM _) id, h2⟩
def lnA (G : Gm) (a : Nat) (A : Nat → Nat) (B : Blk) : List SA := [ob a 2 (lnS (A 0) (A 1) (A 3) (A 5) (A 7) (A 9) ((B) 15)) (lnI (B)), ob (A 1) 5 [some (.ref (A 2)), none] (fun _ => (B) 6), ar G 0 (A 2) 60 ((B) 6).toNat (fun j => (B) (28 + (j : Int))), ob (A 3) 5 [some (.ref (A 4)), none] (fun _ => (B) 6), ar G 0 (A 4) 60 ((B) 6).toNat (fun j => (B) (88 + (j : Int))), ob (A 5) 5 [some (.ref (A 6)), none] (fun _ => (B) 7), ar G 0 (A 6) 60 ((B) 7).toNat (fun j => (B) (148 + (j : Int))), ob (A 7) 5 [some (.ref (A 8)), none] (fun _ => (B) 8), ar G 0 (A 8) 60 ((B) 8).toNat (fun j => (B) (208 + (j : Int))), ar G 0 (A 9) 12 12 (fun j => (B) (16 + (j : Int)))]
def lnR (G : Gm) (a : Nat) (A : Nat → Nat) (w : Int) (J : Nat → Int) (z : Nat → Int) (f : Nat → Nat → Int) : List SA := [ob a 2 (lnS (A 0) (A 1) (A 3) (A 5) (A 7) (A 9) (w)) (J), ob (A 1) 5 [some (.ref (A 2)), none] (fun _ => z 0), ar G 0 (A 2) 60 (z 0).toNat (f 0), ob (A 3) 5 [some (.ref (A 4)), none] (fun _ => z 1), ar G 0 (A 4) 60 (z 1).toNat (f 1), ob (A 5) 5 [some (.ref (A 6)), none] (fun _ => z 2), ar G 0 (A 6) 60 (z 2).toNat (f 2), ob (A 7) 5 [some (.ref (A 8)), none] (fun _ => z 3), ar G 0 (A 8) 60 (z 3).toNat (f 3), ar G 0 (A 9) 12 12 (f 4)]
/-- its name is v's, its first queue is q -/
def NQ (G : Gm) (M : Pool) (q : Nat) (A : Nat → Nat) (v : Int) : Prop := NM G M (A 0) v ∧ A 1 = q
def LN (G : Gm) (M : Pool) (a q : Nat) (B : Blk) : SA := fun d => ∃ A : Nat → Nat, NQ G M q A (B 0) ∧ WL (lnA G a A B) d
def LG (G : Gm) (a q : Nat) : SA := fun d => ∃ (A : Nat → Nat) (w : Int) (J : Nat → Int) (z : Nat → Int) (f : Nat → Nat → Int), A 1 = q ∧ WL (lnR G a A w J z f) d
theorem lnA_R (G : Gm) (a : Nat) (A : Nat → Nat) (B : Blk) : lnA G a A B = lnR G a A (B 15) (lnI B) (fun k => if k = 2 then B 7 else if k = 3 then B 8 else B 6) (fun k j => if k = 0 then B (28 + (j : Int)) else if k = 1 then B (88 + (j : Int)) else if k = 2 then B (148 + (j : Int)) else if k = 3 then B (208 + (j : Int)) else B (16 + (j : Int))) := rfl
theorem LG_of_LN {G : Gm} {M : Pool} {a q : Nat} {B : Blk} {d : Sto} (h : LN G M a q B d) : LG G a q d := by
  obtain ⟨A, hN, h⟩ := h
  rw [lnA_R] at h
  exact ⟨A, _, _, _, _, hN.2, h⟩
theorem LN.mono {G : Gm} {M M' : Pool} {a q : Nat} {B : Blk} {d : Sto} (hM : ∀ x ∈ M, x ∈ M') (h : LN G M a q B d) : LN G M' a q B d := by
  obtain ⟨A, h1, h2⟩ := h
  exact ⟨A, ⟨h1.1.mono hM, h1.2⟩, h2⟩
def fam6 (Q : Nat → SA) : SA := WL [Q 0, Q 1, Q 2, Q 3, Q 4, Q 5]
def hole (Q : Nat → SA) (i : Nat) : SA := match i with
  | 0 => WL [Q 1, Q 2, Q 3, Q 4, Q 5]
  | 1 => WL [Q 0, Q 2, Q 3, Q 4, Q 5]
  | 2 => WL [Q 0, Q 1, Q 3, Q 4, Q 5]
  | 3 => WL [Q 0, Q 1, Q 2, Q 4, Q 5]
  | 4 => WL [Q 0, Q 1, Q 2, Q 3, Q 5]
  | _ => WL [Q 0, Q 1, Q 2, Q 3, Q 4]
theorem WF_in {P P' R : List SA} {cf c : Sto} (h : WF (P ++ R) cf c) (hp : ∀ cf c, WF P cf c → WF P' cf c) : WF (P' ++ R) cf c := by
  obtain ⟨cf', h1, h2⟩ := WF_frame h
  exact h2 P' c (hp cf' c h1)
theorem fam6_take {Q : Nat → SA} {R : List SA} {cf c : Sto} (i : Nat) (hi : i < 6) (h : WF (fam6 Q :: R) cf c) : WF (Q i :: hole Q i :: R) cf c := by
  refine WF_in (P := [fam6 Q]) (P' := [Q i, hole Q i]) h (fun cf c h => ?_)
  have h1 : WF ([Q 0, Q 1, Q 2, Q 3, Q 4, Q 5] ++ []) cf c := WF_open h (fun d hd => hd)
  have hc : i = 0 ∨ i = 1 ∨ i = 2 ∨ i = 3 ∨ i = 4 ∨ i = 5 := by omega
  rcases hc with rfl | rfl | rfl | rfl | rfl | rfl
  · exact WF_pick [1, 0] rfl rfl (WF_close (L := [Q 1, Q 2, Q 3, Q 4, Q 5]) (R := [Q 0]) (P := hole Q 0) (WF_pick [1, 2, 3, 4, 5, 0] rfl rfl h1) (fun d hd => hd))
  · exact WF_pick [1, 0] rfl rfl (WF_close (L := [Q 0, Q 2, Q 3, Q 4, Q 5]) (R := [Q 1]) (P := hole Q 1) (WF_pick [0, 2, 3, 4, 5, 1] rfl rfl h1) (fun d hd => hd))
  · exact WF_pick [1, 0] rfl rfl (WF_close (L := [Q 0, Q 1, Q 3, Q 4, Q 5]) (R := [Q 2]) (P := hole Q 2) (WF_pick [0, 1, 3, 4, 5, 2] rfl rfl h1) (fun d hd => hd))
  · exact WF_pick [1, 0] rfl rfl (WF_close (L := [Q 0, Q 1, Q 2, Q 4, Q 5]) (R := [Q 3]) (P := hole Q 3) (WF_pick [0, 1, 2, 4, 5, 3] rfl rfl h1) (fun d hd => hd))
  · exact WF_pick [1, 0] rfl rfl (WF_close (L := [Q 0, Q 1, Q 2, Q 3, Q 5]) (R := [Q 4]) (P := hole Q 4) (WF_pick [0, 1, 2, 3, 5, 4] rfl rfl h1) (fun d hd => hd))
  · exact WF_pick [1, 0] rfl rfl (WF_close (L := [Q 0, Q 1, Q 2, Q 3, Q 4]) (R := [Q 5]) (P := hole Q 5) (WF_pick [0, 1, 2, 3, 4, 5] rfl rfl h1) (fun d hd => hd))
theorem fam6_put {Q Q' : Nat → SA} {P : SA} {R : List SA} {cf c : Sto} (i : Nat) (hi : i < 6) (hQ : ∀ j, j < 6 → j ≠ i → Q' j = Q j) (hP : Q' i = P) (h : WF (P :: hole Q i :: R) cf c) : WF (fam6 Q' :: R) cf c := by
  subst hP
  refine WF_in (P := [Q' i, hole Q i]) (P' := [fam6 Q']) h (fun cf c h => ?_)
  have hc : i = 0 ∨ i = 1 ∨ i = 2 ∨ i = 3 ∨ i = 4 ∨ i = 5 := by omega
  rcases hc with rfl | rfl | rfl | rfl | rfl | rfl
  · have h1 : WF ([Q 1, Q 2, Q 3, Q 4, Q 5] ++ [Q' 0]) cf c := WF_open (P := hole Q 0) (WF_pick [1, 0] rfl rfl h) (fun d hd => hd)
    rw [← hQ 1 (by decide) (by decide), ← hQ 2 (by decide) (by decide), ← hQ 3 (by decide) (by decide), ← hQ 4 (by decide) (by decide), ← hQ 5 (by decide) (by decide)] at h1
    exact WF_close (L := [Q' 0, Q' 1, Q' 2, Q' 3, Q' 4, Q' 5]) (R := []) (WF_pick [5, 0, 1, 2, 3, 4] rfl rfl h1) (fun d hd => hd)
  · have h1 : WF ([Q 0, Q 2, Q 3, Q 4, Q 5] ++ [Q' 1]) cf c := WF_open (P := hole Q 1) (WF_pick [1, 0] rfl rfl h) (fun d hd => hd)
    rw [← hQ 0 (by decide) (by decide), ← hQ 2 (by decide) (by decide), ← hQ 3 (by decide) (by decide), ← hQ 4 (by decide) (by decide), ← hQ 5 (by decide) (by decide)] at h1
    exact WF_close (L := [Q' 0, Q' 1, Q' 2, Q' 3, Q' 4, Q' 5]) (R := []) (WF_pick [0, 5, 1, 2, 3, 4] rfl rfl h1) (fun d hd => hd)
  · have h1 : WF ([Q 0, Q 1, Q 3, Q 4, Q 5] ++ [Q' 2]) cf c := WF_open (P := hole Q 2) (WF_pick [1, 0] rfl rfl h) (fun d hd => hd)
    rw [← hQ 0 (by decide) (by decide), ← hQ 1 (by decide) (by decide), ← hQ 3 (by decide) (by decide), ← hQ 4 (by decide) (by decide), ← hQ 5 (by decide) (by decide)] at h1
    exact WF_close (L := [Q' 0, Q' 1, Q' 2, Q' 3, Q' 4, Q' 5]) (R := []) (WF_pick [0, 1, 5, 2, 3, 4] rfl rfl h1) (fun d hd => hd)
  · have h1 : WF ([Q 0, Q 1, Q 2, Q 4, Q 5] ++ [Q' 3]) cf c := WF_open (P := hole Q 3) (WF_pick [1, 0] rfl rfl h) (fun d hd => hd)
    rw [← hQ 0 (by decide) (by decide), ← hQ 1 (by decide) (by decide), ← hQ 2 (by decide) (by decide), ← hQ 4 (by decide) (by decide), ← hQ 5 (by decide) (by decide)] at h1
    exact WF_close (L := [Q' 0, Q' 1, Q' 2, Q' 3, Q' 4, Q' 5]) (R := []) (WF_pick [0, 1, 2, 5, 3, 4] rfl rfl h1) (fun d hd => hd)
  · have h1 : WF ([Q 0, Q 1, Q 2, Q 3, Q 5] ++ [Q' 4]) cf c := WF_open (P := hole Q 4) (WF_pick [1, 0] rfl rfl h) (fun d hd => hd)
    rw [← hQ 0 (by decide) (by decide), ← hQ 1 (by decide) (by decide), ← hQ 2 (by decide) (by decide), ← hQ 3 (by decide) (by decide), ← hQ 5 (by decide) (by decide)] at h1
    exact WF_close (L := [Q' 0, Q' 1, Q' 2, Q' 3, Q' 4, Q' 5]) (R := []) (WF_pick [0, 1, 2, 3, 5, 4] rfl rfl h1) (fun d hd => hd)
  · have h1 : WF ([Q 0, Q 1, Q 2, Q 3, Q 4] ++ [Q' 5]) cf c := WF_open (P := hole Q 5) (WF_pick [1, 0] rfl rfl h) (fun d hd => hd)
    rw [← hQ 0 (by decide) (by decide), ← hQ 1 (by decide) (by decide), ← hQ 2 (by decide) (by decide), ← hQ 3 (by decide) (by decide), ← hQ 4 (by decide) (by decide)] at h1
    exact WF_close (L := [Q' 0, Q' 1, Q' 2, Q' 3, Q' 4, Q' 5]) (R := []) (WF_pick [0, 1, 2, 3, 4, 5] rfl rfl h1) (fun d hd => hd)
/-- line by line -/
def lfQ (G : Gm) (M : Pool) (L : Int → Nat) (n : Net) (j : Nat) : SA := if (j : Int) < n (-1) 0 then LN G M (L j) (L ((j : Int) + 6)) (n j) else LG G (L j) (L ((j : Int) + 6))
def LF (G : Gm) (M : Pool) (L : Int → Nat) (n : Net) : SA := fam6 (lfQ G M L n)
theorem LF_open {G : Gm} {M : Pool} {L : Int → Nat} {n : Net} {R : List SA} {cf c : Sto} {i : Int} (hi : 0 ≤ i ∧ i < n (-1) 0 ∧ n (-1) 0 ≤ 6) (h : WF (LF G M L n :: R) cf c) : ∃ A : Nat → Nat, NQ G M (L (i + 6)) A (n i 0) ∧ WF (lnA G (L i) A (n i) ++ hole (lfQ G M L n) i.toNat :: R) cf c := by
  have h1 := fam6_take i.toNat (by omega) h
  have e : lfQ G M L n i.toNat = LN G M (L i) (L (i + 6)) (n i) := by
    unfold lfQ
    rw [show ((i.toNat : Nat) : Int) = i by omega, if_pos hi.2.1]
  rw [e] at h1
  obtain ⟨A, h2, h3⟩ := WF_openX (Y := fun A => NQ G M (L (i + 6)) A (n i 0)) (L := fun A => lnA G (L i) A (n i)) h1 (fun d hd => hd)
  exact ⟨A, h2, h3⟩
theorem LF_close {G : Gm} {M : Pool} {L : Int → Nat} {n : Net} {R : List SA} {cf c : Sto} {i : Int} {A : Nat → Nat} {B : Blk} (hi : 0 ≤ i ∧ i < n (-1) 0 ∧ n (-1) 0 ≤ 6) (hN : NQ G M (L (i + 6)) A (B 0)) (h : WF (lnA G (L i) A B ++ hole (lfQ G M L n) i.toNat :: R) cf c) : WF (LF G M L (un n i B) :: R) cf c := by
  have h1 : WF (LN G M (L i) (L (i + 6)) B :: hole (lfQ G M L n) i.toNat :: R) cf c := WF_close h (fun d hd => ⟨A, hN, hd⟩)
  have eh : un n i B (-1) = n (-1) := un_n (by omega)
  refine fam6_put i.toNat (by omega) (fun j hj hji => ?_) ?_ h1
  · unfold lfQ
    rw [eh, un_n (by omega)]
  · unfold lfQ
    rw [eh, show ((i.toNat : Nat) : Int) = i by omega, if_pos hi.2.1, un_s]
theorem MX_cv {G : Gm} {l : Launch} {y : MethodName} {cc : ByteArray} {nL : Nat} {ret : Option FieldType} {d mc ms : Nat} {args : List Value} {P : List SA} {T : Type} {rv : T → Option Value} {post : T → Prop} {wx : T → List SA} (h : ∀ cf c, WF P cf c → ∃ (T0 : Type) (rv0 : T0 → Option Value) (post0 : T0 → Prop) (wx0 : T0 → List SA) (P0 : List SA) (cf' : Sto), WF P0 cf' c ∧ MX G l y cc nL ret d mc ms args P0 rv0 post0 wx0 ∧ ∀ x c', post0 x → WF (wx0 x) cf' c' → ∃ x', rv x' = rv0 x ∧ post x' ∧ WF (wx x') cf c') : MX G l y cc nL ret d mc ms args P rv post wx := by
  intro cf c hw p e h1 h2 h3 s m a below h4 h5 h6 h7
  obtain ⟨T0, rv0, post0, wx0, P0, cf', g1, g2, g3⟩ := h cf c hw
  obtain ⟨k, o, k1, k2, k3, ⟨x, hx, hp, c', hw', hW⟩, k4⟩ := g2 cf' c g1 p e h1 h2 h3 s m a below h4 h5 h6 h7
  obtain ⟨x', e1, e2, e3⟩ := g3 x c' hp hw'
  exact ⟨k, o, k1, k2, k3, ⟨x', by rw [e1]; exact hx, e2, c', e3, hW⟩, k4⟩
/-- a contract of a line's ten atoms serves the family -/
theorem MX_ln {G : Gm} {l : Launch} {y : MethodName} {cc : ByteArray} {nL : Nat} {ret : Option FieldType} {d mc ms : Nat} {args : List Value} {T : Type} {rv : T → Option Value} {post : T → Prop} {M : Pool} {L : Int → Nat} {n : Net} {i : Int} (f : T → Blk) (hi : 0 ≤ i ∧ i < n (-1) 0 ∧ n (-1) 0 ≤ 6) (h0 : ∀ x, post x → f x 0 = n i 0) (h : ∀ A : Nat → Nat, MX G l y cc nL ret d mc ms args (lnA G (L i) A (n i)) rv post (fun x => lnA G (L i) A (f x))) : MX G l y cc nL ret d mc ms args [LF G M L n] rv post (fun x => [LF G M L (un n i (f x))]) := by
  refine MX_cv (fun cf c hw => ?_)
  obtain ⟨A, hN, h1⟩ := LF_open hi hw
  obtain ⟨cf', h2, h3⟩ := WF_frame h1
  exact ⟨T, rv, post, _, _, cf', h2, h A, fun x c' hp hw' => ⟨x, rfl, hp, LF_close hi (by rw [h0 x hp]; exact hN) (h3 _ c' hw')⟩⟩
/-- fewer atoms do -/
theorem MX_pk {G : Gm} {l : Launch} {y : MethodName} {cc : ByteArray} {nL : Nat} {ret : Option FieldType} {d mc ms : Nat} {args : List Value} {T : Type} {rv : T → Option Value} {post : T → Prop} {P P0 R : List SA} {wx wx' : T → List SA} (h : MX G l y cc nL ret d mc ms args P0 rv post wx) (hp : ∀ cf c, WF P cf c → WF (P0 ++ R) cf c) (hq : ∀ x cf c, WF (wx x ++ R) cf c → WF (wx' x) cf c) : MX G l y cc nL ret d mc ms args P rv post wx' := by
  refine MX_cv (fun cf c hw => ?_)
  obtain ⟨cf', h2, h3⟩ := WF_frame (hp cf c hw)
  exact ⟨T, rv, post, _, _, cf', h2, h, fun x c' hp' hw' => ⟨x, rfl, hp', hq x cf c' (h3 _ c' hw')⟩⟩
theorem LF_obj {G : Gm} {M : Pool} {L : Int → Nat} {n : Net} {i : Int} (hi : 0 ≤ i ∧ i < n (-1) 0 ∧ n (-1) 0 ≤ 6) {c : Sto} (h : LF G M L n c) : ∃ A : Nat → Nat, NQ G M (L (i + 6)) A (n i 0) ∧ c (L i) = some (.inr (2, flds (lnS (A 0) (A 1) (A 3) (A 5) (A 7) (A 9) (n i 15)) (lnI (n i)) 0)) := by
  have h1 : WF [LF G M L n] s_no c := ⟨fun _ => c, fun k P hk => by
      have hk0 : k = 0 := by have := (List.getElem?_eq_some_iff.mp hk).1; simpa using this
      subst hk0; cases hk; exact h, fun k j a hk hj hkj => by simp at hk hj; omega, fun k a e hk he => ⟨he, rfl⟩, fun a e he => by cases he⟩
  obtain ⟨A, hN, h2⟩ := LF_open hi h1
  obtain ⟨f, f1, f2, f3, -⟩ := h2
  exact ⟨A, hN, (f3 0 _ _ (by simp [lnA]) (f1 0 _ rfl)).1⟩
section Rules
variable {G : Gm} {X : Cx} {l : Launch} {own nm : String} {cc : ByteArray} {nL : Nat} {ret : Option FieldType} {d mc ms : Nat} {k n : Nat} {ws : List SA} {pc pc' len : Nat} {lv : List (Option Value)} {st : List Value}
/-- a number of a line of the family -/
theorem x_gL {idx kk : Nat} {t : FieldType} {fin : Bool} {M : Pool} {L : Int → Nat} {m : Net} {i : Int} (q : Nat) (C : OKc G X l own nm cc nL ret d mc ms) (g : GF own idx 2 kk t fin) (D : dx cc pc (.getfield idx) 3 pc') (hq : ws[q]? = some (LF G M L m)) (hi : 0 ≤ i ∧ i < m (-1) 0 ∧ m (-1) 0 ≤ 6) (hk : (lnS 0 0 0 0 0 0 0)[kk]? = some none) (K : WX G X k n ws pc' lv (.int (zI (lnI (m i) kk)) :: st)) : WX G X k n ws pc lv (.ref (L i) :: st) :=
  x_get q C g D hq (fun c hc => by
    obtain ⟨A, -, h⟩ := LF_obj hi hc
    refine ⟨_, h, ?_⟩
    rw [flds_get, Nat.zero_add]
    have e : ∀ (sh : List (Option Value)), (lnS 0 0 0 0 0 0 0)[kk]? = some none → (lnS (A 0) (A 1) (A 3) (A 5) (A 7) (A 9) (m i 15))[kk]? = some none := fun _ h => by
      match kk, h with
      | 1, _ => rfl
      | 2, _ => rfl
      | 3, _ => rfl
      | 4, _ => rfl
      | 5, _ => rfl
      | 10, _ => rfl
      | 11, _ => rfl
      | 12, _ => rfl
      | 13, _ => rfl
      | 14, _ => rfl
      | 15, _ => rfl
      | 16, h => exact absurd h (by simp)
      | 17, h => exact absurd h (by simp)
      | (k + 18), h => exact absurd h (by simp)
    rw [e [] hk]) K
/-- opens a line -/
theorem x_oL {M : Pool} {L : Int → Nat} {m : Net} {i : Int} {R : List SA} (hi : 0 ≤ i ∧ i < m (-1) 0 ∧ m (-1) 0 ≤ 6) (hw : ∀ cf c, WF ws cf c → WF (LF G M L m :: R) cf c) (K : ∀ A : Nat → Nat, NQ G M (L (i + 6)) A (m i 0) → WX G X k n (lnA G (L i) A (m i) ++ hole (lfQ G M L m) i.toNat :: R) pc lv st) : WX G X k n ws pc lv st := by
  intro H locs ls c h1 h2 h3 h4
  obtain ⟨A, hN, h5⟩ := LF_open hi (hw _ _ h1)
  exact K A hN H locs ls c h5 h2 h3 h4
end Rules
theorem LF_rcv {G : Gm} {M : Pool} {L : Int → Nat} {n : Net} {i : Int} (hi : 0 ≤ i ∧ i < n (-1) 0 ∧ n (-1) 0 ≤ 6) : ∀ c, LF G M L n c → ∃ fs, c (L i) = some (.inr (2, fs)) := fun c hc => by
  obtain ⟨A, -, h⟩ := LF_obj hi hc
  exact ⟨_, h⟩
