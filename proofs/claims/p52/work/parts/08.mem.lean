theorem nar_b (w : Int32) : w.toInt8.toInt32 = zI w.toInt8.toInt := by
  rw [← Int32.toInt_inj, Int8.toInt_toInt32, zI_toInt]
  have h1 := w.toInt8.le_toInt
  have h2 := w.toInt8.toInt_lt
  exact ⟨by omega, by omega⟩
/-! Memory: atoms for objects and arrays, and the rules that read and write them. -/
/-- an object's fields: a written value, or the number of its place -/
def flds : List (Option Value) → (Nat → Int) → Nat → List Value
  | [], _, _ => []
  | some v :: t, I, j => v :: flds t I (j + 1)
  | none :: t, I, j => .int (zI (I j)) :: flds t I (j + 1)
theorem flds_get (sh : List (Option Value)) (I : Nat → Int) : ∀ (j i : Nat), (flds sh I j)[i]? = match sh[i]? with
    | some (some v) => some v
    | some none => some (.int (zI (I (j + i))))
    | none => none := by
  induction sh with
  | nil => intro j i; simp [flds]
  | cons o t ih =>
    intro j i
    cases o <;> (cases i with
      | zero => simp [flds]
      | succ i => simp [flds, ih (j + 1) i, show j + 1 + i = j + (i + 1) by omega])
theorem flds_len (sh : List (Option Value)) (I : Nat → Int) : ∀ j, (flds sh I j).length = sh.length := by
  induction sh with
  | nil => intro j; rfl
  | cons o t ih => intro j; cases o <;> simp [flds, ih]
theorem flds_setI {sh : List (Option Value)} {I : Nat → Int} {i : Nat} (x : Int) (h : sh[i]? = some none) : (flds sh I 0).set i (.int (zI x)) = flds sh (up I i x) 0 := by
  apply List.ext_getElem?
  intro j
  by_cases hj : j = i
  · subst hj
    have hl : j < (flds sh I 0).length := by rw [flds_len]; exact (List.getElem?_eq_some_iff.mp h).1
    rw [List.getElem?_set_self hl, flds_get, h]
    simp [up_s]
  · rw [List.getElem?_set_ne (Ne.symm hj), flds_get, flds_get]
    simp [up_n hj]
theorem flds_setR {sh : List (Option Value)} {I : Nat → Int} {i : Nat} (v : Value) (h : i < sh.length) : (flds sh I 0).set i v = flds (sh.set i (some v)) I 0 := by
  apply List.ext_getElem?
  intro j
  by_cases hj : j = i
  · subst hj
    have hl : j < (flds sh I 0).length := by rw [flds_len]; exact h
    rw [List.getElem?_set_self hl, flds_get, List.getElem?_set_self h]
  · rw [List.getElem?_set_ne (Ne.symm hj), flds_get, flds_get, List.getElem?_set_ne (Ne.symm hj)]
theorem flds_congr {sh : List (Option Value)} {I I' : Nat → Int} (h : ∀ i, sh[i]? = some none → I i = I' i) : flds sh I 0 = flds sh I' 0 := by
  apply List.ext_getElem?
  intro j
  rw [flds_get, flds_get]
  cases hj : sh[j]? with
  | none => rfl
  | some o =>
    cases o with
    | some v => rfl
    | none => simp [h j hj]
def ob (a ci : Nat) (sh : List (Option Value)) (I : Nat → Int) : SA := fun c => c a = some (.inr (ci, flds sh I 0))
theorem ob_congr {a ci : Nat} {sh : List (Option Value)} {I I' : Nat → Int} (h : ∀ i, sh[i]? = some none → I i = I' i) {d : Sto} (hd : ob a ci sh I d) : ob a ci sh I' d := by
  unfold ob at *
  rw [hd, flds_congr h]
/-- an array of whole numbers of the kind t, of n places, of which the first m are told -/
def ar (G : Gm) (t a n m : Nat) (f : Nat → Int) : SA := fun c => ∃ g : Nat → Int32, m ≤ n ∧ (∀ j, j < m → g j = zI (f j)) ∧ c a = some (.inl (G.2.2 t, n, .inl g))
theorem ar_congr {G : Gm} {t a n m m' : Nat} {f f' : Nat → Int} (hm : m' ≤ m) (h : ∀ j, j < m' → f j = f' j) {d : Sto} (hd : ar G t a n m f d) : ar G t a n m' f' d := by
  obtain ⟨g, h1, h2, h3⟩ := hd
  exact ⟨g, by omega, fun j hj => by rw [h2 j (by omega), h j hj], h3⟩
def arL (G : Gm) (a n : Nat) (f : Nat → Int64) : SA := fun c => c a = some (.inl (G.2.2 3, n, .inr (.inl f)))
def arD (G : Gm) (a n : Nat) (f : Nat → UInt64) : SA := fun c => c a = some (.inl (G.2.2 4, n, .inr (.inr (.inr (.inl f)))))
/-- an array of references of the kind t -/
def arR (G : Gm) (t a n : Nat) (f : Nat → Option Nat) : SA := fun c => ∃ g : Nat → Option Nat, (∀ j, j < n → g j = f j) ∧ c a = some (.inl (G.2.2 t, n, .inr (.inr (.inr (.inr g)))))
theorem arR_congr {G : Gm} {t a n : Nat} {f f' : Nat → Option Nat} (h : ∀ j, j < n → f j = f' j) {d : Sto} (hd : arR G t a n f d) : arR G t a n f' d := by
  obtain ⟨g, h2, h3⟩ := hd
  exact ⟨g, fun j hj => by rw [h2 j hj, h j hj], h3⟩
theorem va_P1 {D : va_G} {cl : List vw_C} {x : Nat × va_E} {H : Heap} (h : va_at D cl x H) : va_P D cl [x] H := fun k q hk => by
  have hk0 : k = 0 := by have := (List.getElem?_eq_some_iff.mp hk).1; simpa using this
  subst hk0
  cases hk
  exact h
theorem HH_ge {G : Gm} {H H1 : Heap} {locs locs1 : List Loc} (hz : ∀ z ∈ locs, G.1.heap.size ≤ z.base) : va_S (fun q => G.1.heap.size ≤ q) H H locs := ⟨Nat.le_refl _, fun _ _ _ => rfl, hz⟩
/-- a class's words stand in the tables -/
def KC (ci : Nat) (C : String) (T : u_T) (N : Nat) (ty : Nat → FieldType) : Prop := CL[ci]? = some (C, T, N) ∧ (∀ w ∈ u_ws C T N, w ∈ TSg) ∧ (∀ k, k < N → parseFieldDescriptor (T k).2.2.1 = some (ty k)) ∧ ∀ a, a < N → ∀ b, b < N → a ≠ b → (T a).2.1 ≠ (T b).2.1
/-- the entry idx of own's pool names the field k of the class ci, of type t -/
def GF (own : String) (idx ci k : Nat) (t : FieldType) (fin : Bool) : Prop := ∃ (C : String) (T : u_T) (N : Nat) (ty : Nat → FieldType), KC ci C T N ty ∧ k < N ∧ Cond.fieldLink own idx (T k).1 (T k).2.1 (T k).2.2.1 ∈ TSg ∧ parseFieldDescriptor (T k).2.2.1 = some t ∧ (T k).2.2.2 = fin
/-- the entry idx of own's pool names the class ci, of which new objects have the shape sh -/
def NF (own : String) (idx ci N : Nat) (sh : List (Option Value)) : Prop := ∃ (C : String) (T : u_T) (ty : Nat → FieldType), KC ci C T N ty ∧ Cond.classLink own idx C ∈ TSg ∧ Cond.instantiable C N ∈ TSg ∧ Cond.initialized C ∈ TSg ∧ ∀ j, j < N → defaultValue (ty j) = vp_V (flds sh (fun _ => 0) 0) j
section Rules
variable {G : Gm} {X : Cx} {l : Launch} {own nm : String} {cc : ByteArray} {nL : Nat} {ret : Option FieldType} {d mc ms : Nat} {k n : Nat} {ws : List SA} {pc pc' len : Nat} {lv : List (Option Value)} {st : List Value}
theorem x_get {idx ci kk a : Nat} {t : FieldType} {fin : Bool} {P : SA} {v : Value} (q : Nat) (C : OKc G X l own nm cc nL ret d mc ms) (g : GF own idx ci kk t fin) (D : dx cc pc (.getfield idx) 3 pc') (hq : ws[q]? = some P) (hP : ∀ c, P c → ∃ fs, c a = some (.inr (ci, fs)) ∧ fs[kk]? = some v) (K : WX G X k n ws pc' lv (v :: st)) : WX G X k n ws pc lv (.ref a :: st) := by
  obtain ⟨p, l, e, R, s, m, args, below, meth, c0, cf, Q⟩ := X
  obtain ⟨hx, rfl, rfl, hb, hml, hown, hts, hK, hvm, hlk, hret, hnm⟩ := C
  obtain ⟨D1, rfl⟩ := D
  have hKs := hK.1.moved hvm.alike
  intro H locs ls c h1 h2 h3 h4
  obtain ⟨dd, hPd, hsub, -, -⟩ := WF_put h1 hq
  obtain ⟨fs, hd, hv⟩ := hP dd hPd
  obtain ⟨C0, T, N, ty, ⟨hCL, hin, -, -⟩, hk, hlink, -, -⟩ := g
  exact va_get (D := G.2.1) (cl := CL) (ws := [(a, .inr (ci, fs))]) (C := C0) (T := T) (N := N) hx hb hts hin hown hKs (va_P1 (h2.2.2 a _ (hsub a _ hd)).2) 0 rfl hCL kk hk (hts _ hlink) (fun _ h => h) hv D1 (K H locs ls c h1 h2 h3 h4)
theorem x_getI {idx ci kk a : Nat} {t : FieldType} {fin : Bool} {sh : List (Option Value)} {I : Nat → Int} (q : Nat) (C : OKc G X l own nm cc nL ret d mc ms) (g : GF own idx ci kk t fin) (D : dx cc pc (.getfield idx) 3 pc') (hq : ws[q]? = some (ob a ci sh I)) (hs : sh[kk]? = some none) (K : WX G X k n ws pc' lv (.int (zI (I kk)) :: st)) : WX G X k n ws pc lv (.ref a :: st) :=
  x_get q C g D hq (fun c hc => ⟨_, hc, by rw [flds_get, hs, Nat.zero_add]⟩) K
theorem x_getR {idx ci kk a : Nat} {t : FieldType} {fin : Bool} {sh : List (Option Value)} {I : Nat → Int} {v : Value} (q : Nat) (C : OKc G X l own nm cc nL ret d mc ms) (g : GF own idx ci kk t fin) (D : dx cc pc (.getfield idx) 3 pc') (hq : ws[q]? = some (ob a ci sh I)) (hs : sh[kk]? = some (some v)) (K : WX G X k n ws pc' lv (v :: st)) : WX G X k n ws pc lv (.ref a :: st) :=
  x_get q C g D hq (fun c hc => ⟨_, hc, by rw [flds_get, hs]⟩) K
theorem x_put {idx ci kk a : Nat} {t : FieldType} {P P' : SA} {v : Value} (ws' : List SA) (q : Nat) (C : OKc G X l own nm cc nL ret d mc ms) (g : GF own idx ci kk t false) (D : dx cc pc (.putfield idx) 3 pc') (hq : ws[q]? = some P) (hn : narrow t v = v) (hfit : fits t v = true) (hP : ∀ c, P c → ∃ fs, c a = some (.inr (ci, fs)) ∧ kk < fs.length ∧ P' (s_up c a (.inr (ci, fs.set kk v)))) (hw : ws.set q P' = ws') (K : WX G X k n ws' pc' lv st) : WX G X k n ws pc lv (v :: .ref a :: st) := by
  obtain ⟨p, l, e, R, s, m, args, below, meth, c0, cf, Q⟩ := X
  obtain ⟨hx, rfl, rfl, hb, hml, hown, hts, hK, hvm, hlk, hret, hnm⟩ := C
  obtain ⟨D1, rfl⟩ := D
  have hKs := hK.1.moved hvm.alike
  intro H locs ls c h1 h2 h3 h4
  obtain ⟨dd, hPd, hsub, -, hset⟩ := WF_put h1 hq
  obtain ⟨fs, hd, hl, hP'⟩ := hP dd hPd
  obtain ⟨C0, T, N, ty, ⟨hCL, hin, hty, hnm2⟩, hk, hlink, hd2, hfin⟩ := g
  obtain ⟨w, wP, wD, wc, -⟩ := HH_list h2
  obtain ⟨j, hj⟩ := wc a _ (hsub a _ hd)
  refine va_put (D := G.2.1) (cl := CL) (C := C0) (T := T) (N := N) hx hb hts hin ty hty hnm2 hown hKs wP wD (HH_ge (H1 := H) (locs1 := locs) h3) j hj hCL kk hk (hts _ hlink) (fun _ h => h) hfin hd2 hn hfit hl D1 (fun H1 locs1 p1 _ s1 => ?_)
  subst hw
  exact K H1 locs1 ls _ (hset a _ _ P' hd hP') (HH_set h2 hj wc p1 s1 (hsub a _ hd)) s1.2.2 h4
theorem x_putF {idx ci kk a : Nat} {t : FieldType} {P P' : SA} {v : Value} (ws' : List SA) (q : Nat) (C : OKc G X l own "<init>" cc nL ret d mc ms) (g : GF own idx ci kk t true) (D : dx cc pc (.putfield idx) 3 pc') (hdecl : ∀ C T N, CL[ci]? = some (C, T, N) → (T kk).1 = own) (hq : ws[q]? = some P) (hn : narrow t v = v) (hfit : fits t v = true) (hP : ∀ c, P c → ∃ fs, c a = some (.inr (ci, fs)) ∧ kk < fs.length ∧ P' (s_up c a (.inr (ci, fs.set kk v)))) (hw : ws.set q P' = ws') (K : WX G X k n ws' pc' lv st) : WX G X k n ws pc lv (v :: .ref a :: st) := by
  obtain ⟨p, l, e, R, s, m, args, below, meth, c0, cf, Q⟩ := X
  obtain ⟨hx, rfl, rfl, hb, hml, hown, hts, hK, hvm, hlk, hret, hnm⟩ := C
  obtain ⟨D1, rfl⟩ := D
  have hKs := hK.1.moved hvm.alike
  intro H locs ls c h1 h2 h3 h4
  obtain ⟨dd, hPd, hsub, -, hset⟩ := WF_put h1 hq
  obtain ⟨fs, hd, hl, hP'⟩ := hP dd hPd
  obtain ⟨C0, T, N, ty, ⟨hCL, hin, hty, hnm2⟩, hk, hlink, hd2, hfin⟩ := g
  obtain ⟨w, wP, wD, wc, -⟩ := HH_list h2
  obtain ⟨j, hj⟩ := wc a _ (hsub a _ hd)
  refine va_putF (D := G.2.1) (cl := CL) (C := C0) (T := T) (N := N) hx hb hts hin ty hty hnm2 hown hKs wP wD (HH_ge (H1 := H) (locs1 := locs) h3) j hj hCL kk hk (hts _ hlink) (fun _ h => h) hfin hnm (hdecl _ _ _ hCL) hd2 hn hfit hl D1 (fun H1 locs1 p1 _ s1 => ?_)
  subst hw
  exact K H1 locs1 ls _ (hset a _ _ P' hd hP') (HH_set h2 hj wc p1 s1 (hsub a _ hd)) s1.2.2 h4
theorem obI {a ci kk : Nat} {sh : List (Option Value)} {I : Nat → Int} (x : Int) (hs : sh[kk]? = some none) (c : Sto) (h : ob a ci sh I c) : ∃ fs, c a = some (.inr (ci, fs)) ∧ kk < fs.length ∧ ob a ci sh (up I kk x) (s_up c a (.inr (ci, fs.set kk (.int (zI x))))) :=
  ⟨_, h, by rw [flds_len]; exact (List.getElem?_eq_some_iff.mp hs).1, by unfold ob; rw [s_up_s, flds_setI x hs]⟩
theorem obR {a ci kk : Nat} {sh : List (Option Value)} {I : Nat → Int} (v : Value) (hs : kk < sh.length) (c : Sto) (h : ob a ci sh I c) : ∃ fs, c a = some (.inr (ci, fs)) ∧ kk < fs.length ∧ ob a ci (sh.set kk (some v)) I (s_up c a (.inr (ci, fs.set kk v))) :=
  ⟨_, h, by rw [flds_len]; exact hs, by unfold ob; rw [s_up_s, flds_setR v hs]⟩
theorem x_putI {idx ci kk a : Nat} {sh : List (Option Value)} {I : Nat → Int} {x : Int} (ws' : List SA) (q : Nat) (C : OKc G X l own nm cc nL ret d mc ms) (g : GF own idx ci kk .int false) (D : dx cc pc (.putfield idx) 3 pc') (hq : ws[q]? = some (ob a ci sh I)) (hs : sh[kk]? = some none) (hw : ws.set q (ob a ci sh (up I kk x)) = ws') (K : WX G X k n ws' pc' lv st) : WX G X k n ws pc lv (.int (zI x) :: .ref a :: st) :=
  x_put ws' q C g D hq rfl rfl (obI x hs) hw K
theorem narZ {x : Int} (hb : x = 0 ∨ x = 1) : narrow .boolean (.int (zI x)) = .int (zI x) ∧ fits .boolean (.int (zI x)) = true := by
  rcases hb with rfl | rfl <;> exact ⟨by decide +kernel, by decide +kernel⟩
theorem x_putZ {idx ci kk a : Nat} {sh : List (Option Value)} {I : Nat → Int} {x : Int} (ws' : List SA) (q : Nat) (C : OKc G X l own nm cc nL ret d mc ms) (g : GF own idx ci kk .boolean false) (D : dx cc pc (.putfield idx) 3 pc') (hq : ws[q]? = some (ob a ci sh I)) (hs : sh[kk]? = some none) (hb : x = 0 ∨ x = 1) (hw : ws.set q (ob a ci sh (up I kk x)) = ws') (K : WX G X k n ws' pc' lv st) : WX G X k n ws pc lv (.int (zI x) :: .ref a :: st) :=
  x_put ws' q C g D hq (narZ hb).1 (narZ hb).2 (obI x hs) hw K
theorem x_putR {idx ci kk a : Nat} {t : FieldType} {sh : List (Option Value)} {I : Nat → Int} {v : Value} (sh' : List (Option Value)) (ws' : List SA) (q : Nat) (C : OKc G X l own nm cc nL ret d mc ms) (g : GF own idx ci kk t false) (D : dx cc pc (.putfield idx) 3 pc') (hq : ws[q]? = some (ob a ci sh I)) (hs : kk < sh.length) (hn : narrow t v = v) (hfit : fits t v = true) (hsh : sh.set kk (some v) = sh') (hw : ws.set q (ob a ci sh' I) = ws') (K : WX G X k n ws' pc' lv st) : WX G X k n ws pc lv (v :: .ref a :: st) := by
  subst hsh
  exact x_put ws' q C g D hq hn hfit (obR v hs) hw K
theorem x_putFR {idx ci kk a : Nat} {t : FieldType} {sh : List (Option Value)} {I : Nat → Int} {v : Value} (sh' : List (Option Value)) (ws' : List SA) (q : Nat) (C : OKc G X l own "<init>" cc nL ret d mc ms) (g : GF own idx ci kk t true) (D : dx cc pc (.putfield idx) 3 pc') (hdecl : ∀ C T N, CL[ci]? = some (C, T, N) → (T kk).1 = own) (hq : ws[q]? = some (ob a ci sh I)) (hs : kk < sh.length) (hn : narrow t v = v) (hfit : fits t v = true) (hsh : sh.set kk (some v) = sh') (hw : ws.set q (ob a ci sh' I) = ws') (K : WX G X k n ws' pc' lv st) : WX G X k n ws pc lv (v :: .ref a :: st) := by
  subst hsh
  exact x_putF ws' q C g D hdecl hq hn hfit (obR v hs) hw K

theorem x_iald {a N M : Nat} {f : Nat → Int} {i : Int} (q : Nat) (C : OKc G X l own nm cc nL ret d mc ms) (D : dx cc pc .iaload 1 pc') (hq : ws[q]? = some (ar G 0 a N M f)) (hN : N < 2147483648) (hi : 0 ≤ i ∧ i < (M : Int)) (K : WX G X k n ws pc' lv (.int (zI (f i.toNat)) :: st)) : WX G X k n ws pc lv (.int (zI i) :: .ref a :: st) := by
  obtain ⟨p, l, e, R, s, m, args, below, meth, c0, cf, Q⟩ := X
  obtain ⟨hx, rfl, rfl, hb, hml, hown, hts, hK, hvm, hlk, hret, hnm⟩ := C
  obtain ⟨D1, rfl⟩ := D
  have hKs := hK.1.moved hvm.alike
  intro H locs ls c h1 h2 h3 h4
  obtain ⟨dd, ⟨g, hm, hg, hd⟩, hsub, -, -⟩ := WF_put h1 hq
  have hi2 : i < (N : Int) := by omega
  have e : (zI i).toNatClampNeg = i.toNat := zI_nat hi.1 (by omega)
  refine va_iald (D := G.2.1) (cl := CL) (ws := [(a, .inl (G.2.2 0, N, .inl g))]) hx hb hKs (va_P1 (h2.2.2 a _ (hsub a _ hd)).2) 0 0 rfl rfl (zI_in hi.1 hi2 hN) D1 ?_
  rw [e, hg _ (by omega)]
  exact K H locs ls c h1 h2 h3 h4

theorem x_bald {a N M : Nat} {f : Nat → Int} {i : Int} (q : Nat) (C : OKc G X l own nm cc nL ret d mc ms) (D : dx cc pc .baload 1 pc') (hq : ws[q]? = some (ar G 1 a N M f)) (hN : N < 2147483648) (hi : 0 ≤ i ∧ i < (M : Int)) (K : WX G X k n ws pc' lv (.int (zI (f i.toNat)) :: st)) : WX G X k n ws pc lv (.int (zI i) :: .ref a :: st) := by
  obtain ⟨p, l, e, R, s, m, args, below, meth, c0, cf, Q⟩ := X
  obtain ⟨hx, rfl, rfl, hb, hml, hown, hts, hK, hvm, hlk, hret, hnm⟩ := C
  obtain ⟨D1, rfl⟩ := D
  have hKs := hK.1.moved hvm.alike
  intro H locs ls c h1 h2 h3 h4
  obtain ⟨dd, ⟨g, hm, hg, hd⟩, hsub, -, -⟩ := WF_put h1 hq
  have hi2 : i < (N : Int) := by omega
  have e : (zI i).toNatClampNeg = i.toNat := zI_nat hi.1 (by omega)
  refine va_bald (D := G.2.1) (cl := CL) (ws := [(a, .inl (G.2.2 1, N, .inl g))]) hx hb hKs (va_P1 (h2.2.2 a _ (hsub a _ hd)).2) 0 1 rfl rfl (zI_in hi.1 hi2 hN) D1 ?_
  rw [e, hg _ (by omega)]
  exact K H locs ls c h1 h2 h3 h4

theorem x_iast {a N M : Nat} {f : Nat → Int} {i x : Int} {w : Int32} (ws' : List SA) (M' : Nat) (q : Nat) (C : OKc G X l own nm cc nL ret d mc ms) (D : dx cc pc .iastore 1 pc') (hq : ws[q]? = some (ar G 0 a N M f)) (hN : N < 2147483648) (hi : 0 ≤ i ∧ i < (N : Int)) (hM : M' ≤ N ∧ (M' ≤ M ∨ M' = M + 1 ∧ i = (M : Int)))  (hw : ws.set q (ar G 0 a N M' (up f i.toNat x)) = ws') (K : WX G X k n ws' pc' lv st) : WX G X k n ws pc lv (.int (zI x) :: .int (zI i) :: .ref a :: st) := by
  obtain ⟨p, l, e, R, s, m, args, below, meth, c0, cf, Q⟩ := X
  obtain ⟨hx, rfl, rfl, hb, hml, hown, hts, hK, hvm, hlk, hret, hnm⟩ := C
  obtain ⟨D1, rfl⟩ := D
  have hKs := hK.1.moved hvm.alike
  intro H locs ls c h1 h2 h3 h4
  obtain ⟨dd, ⟨g, hm, hg, hd⟩, hsub, -, hset⟩ := WF_put h1 hq
  have e : (zI i).toNatClampNeg = i.toNat := zI_nat hi.1 (by omega)
  obtain ⟨w9, wP, wD, wc, -⟩ := HH_list h2
  obtain ⟨j, hj⟩ := wc a _ (hsub a _ hd)
  refine va_iast (D := G.2.1) (cl := CL) hx hb hKs wP wD (HH_ge (H1 := H) (locs1 := locs) h3) j 0 hj rfl (zI_in hi.1 hi.2 hN) D1 (fun H1 locs1 p1 _ s1 => ?_)
  subst hw
  refine K H1 locs1 ls _ (hset a _ _ _ hd ⟨_, hM.1, fun b hb => ?_, s_up_s _ _ _⟩) (HH_set h2 hj wc p1 s1 (hsub a _ hd)) s1.2.2 h4
  rw [e]
  by_cases hbi : b = i.toNat
  · subst hbi
    rw [up_s]
    simp only [upd, if_true]
    first | rfl | done
  · rw [up_n hbi]
    simp only [upd, hbi, if_false]
    exact hg b (by omega)

theorem x_bast {a N M : Nat} {f : Nat → Int} {i x : Int} {w : Int32} (ws' : List SA) (M' : Nat) (q : Nat) (C : OKc G X l own nm cc nL ret d mc ms) (D : dx cc pc .bastore 1 pc') (hq : ws[q]? = some (ar G 1 a N M f)) (hN : N < 2147483648) (hi : 0 ≤ i ∧ i < (N : Int)) (hM : M' ≤ N ∧ (M' ≤ M ∨ M' = M + 1 ∧ i = (M : Int)))  (hw : ws.set q (ar G 1 a N M' (up f i.toNat w.toInt8.toInt)) = ws') (K : WX G X k n ws' pc' lv st) : WX G X k n ws pc lv (.int w :: .int (zI i) :: .ref a :: st) := by
  obtain ⟨p, l, e, R, s, m, args, below, meth, c0, cf, Q⟩ := X
  obtain ⟨hx, rfl, rfl, hb, hml, hown, hts, hK, hvm, hlk, hret, hnm⟩ := C
  obtain ⟨D1, rfl⟩ := D
  have hKs := hK.1.moved hvm.alike
  intro H locs ls c h1 h2 h3 h4
  obtain ⟨dd, ⟨g, hm, hg, hd⟩, hsub, -, hset⟩ := WF_put h1 hq
  have e : (zI i).toNatClampNeg = i.toNat := zI_nat hi.1 (by omega)
  obtain ⟨w9, wP, wD, wc, -⟩ := HH_list h2
  obtain ⟨j, hj⟩ := wc a _ (hsub a _ hd)
  refine va_bast (D := G.2.1) (cl := CL) hx hb hKs wP wD (HH_ge (H1 := H) (locs1 := locs) h3) j 1 hj rfl (zI_in hi.1 hi.2 hN) D1 (fun H1 locs1 p1 _ s1 => ?_)
  subst hw
  refine K H1 locs1 ls _ (hset a _ _ _ hd ⟨_, hM.1, fun b hb => ?_, s_up_s _ _ _⟩) (HH_set h2 hj wc p1 s1 (hsub a _ hd)) s1.2.2 h4
  rw [e]
  by_cases hbi : b = i.toNat
  · subst hbi
    rw [up_s]
    simp only [upd, if_true]
    exact (vp_nar_byte w).trans (nar_b w)
  · rw [up_n hbi]
    simp only [upd, hbi, if_false]
    exact hg b (by omega)

theorem x_alen {a t N : Nat} {P : SA} (q : Nat) (C : OKc G X l own nm cc nL ret d mc ms) (D : dx cc pc .arraylength 1 pc') (hq : ws[q]? = some P) (ht : t < 7) (hP : ∀ c, P c → ∃ x : vp_A, c a = some (.inl (G.2.2 t, x)) ∧ x.1 = N) (K : WX G X k n ws pc' lv (.int (zI N) :: st)) : WX G X k n ws pc lv (.ref a :: st) := by
  obtain ⟨p, l, e, R, s, m, args, below, meth, c0, cf, Q⟩ := X
  obtain ⟨hx, rfl, rfl, hb, hml, hown, hts, hK, hvm, hlk, hret, hnm⟩ := C
  obtain ⟨D1, rfl⟩ := D
  have hKs := hK.1.moved hvm.alike
  intro H locs ls c h1 h2 h3 h4
  obtain ⟨dd, hPd, hsub, -, -⟩ := WF_put h1 hq
  obtain ⟨x, hd, rfl⟩ := hP dd hPd
  obtain ⟨ty, hty⟩ : ∃ ty, (tysG G)[t]? = some (G.2.2 t, ty) := by
    rcases (by omega : t = 0 ∨ t = 1 ∨ t = 2 ∨ t = 3 ∨ t = 4 ∨ t = 5 ∨ t = 6) with rfl | rfl | rfl | rfl | rfl | rfl | rfl <;> exact ⟨_, rfl⟩
  exact va_alen (D := G.2.1) (cl := CL) (ws := [(a, .inl (G.2.2 t, x))]) hx hb hKs (va_P1 (h2.2.2 a _ (hsub a _ hd)).2) 0 t rfl hty (zI_ofNat x.1) D1 (K H locs ls c h1 h2 h3 h4)
theorem ar_al {t a N M : Nat} {f : Nat → Int} (c : Sto) (h : ar G t a N M f c) : ∃ x : vp_A, c a = some (.inl (G.2.2 t, x)) ∧ x.1 = N := by
  obtain ⟨g, -, -, hd⟩ := h
  exact ⟨_, hd, rfl⟩
theorem arR_al {t a N : Nat} {f : Nat → Option Nat} (c : Sto) (h : arR G t a N f c) : ∃ x : vp_A, c a = some (.inl (G.2.2 t, x)) ∧ x.1 = N := by
  obtain ⟨g, -, hd⟩ := h
  exact ⟨_, hd, rfl⟩
theorem x_aald {a t N : Nat} {f : Nat → Option Nat} {i : Int} {v : Value} (q : Nat) (C : OKc G X l own nm cc nL ret d mc ms) (D : dx cc pc .aaload 1 pc') (hq : ws[q]? = some (arR G t a N f)) (ht : t = 5 ∨ t = 6) (hN : N < 2147483648) (hi : 0 ≤ i ∧ i < (N : Int)) (hv : va_rf (f i.toNat) = v) (K : WX G X k n ws pc' lv (v :: st)) : WX G X k n ws pc lv (.int (zI i) :: .ref a :: st) := by
  obtain ⟨p, l, e, R, s, m, args, below, meth, c0, cf, Q⟩ := X
  obtain ⟨hx, rfl, rfl, hb, hml, hown, hts, hK, hvm, hlk, hret, hnm⟩ := C
  obtain ⟨D1, rfl⟩ := D
  have hKs := hK.1.moved hvm.alike
  intro H locs ls c h1 h2 h3 h4
  obtain ⟨dd, ⟨g, hg, hd⟩, hsub, -, -⟩ := WF_put h1 hq
  have e : (zI i).toNatClampNeg = i.toNat := zI_nat hi.1 (by omega)
  obtain ⟨Cn, hty⟩ : ∃ Cn, (tysG G)[t]? = some (G.2.2 t, .object Cn) := by rcases ht with rfl | rfl <;> exact ⟨_, rfl⟩
  refine va_aldq (D := G.2.1) (cl := CL) (ws := [(a, .inl (G.2.2 t, N, .inr (.inr (.inr (.inr g)))))]) hx hb hKs (va_P1 (h2.2.2 a _ (hsub a _ hd)).2) 0 t rfl hty (zI_in hi.1 hi.2 hN) D1 ?_
  rw [e, hg _ (by omega), hv]
  exact K H locs ls c h1 h2 h3 h4
theorem x_aast {a b t ci N : Nat} {f : Nat → Option Nat} {i : Int} {P2 : SA} (ws' : List SA) (q q2 : Nat) (C : OKc G X l own nm cc nL ret d mc ms) (D : dx cc pc .aastore 1 pc') (hq : ws[q]? = some (arR G t a N f)) (ht : t = 5 ∧ ci = 2 ∨ t = 6 ∧ ci = 8) (hN : N < 2147483648) (hi : 0 ≤ i ∧ i < (N : Int)) (hq2 : ws[q2]? = some P2) (h2 : ∀ c, P2 c → ∃ fs, c b = some (.inr (ci, fs))) (hw : ws.set q (arR G t a N (fun j => if j = i.toNat then some b else f j)) = ws') (K : WX G X k n ws' pc' lv st) : WX G X k n ws pc lv (.ref b :: .int (zI i) :: .ref a :: st) := by
  obtain ⟨p, l, e, R, s, m, args, below, meth, c0, cf, Q⟩ := X
  obtain ⟨hx, rfl, rfl, hb, hml, hown, hts, hK, hvm, hlk, hret, hnm⟩ := C
  obtain ⟨D1, rfl⟩ := D
  have hKs := hK.1.moved hvm.alike
  intro H locs ls c h1 g2 h3 h4
  obtain ⟨d2, hd2, hsub2, -, -⟩ := WF_put h1 hq2
  obtain ⟨fs, hfs⟩ := h2 d2 hd2
  obtain ⟨dd, ⟨g, hg, hd⟩, hsub, -, hset⟩ := WF_put h1 hq
  have e : (zI i).toNatClampNeg = i.toNat := zI_nat hi.1 (by omega)
  obtain ⟨w9, wP, wD, wc, -⟩ := HH_list g2
  obtain ⟨j, hj⟩ := wc a _ (hsub a _ hd)
  obtain ⟨j2, hj2⟩ := wc b _ (hsub2 b _ hfs)
  obtain ⟨r, hr, hty⟩ : ∃ r : vw_C, CL[ci]? = some r ∧ (tysG G)[t]? = some (G.2.2 t, .object r.1) := by rcases ht with ⟨rfl, rfl⟩ | ⟨rfl, rfl⟩ <;> exact ⟨_, rfl, rfl⟩
  refine va_astq (D := G.2.1) (cl := CL) hx hb hKs wP wD (HH_ge (H1 := H) (locs1 := locs) h3) j t j2 ci hj hty hj2 hr (zI_in hi.1 hi.2 hN) D1 (fun H1 locs1 p1 _ s1 => ?_)
  subst hw
  refine K H1 locs1 ls _ (hset a _ _ _ hd ⟨_, fun x hx => ?_, s_up_s _ _ _⟩) (HH_set g2 hj wc p1 s1 (hsub a _ hd)) s1.2.2 h4
  rw [e]
  show (if x = i.toNat then some b else g x) = _
  rw [hg x hx]
theorem x_new {idx ci N : Nat} {sh : List (Option Value)} (C : OKc G X l own nm cc nL ret d mc ms) (g : NF own idx ci N sh) (D : dx cc pc (.new idx) 3 pc') (hk : k + 1 ≤ mc) (hn : n + N ≤ ms) (K : ∀ a : Nat, WX G X (k + 1) (n + N) (ob a ci sh (fun _ => 0) :: ws) pc' lv (.ref a :: st)) : WX G X k n ws pc lv st := by
  obtain ⟨p, l, e, R, s, m, args, below, meth, c0, cf, Q⟩ := X
  obtain ⟨hx, rfl, rfl, hb, hml, hown, hts, hK, hvm, hlk, hret, hnm⟩ := C
  obtain ⟨D1, rfl⟩ := D
  have hKs := hK.1.moved hvm.alike
  intro H locs ls c h1 h2 h3 h4
  obtain ⟨C0, T, ty, ⟨hCL, hin, hty, -⟩, hcl, hins, hini, hdef⟩ := g
  have hKn := hKs.1 ci _ hCL
  refine W.newcK hx hb hown (hts _ hcl) (hts _ hins) (hts _ hini) rfl D1 hk hn hKn.2.1 rfl (fun H1 kC hkC e1 z1 o1 => ?_)
  exact K H.size H1 locs ls _ (WF_push h1 (HH_none h2 (Nat.le_refl _)) (s_up_s _ _ _)) (HH_new h2 (by omega) o1 ⟨_, hCL, (u_born ty hts hin hKn hkC e1 hty).to hdef⟩) h3 h4

theorem x_newI {N : Nat} {i : Int} (C : OKc G X l own nm cc nL ret d mc ms) (hA : Cond.arrayClass .int ∈ TSg) (D : dx cc pc (.newarray .int) 2 pc') (hi : i = (N : Int)) (hN : N ≤ 60000) (hk : k + 1 ≤ mc) (hn : n + N ≤ ms) (K : ∀ a : Nat, WX G X (k + 1) (n + N) (ar G 0 a N N (fun _ => 0) :: ws) pc' lv (.ref a :: st)) : WX G X k n ws pc lv (.int (zI i) :: st) := by
  obtain ⟨p, l, e, R, s, m, args, below, meth, c0, cf, Q⟩ := X
  obtain ⟨hx, rfl, rfl, hb, hml, hown, hts, hK, hvm, hlk, hret, hnm⟩ := C
  obtain ⟨D1, rfl⟩ := D
  have hKs := hK.1.moved hvm.alike
  intro H locs ls c h1 h2 h3 h4
  subst hi
  have e : (zI (N : Int)).toNatClampNeg = N := zI_nat (by omega) (by omega)
  have hneg : ¬ zI (N : Int) < 0 := by rw [zI_0, zI_lt ⟨by omega, by omega⟩ ⟨by omega, by omega⟩]; omega
  refine va_newaK (atype := .int) hx hb (hts _ hA) rfl D1 rfl hneg e (Nat.le_trans (Nat.mul_le_mul_left N (show componentBytes .int ≤ 8 by decide)) (by omega)) hk hn rfl (fun H1 cA e1 z1 o1 hAr hNm => ?_)
  have hcA : cA = G.2.2 0 := by
    have h9 : s.vm.findClass ("[" ++ (FieldType.int).toString) = some (G.2.2 0) := (hKs.2 0 _ rfl).2
    exact Option.some.inj (hNm.symm.trans h9)
  subst hcA
  exact K H.size H1 locs ls _ (WF_push (e := .inl (G.2.2 0, N, .inl (fun _ => 0))) h1 (HH_none h2 (Nat.le_refl _)) ⟨fun _ => 0, Nat.le_refl _, fun _ _ => rfl, s_up_s _ _ _⟩) (HH_new h2 (by omega) o1 e1) h3 h4

theorem x_newB {N : Nat} {i : Int} (C : OKc G X l own nm cc nL ret d mc ms) (hA : Cond.arrayClass .byte ∈ TSg) (D : dx cc pc (.newarray .byte) 2 pc') (hi : i = (N : Int)) (hN : N ≤ 60000) (hk : k + 1 ≤ mc) (hn : n + N ≤ ms) (K : ∀ a : Nat, WX G X (k + 1) (n + N) (ar G 1 a N N (fun _ => 0) :: ws) pc' lv (.ref a :: st)) : WX G X k n ws pc lv (.int (zI i) :: st) := by
  obtain ⟨p, l, e, R, s, m, args, below, meth, c0, cf, Q⟩ := X
  obtain ⟨hx, rfl, rfl, hb, hml, hown, hts, hK, hvm, hlk, hret, hnm⟩ := C
  obtain ⟨D1, rfl⟩ := D
  have hKs := hK.1.moved hvm.alike
  intro H locs ls c h1 h2 h3 h4
  subst hi
  have e : (zI (N : Int)).toNatClampNeg = N := zI_nat (by omega) (by omega)
  have hneg : ¬ zI (N : Int) < 0 := by rw [zI_0, zI_lt ⟨by omega, by omega⟩ ⟨by omega, by omega⟩]; omega
  refine va_newaK (atype := .byte) hx hb (hts _ hA) rfl D1 rfl hneg e (Nat.le_trans (Nat.mul_le_mul_left N (show componentBytes .byte ≤ 8 by decide)) (by omega)) hk hn rfl (fun H1 cA e1 z1 o1 hAr hNm => ?_)
  have hcA : cA = G.2.2 1 := by
    have h9 : s.vm.findClass ("[" ++ (FieldType.byte).toString) = some (G.2.2 1) := (hKs.2 1 _ rfl).2
    exact Option.some.inj (hNm.symm.trans h9)
  subst hcA
  exact K H.size H1 locs ls _ (WF_push (e := .inl (G.2.2 1, N, .inl (fun _ => 0))) h1 (HH_none h2 (Nat.le_refl _)) ⟨fun _ => 0, Nat.le_refl _, fun _ _ => rfl, s_up_s _ _ _⟩) (HH_new h2 (by omega) o1 e1) h3 h4

theorem x_anew {idx t N : Nat} {Cn : String} {i : Int} (C : OKc G X l own nm cc nL ret d mc ms)  (hcl : Cond.classLink own idx Cn ∈ TSg) (ht : t = 5 ∧ Cn = "EchoLine$Line" ∨ t = 6 ∧ Cn = "EchoLine$Trunk") (D : dx cc pc (.anewarray idx) 3 pc') (hi : i = (N : Int)) (hN : N ≤ 60000) (hk : k + 1 ≤ mc) (hn : n + N ≤ ms) (K : ∀ a : Nat, WX G X (k + 1) (n + N) (arR G t a N (fun _ => none) :: ws) pc' lv (.ref a :: st)) : WX G X k n ws pc lv (.int (zI i) :: st) := by
  obtain ⟨p, l, e, R, s, m, args, below, meth, c0, cf, Q⟩ := X
  obtain ⟨hx, rfl, rfl, hb, hml, hown, hts, hK, hvm, hlk, hret, hnm⟩ := C
  obtain ⟨D1, rfl⟩ := D
  have hKs := hK.1.moved hvm.alike
  intro H locs ls c h1 h2 h3 h4
  subst hi
  have e : (zI (N : Int)).toNatClampNeg = N := zI_nat (by omega) (by omega)
  have hneg : ¬ zI (N : Int) < 0 := by rw [zI_0, zI_lt ⟨by omega, by omega⟩ ⟨by omega, by omega⟩]; omega
  have hA : va_AO Cn G.1 := by
    rcases ht with ⟨-, rfl⟩ | ⟨-, rfl⟩
    · exact hK.2.2.1
    · exact hK.2.2.2
  refine W.anew hx hb hown (hts _ hcl) (va_AO.use (va_AO.moved hvm.alike hA)) rfl D1 rfl hneg (by rw [e]; omega) hk (by rw [e]; exact hn) (fun cA kA comp f1 f2 f3 f4 => ?_)
  have hcA : cA = G.2.2 t := by
    rcases ht with ⟨rfl, rfl⟩ | ⟨rfl, rfl⟩
    · obtain ⟨k9, c9, -, -, -, h9⟩ := (hKs.2 5 _ rfl).2
      exact Option.some.inj (f1.symm.trans h9)
    · obtain ⟨k9, c9, -, -, -, h9⟩ := (hKs.2 6 _ rfl).2
      exact Option.some.inj (f1.symm.trans h9)
  subst hcA
  rw [e]
  refine K H.size _ locs ls _ (WF_push (e := .inl (G.2.2 t, N, .inr (.inr (.inr (.inr (fun _ => none)))))) h1 (HH_none h2 (Nat.le_refl _)) ⟨fun _ => none, fun _ _ => rfl, s_up_s _ _ _⟩) (HH_new h2 (by simp) (fun q hq => by rw [Array.getElem?_push, if_neg (Nat.ne_of_lt hq)]) ?_) h3 h4
  show (H.push _)[H.size]? = some (vp_cell _ _)
  rw [vp_cell_q, Array.getElem?_push_size, ← arrV_new]
  rfl
end Rules
