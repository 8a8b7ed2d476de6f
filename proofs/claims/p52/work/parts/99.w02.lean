/-! What strings in the making need beyond: a negative number, a copy of a whole array, a copy out of a string that lay there at the start. -/
def w_ones : List Int := (List.range 100).map (fun j => 48 + ((j : Nat) : Int) % 10)
def w_tens : List Int := (List.range 100).map (fun j => 48 + ((j : Nat) : Int) / 10)
/-- a table of bytes that a class holds from the start on -/
def tabG (G : Gm) (nm : String) (w : List Int) : Prop := ∃ t : Nat, va_Z "java/lang/Integer" nm "[B" (.ref t) (old G) G.1 G.1.heap ∧ va_T .byte t w.length (fun j => .int (zI (w.getD j 0))) (old G) G.1 G.1.heap
def KD (G : Gm) : Prop := KS G ∧ tabG G "DigitOnes" w_ones ∧ tabG G "DigitTens" w_tens ∧ va_Nw (.castable "[B" "java/lang/Cloneable") G.1 ∧ va_Nw (.privateMethod yJ5_newCapacity_0f7a4) G.1 ∧ va_Nw (.privateMethod yJ5_putStringAt_47b60) G.1 ∧ va_Nw (.privateMethod yJ5_inflateIfNeededFor_a7421) G.1
theorem tab_str {G : Gm} {t : Nat} {w : List Int} {ws : List SA} (h : va_T .byte t w.length (fun j => .int (zI (w.getD j 0))) (old G) G.1 G.1.heap) : ∀ s : State, G.1.WarmedH s.vm → ∀ cf c H, WF ws cf c → HH G c H → strV s H t w :=
  fun s hs cf c H hw hH => ((h.moved hs.alike).kept hH.old).narrow (fun _ z => z.elim)
theorem cl_clone : Cond.methodLink RJ7 310 ⟨"[B", "clone", "()Ljava/lang/Object;"⟩ ∈ TSg ∧ Cond.sameMethod "[B" "java/lang/Object" "clone" "()Ljava/lang/Object;" ∈ TSg ∧ Cond.native ⟨"java/lang/Object", "clone", "()Ljava/lang/Object;"⟩ ∈ TSg ∧ Cond.instanceMethod ⟨"java/lang/Object", "clone", "()Ljava/lang/Object;"⟩ ∈ TSg ∧ Cond.selects "[B" ⟨"[B", "clone", "()Ljava/lang/Object;"⟩ ⟨"java/lang/Object", "clone", "()Ljava/lang/Object;"⟩ ∈ TSg := ⟨TS_2 231 rfl rfl, TS_2 232 rfl rfl, TS_2 233 rfl rfl, TS_2 234 rfl rfl, TS_2 235 rfl rfl⟩
section ZC
variable {p : Program} {l : Launch} {e : Env} {R : Room} {s : State} {m : MethodId} {args : Array Value} {below : List Frame} {meth : Method} {c : Code} {H : Heap} {locs : List Loc} {cells slots : Nat} {Q : State → Prop}
variable {cc : ByteArray} {pc : Nat} {ls : Array Slot} {rest : List Value} {D : va_G} {cl : List vw_C} {A : Nat → Prop} {a : Nat} {tys : List (ClassId × FieldType)} {ws : va_W} {H0 : Heap}
/-- bytes of a string that can be read come into an array of the system's own -/
theorem zc_copyT (hx : p.tables.exec = Jvm.exec) (hb : c.code = cc) (hml : c.maxLocals = ls.size) {own : String} {index : Nat} (hown : s.vm.findClass own = some m.cls) (hl : (Cond.methodLink own index arraycopyName).before args s = true) (hn : (Cond.native arraycopyName).before args s = true) (hst : (Cond.static arraycopyName).before args s = true) (hi : (Cond.initialized "java/lang/System").before args s = true)
    (hK : va_K D cl tys s) (hP : va_P D cl ws H) (hD : va_D A ws) (hS : va_S A H0 H locs) {b0 n0 : Nat} {f : Nat → Int32} {B : Nat → Prop} (hT0 : va_T .byte b0 n0 (fun j => .int (f j)) B s H) (q1 t1 : Nat) {c1 : ClassId} {n1 : Nat} {g : Nat → Int32} (ha1 : ws[q1]? = some (a, .inl (c1, n1, .inl g))) (ht1 : tys[t1]? = some (c1, .byte))
    {sp dp n : Int32} (h1 : ¬ sp < 0) (h2 : ¬ dp < 0) (h3 : ¬ n < 0) (h4 : sp.toNatClampNeg + n.toNatClampNeg ≤ n0) (h5 : dp.toNatClampNeg + n.toNatClampNeg ≤ n1) (hfit : ∀ i : Nat, i < n.toNatClampNeg → fits .byte (.int (f (sp.toNatClampNeg + i))) = true)
    (hfr : 1 ≤ R.frames) (hlo : (rest.map fun v => v.category).sum + (nativeFrameWords "java/lang/System" "arraycopy" 5 + 11) ≤ R.locals) (hdg : decode cc pc = .ok (.invokestatic index, 3))
    (K : ∀ (H1 : Heap) (locs1 : List Loc), va_P D cl (ws.set q1 (a, .inl (c1, n1, .inl (va_cpy f g sp.toNatClampNeg dp.toNatClampNeg n.toNatClampNeg)))) H1 → va_S A H0 H1 locs1 → W p l e R s m args below meth c H1 locs1 cells slots Q (F0 m (pc + 3) ls rest)) : W p l e R s m args below meth c H locs cells slots Q (F0 m pc ls (.int n :: .int dp :: .ref a :: .int sp :: .ref b0 :: rest)) := by
  have pos : ∀ z : Int32, ¬ z < 0 → z.toInt = (z.toNatClampNeg : Int) := fun z hz => by
    have hz0 : (0 : Int) ≤ z.toInt := by simpa using Int32.le_iff_toInt_le.mp (Int32.not_lt.mp hz)
    show z.toInt = ((z.toInt.toNat : Nat) : Int)
    omega
  obtain ⟨scr, g1, ⟨g6, k0, hk0, cm0, hkk0⟩, g3, g4, -, g5, -⟩ := hT0
  have hc1 : H[a]? = some (vp_cell c1 (n1, .inl g)) := hP q1 _ ha1
  have hla : a < H.size := (Array.getElem?_eq_some_iff.mp hc1).1
  obtain ⟨-, k1, hk1, cm1, hkk1⟩ := (hK.2 t1 _ ht1).1 n1 (fun j => .int (g j))
  intro T hT X
  obtain ⟨vm', X', step⟩ := X.arraycopy hx hown hl hn hst hi (src := b0) (dst := a) (cs := scr) (cd := vp_cell c1 (n1, .inl g)) (srcPos := sp) (destPos := dp) (n := n) (by rw [hT]; exact g1) (by rw [hT]; exact hc1) g6 (fun _ h => by cases h) g3 (fun h => by cases h) hk0 hk1 hkk0 hkk1 (by simp [refKind]) h1 h2 h3
    (by rw [pos sp h1, pos n h3]; omega) (by rw [pos dp h2, pos n h3]; show ¬ _ > ((arrV c1 n1 (fun j => .int (g j))).slots.size : Int); rw [arrV_size]; omega)
    (fun _ _ i hi => by
      have e9 : scr.slots.getD (sp.toNatClampNeg + i) .null = .int (f (sp.toNatClampNeg + i)) := by rw [Array.getD_eq_getD_getElem?, g5 _ (by omega)]; rfl
      rw [e9]
      exact ⟨hfit i hi, trivial⟩)
    (g := F0 m pc ls (.int n :: .int dp :: .ref a :: .int sp :: .ref b0 :: rest)) rfl (by rw [hml]) (rest := rest) rfl (by rw [hb]; exact hdg) hfr (by show 2 * 0 + _ + _ ≤ _; omega)
  have e1 : copied scr (vp_cell c1 (n1, .inl g)) sp dp n = vp_cell c1 (n1, .inl (va_cpy f g sp.toNatClampNeg dp.toNatClampNeg n.toNatClampNeg)) := va_copiedX (fun z => .int z) scr c1 f g g5 h4
  rw [e1] at X' step
  generalize hC : vp_cell c1 (n1, .inl (va_cpy f g sp.toNatClampNeg dp.toNatClampNeg n.toNatClampNeg)) = C1 at X' step
  have hh : ((T.setVm vm').setCell a C1).heap = H.setIfInBounds a C1 := by rw [← hT]; rfl
  have oq : ∀ q : Nat, q ≠ a → (H.setIfInBounds a C1)[q]? = H[q]? := fun q hq => by simp [Array.getElem?_setIfInBounds, Ne.symm hq]
  have hA := hD.2 q1 _ ha1
  obtain ⟨t, a1, b1⟩ := K _ _ (hP.set hD ha1 (show (H.setIfInBounds a C1)[a]? = some _ by rw [← hC]; simp [Array.getElem?_setIfInBounds, hla]) oq) ⟨by simp; exact hS.1, fun q u v => (oq q (fun z => v (by rw [z]; exact hA))).trans (hS.2.1 q u v), fun q hq => by
      rcases List.mem_append.mp hq with h | h
      · exact hS.2.2 q h
      · obtain ⟨z, -, hz⟩ := List.mem_map.mp h
        rw [← hz]
        exact hA⟩ _ hh X'
  exact ⟨t, step t a1, b1⟩
end ZC
section Rules
variable {G : Gm} {X : Cx} {l : Launch} {own nm : String} {cc : ByteArray} {nL : Nat} {ret : Option FieldType} {d mc ms : Nat} {k n : Nat} {ws : List SA} {pc pc' len : Nat} {lv : List (Option Value)} {st : List Value}
theorem x_ineg {a : Int} (C : OKc G X l own nm cc nL ret d mc ms) (D : dx cc pc .ineg 1 pc') (K : WX G X k n ws pc' lv (.int (zI (-a)) :: st)) : WX G X k n ws pc lv (.int (zI a) :: st) := by
  obtain ⟨p, l, e, R, s, m, args, below, meth, c0, cf, Q⟩ := X
  obtain ⟨hx, rfl, rfl, hb, hml, hown, hts, hK, hvm, hlk, hret, hnm⟩ := C
  obtain ⟨D1, rfl⟩ := D
  intro H locs ls c h1 h2 h3 h4
  refine lv_ineg hx hb D1 ?_
  rw [show -(zI a) = zI (-a) from (Int32.ofInt_neg a).symm]
  exact K H locs ls c h1 h2 h3 h4
theorem x_clone {a N : Nat} {f : Nat → Int} (q : Nat) (C : OKc G X l RJ7 nm cc nL ret d mc ms) (hD : KD G) (D : dx cc pc (.invokevirtual 310) 3 pc') (hq : ws[q]? = some (ar G 1 a N N f)) (hf : ∀ j : Nat, j < N → 0 ≤ f j ∧ f j < 128) (hL : lv.length = nL) (hroom : (st.map fun v => v.category).sum ≤ 8) (hd : 1 ≤ d) (hk : k + 1 ≤ mc) (hn : n + N ≤ ms) (K : ∀ b : Nat, WX G X (k + 1) (n + N) (ar G 1 b N N f :: ws) pc' lv (.ref b :: st)) : WX G X k n ws pc lv (.ref a :: st) := by
  obtain ⟨p, l, e, R, s, m, args, below, meth, c0, cf, Q⟩ := X
  obtain ⟨hx, rfl, rfl, hb, hml, hown, hts, hK, hvm, hlk, hret, hnm⟩ := C
  obtain ⟨D1, rfl⟩ := D
  have hKs := hK.1.moved hvm.alike
  try dsimp only at hx hb hml hown hts hvm hlk hret hnm hKs
  intro H locs ls c h1 h2 h3 h4
  obtain ⟨d0, ⟨g0, hm0, hg0, hd0⟩, hsub0, -, -⟩ := WF_put h1 hq
  obtain ⟨w9, wP, wD, wc, wx⟩ := HH_list h2
  obtain ⟨j0, hj0⟩ := wc a _ (hsub0 a _ hd0)
  have hw := hKs.2 1 (G.2.2 1, .byte) rfl
  refine va_clone (D := G.2.1) (cl := CL) (A := fun y => G.1.heap.size ≤ y) (H0 := H) hx hb (by rw [hml, h4.1, hL]) hown (hts _ cl_clone.1) (hts _ cl_clone.2.1) (hts _ cl_clone.2.2.1) (hts _ cl_clone.2.2.2.1) (hts _ cl_clone.2.2.2.2) (va_Nw.warmC hvm hD.2.2.2.1) hKs wP wD (HH_ge (H1 := H) (locs1 := locs) h3) (fun y hy => Nat.le_trans h2.1 hy) j0 1 (cA := G.2.2 1) (x := (N, .inl g0)) (ty := .byte) hj0 rfl (va_nm_byte hw.2) (va_fit (fun i hi => by rw [hg0 _ hi]; exact fits_b (hf i hi))) hd (by show _ + 14 ≤ 30 * d + 130; omega) hk hn D1 (fun b H1 _ p1 d1 s1 => ?_)
  have hlast : (w9 ++ [(b, .inl (G.2.2 1, N, .inl g0))])[w9.length]? = some (b, .inl (G.2.2 1, N, .inl g0)) := by rw [List.getElem?_append_right (Nat.le_refl _), Nat.sub_self]; rfl
  have hcn : c b = none := by
    cases hc : c b with
    | none => rfl
    | some e9 =>
      obtain ⟨j, hj⟩ := wc b e9 hc
      have hjl := (List.getElem?_eq_some_iff.mp hj).1
      have := d1.1 j w9.length (b, e9) _ (by rw [List.getElem?_append_left hjl]; exact hj) hlast rfl
      omega
  refine K b H1 locs ls _ (WF_push h1 hcn ⟨g0, hm0, hg0, s_up_s _ _ _⟩) ⟨Nat.le_trans h2.1 s1.1, fun y hy => (s1.2.1 y (Nat.lt_of_lt_of_le hy h2.1) (Nat.not_le.mpr hy)).trans (h2.2.1 y hy), fun y x hx => ?_⟩ h3 h4
  by_cases e9 : y = b
  · subst e9
    rw [s_up_s] at hx
    cases hx
    exact ⟨d1.2 _ _ hlast, p1 _ _ hlast⟩
  · rw [s_up_n e9] at hx
    obtain ⟨j, hj⟩ := wc y x hx
    have hjl := (List.getElem?_eq_some_iff.mp hj).1
    exact ⟨(h2.2.2 y x hx).1, p1 j _ (by rw [List.getElem?_append_left hjl]; exact hj)⟩
theorem x_castB {a N M : Nat} {f : Nat → Int} (q : Nat) (C : OKc G X l RJ7 nm cc nL ret d mc ms) (D : dx cc pc (.checkcast 311) 3 pc') (hq : ws[q]? = some (ar G 1 a N M f)) (K : WX G X k n ws pc' lv (.ref a :: st)) : WX G X k n ws pc lv (.ref a :: st) := by
  obtain ⟨p, l, e, R, s, m, args, below, meth, c0, cf, Q⟩ := X
  obtain ⟨hx, rfl, rfl, hb, hml, hown, hts, hK, hvm, hlk, hret, hnm⟩ := C
  obtain ⟨D1, rfl⟩ := D
  have hKs := hK.1.moved hvm.alike
  try dsimp only at hx hb hml hown hts hvm hlk hret hnm hKs
  intro H locs ls c h1 h2 h3 h4
  obtain ⟨d0, ⟨g0, hm0, hg0, hd0⟩, hsub0, -, -⟩ := WF_put h1 hq
  have hw := hKs.2 1 (G.2.2 1, .byte) rfl
  exact va_castA (D := G.2.1) (cl := CL) (ws := [(a, .inl (G.2.2 1, N, .inl g0))]) hx hb hown (hts _ cl_RJ7_311) (va_P1 (h2.2.2 a _ (hsub0 a _ hd0)).2) 0 rfl (va_nm_byte hw.2) D1 (K H locs ls c h1 h2 h3 h4)
/-- bytes of a string come into an array -/
theorem x_copyK {idx b0 b N1 M1 : Nat} {w : List Int} {g : Nat → Int} {dp z : Int} (ws' : List SA) (M' : Nat) (q1 : Nat) (C : OKc G X l own nm cc nL ret d mc ms) (S : Cond.methodLink own idx arraycopyName ∈ TSg) (S2 : Cond.native arraycopyName ∈ TSg ∧ Cond.static arraycopyName ∈ TSg ∧ Cond.initialized "java/lang/System" ∈ TSg) (D : dx cc pc (.invokestatic idx) 3 pc') (hF : ∀ s : State, G.1.WarmedH s.vm → ∀ cf c H, WF ws cf c → HH G c H → strV s H b0 w) (hw7 : ∀ x ∈ w, 0 ≤ x ∧ x < 128) (hq1 : ws[q1]? = some (ar G 1 b N1 M1 g)) (hN : w.length < 2147483648 ∧ N1 < 2147483648) (hz : z = (w.length : Int)) (hs : 0 ≤ dp) (h9 : dp + z ≤ (N1 : Int)) (hM : (M' : Int) ≤ dp + z ∧ dp ≤ (M1 : Int) ∨ M' ≤ M1) (hL : lv.length = nL) (hroom : (st.map fun v => v.category).sum ≤ 8) (hd : 2 ≤ d) (hw : ws.set q1 (ar G 1 b N1 M' (fun j => if dp.toNat ≤ j ∧ j < dp.toNat + w.length then w.getD (j - dp.toNat) 0 else g j)) = ws') (K : WX G X k n ws' pc' lv st) : WX G X k n ws pc lv (.int (zI z) :: .int (zI dp) :: .ref b :: .int (zI 0) :: .ref b0 :: st) := by
  subst hz
  obtain ⟨p, l, e, R, s, m, args, below, meth, c0, cf, Q⟩ := X
  obtain ⟨hx, rfl, rfl, hb, hml, hown, hts, hK, hvm, hlk, hret, hnm⟩ := C
  obtain ⟨D1, rfl⟩ := D
  have hKs := hK.1.moved hvm.alike
  try dsimp only at hx hb hml hown hts hvm hlk hret hnm hKs
  intro H locs ls c h1 h2 h3 h4
  obtain ⟨d1, ⟨g1, hm1, hg1, hd1⟩, hsub1, -, hset⟩ := WF_put h1 hq1
  obtain ⟨w9, wP, wD, wc, -⟩ := HH_list h2
  obtain ⟨j1, hj1⟩ := wc b _ (hsub1 b _ hd1)
  have es : (zI 0).toNatClampNeg = 0 := zI_nat (by decide) (by decide)
  have ed : (zI dp).toNatClampNeg = dp.toNat := zI_nat hs (by omega)
  have ez : (zI (w.length : Int)).toNatClampNeg = w.length := (zI_nat (by omega) (by omega)).trans (by omega)
  have nn : ∀ x : Int, 0 ≤ x ∧ x < 2147483648 → ¬ zI x < 0 := fun x hx q => by rw [zI_0, zI_lt ⟨by omega, by omega⟩ ⟨by omega, by omega⟩] at q; omega
  refine zc_copyT (D := G.2.1) (cl := CL) (f := fun j => zI (w.getD j 0)) hx hb (by rw [hml, h4.1, hL]) hown (hts _ S) (hts _ S2.1) (hts _ S2.2.1) (hts _ S2.2.2) hKs wP wD (HH_ge (H1 := H) (locs1 := locs) h3) (hF s hvm _ _ H h1 h2) j1 1 hj1 rfl (nn 0 ⟨by decide, by decide⟩) (nn dp ⟨hs, by omega⟩) (nn _ ⟨by omega, by omega⟩) (by rw [es, ez]; omega) (by rw [ed, ez]; omega) (fun i hi => by rw [es]; exact fits_b (getD_r hw7 _)) (by show 1 ≤ d; omega) (by
    have : nativeFrameWords "java/lang/System" "arraycopy" 5 + 11 ≤ 160 := by decide +kernel
    show _ ≤ 30 * d + 130
    omega) D1 (fun H1 locs1 p1 s1 => ?_)
  subst hw
  refine K H1 locs1 ls _ (hset b _ _ _ hd1 ⟨_, by omega, fun j hj => ?_, s_up_s _ _ _⟩) (HH_set h2 hj1 wc p1 s1 (hsub1 b _ hd1)) s1.2.2 h4
  rw [es, ed, ez]
  unfold va_cpy
  dsimp only
  by_cases hh : dp.toNat ≤ j ∧ j < dp.toNat + w.length
  · rw [if_pos hh, if_pos hh, Nat.zero_add]
  · rw [if_neg hh, if_neg hh]
    exact hg1 _ (by omega)
theorem x_idivR {a b : Int32} (C : OKc G X l own nm cc nL ret d mc ms) (D : dx cc pc .idiv 1 pc') (hb0 : ¬ b = 0) (K : WX G X k n ws pc' lv (.int (a / b) :: st)) : WX G X k n ws pc lv (.int b :: .int a :: st) := by
  obtain ⟨p, l, e, R, s, m, args, below, meth, c0, cf, Q⟩ := X
  obtain ⟨hx, rfl, rfl, hb, hml, hown, hts, hK, hvm, hlk, hret, hnm⟩ := C
  obtain ⟨D1, rfl⟩ := D
  exact fun H locs ls c h1 h2 h3 h4 => lv_idiv hx hb D1 hb0 (K H locs ls c h1 h2 h3 h4)
end Rules
theorem w_ones_len : w_ones.length = 100 := by decide +kernel
theorem w_tens_len : w_tens.length = 100 := by decide +kernel
theorem ones_at {i : Int} (h : 0 ≤ i ∧ i < 100) : w_ones.getD i.toNat 0 = 48 + i % 10 := by
  have h0 : ∀ k : Fin 100, w_ones.getD (k : Nat) 0 = 48 + ((k : Nat) : Int) % 10 := by decide +kernel
  have h1 := h0 ⟨i.toNat, by omega⟩
  rw [show (((⟨i.toNat, by omega⟩ : Fin 100) : Nat) : Int) = i by show ((i.toNat : Nat) : Int) = i; omega] at h1
  exact h1
theorem tens_at {i : Int} (h : 0 ≤ i ∧ i < 100) : w_tens.getD i.toNat 0 = 48 + i / 10 := by
  have h0 : ∀ k : Fin 100, w_tens.getD (k : Nat) 0 = 48 + ((k : Nat) : Int) / 10 := by decide +kernel
  have h1 := h0 ⟨i.toNat, by omega⟩
  rw [show (((⟨i.toNat, by omega⟩ : Fin 100) : Nat) : Int) = i by show ((i.toNat : Nat) : Int) = i; omega] at h1
  exact h1
theorem i8_d {v : Int} (h : 0 ≤ v ∧ v < 128) : (zI v).toInt8.toInt = v := by
  have h0 : ∀ k : Fin 128, (zI ((k : Nat) : Int)).toInt8.toInt = ((k : Nat) : Int) := by decide +kernel
  have h1 := h0 ⟨v.toNat, by omega⟩
  rw [show (((⟨v.toNat, by omega⟩ : Fin 128) : Nat) : Int) = v by show ((v.toNat : Nat) : Int) = v; omega] at h1
  exact h1
theorem div_h {x : Int} (h : 100 ≤ x ∧ x < 200) : zI (-x) / zI 100 = zI (-1) := by
  have h0 : ∀ k : Fin 100, zI (-(((k : Nat) : Int) + 100)) / zI 100 = zI (-1) := by decide +kernel
  have h1 := h0 ⟨(x - 100).toNat, by omega⟩
  rw [show (((⟨(x - 100).toNat, by omega⟩ : Fin 100) : Nat) : Int) + 100 = x by show (((x - 100).toNat : Nat) : Int) + 100 = x; omega] at h1
  exact h1
/-- the digits of a number, and how many they are -/
def dl (v : Int) : Int := if v < 10 then 1 else if v < 100 then 2 else 3
def dg (v : Int) : List Int := if v < 10 then [48 + v] else if v < 100 then [48 + v / 10, 48 + v % 10] else [49, 48 + (v - 100) / 10, 48 + (v - 100) % 10]
theorem dg_len (v : Int) : ((dg v).length : Int) = dl v := by
  unfold dg dl
  split
  · rfl
  · split <;> rfl
theorem dg_r {v : Int} (h : 0 ≤ v ∧ v ≤ 127) : ∀ x ∈ dg v, 0 ≤ x ∧ x < 128 := by
  unfold dg
  intro x hx
  split at hx
  · rcases List.mem_singleton.mp hx with rfl
    omega
  · split at hx
    · simp only [List.mem_cons, List.not_mem_nil, or_false] at hx
      omega
    · simp only [List.mem_cons, List.not_mem_nil, or_false] at hx
      omega
theorem oF_2 {w : List Int} {a b : Int} : up (up (oF w) (w.length + 1) b) w.length a = oF (w ++ [a, b]) := by
  funext j
  show _ = (w ++ [a, b]).getD j 0
  rw [List.getD_eq_getElem?_getD]
  by_cases h : j < w.length
  · rw [up_n (by omega), up_n (by omega), List.getElem?_append_left h]
    show w.getD j 0 = _
    rw [List.getD_eq_getElem?_getD]
  · rw [List.getElem?_append_right (by omega)]
    obtain ⟨i, rfl⟩ : ∃ i, j = w.length + i := ⟨j - w.length, by omega⟩
    rw [show w.length + i - w.length = i by omega]
    match i with
    | 0 => exact up_s _ _ _
    | 1 => rw [up_n (by omega), up_s]; rfl
    | i + 2 =>
      rw [up_n (by omega), up_n (by omega)]
      show w.getD _ 0 = _
      rw [List.getD_eq_getElem?_getD, List.getElem?_eq_none (by omega)]
      rfl
theorem oF_3 {w : List Int} {a b c : Int} : up (up (up (oF w) (w.length + 2) c) (w.length + 1) b) w.length a = oF (w ++ [a, b, c]) := by
  funext j
  show _ = (w ++ [a, b, c]).getD j 0
  rw [List.getD_eq_getElem?_getD]
  by_cases h : j < w.length
  · rw [up_n (by omega), up_n (by omega), up_n (by omega), List.getElem?_append_left h]
    show w.getD j 0 = _
    rw [List.getD_eq_getElem?_getD]
  · rw [List.getElem?_append_right (by omega)]
    obtain ⟨i, rfl⟩ : ∃ i, j = w.length + i := ⟨j - w.length, by omega⟩
    rw [show w.length + i - w.length = i by omega]
    match i with
    | 0 => exact up_s _ _ _
    | 1 => rw [up_n (by omega), up_s]; rfl
    | 2 => rw [up_n (by omega), up_n (by omega), up_s]; rfl
    | i + 3 =>
      rw [up_n (by omega), up_n (by omega), up_n (by omega)]
      show w.getD _ 0 = _
      rw [List.getD_eq_getElem?_getD, List.getElem?_eq_none (by omega)]
      rfl
