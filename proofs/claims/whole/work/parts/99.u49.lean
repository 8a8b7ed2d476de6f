/-! The law's loop: what both sides hold between two calls. -/
def NamOk (n : Net) : Prop := ∀ j, 0 ≤ j → j < n (-1) 0 → isNm (n j 0)
def GOK (b : Int) (n : Net) : Prop := NetOk b n ∧ NamOk n
theorem GOK.mono {b b' : Int} {n : Net} (h : GOK b n) (hb : b ≤ b') : GOK b' n := ⟨NetOk_mono h.1 hb, h.2⟩
/-- the addresses: script, class, model, the two rows of answers, and what hangs at the class -/
def LFx : Type := (Nat → Nat) × (Nat → Int32) × (Int → Nat) × (Int → Nat) × (Nat → Nat)
abbrev LFx.b (x : LFx) : Nat := x.1 0
abbrev LFx.L (x : LFx) : Nat := x.1 1
abbrev LFx.e (x : LFx) : Nat := x.1 2
abbrev LFx.o (x : LFx) : Nat := x.1 3
abbrev LFx.oq (x : LFx) : Nat := x.1 4
abbrev LFx.od (x : LFx) : Nat := x.1 5
abbrev LFx.ip (x : LFx) : Nat := x.1 6
abbrev LFx.op (x : LFx) : Nat := x.1 7
abbrev LFx.t (x : LFx) : Nat := x.1 8
abbrev LFx.tr (x : LFx) : Nat := x.1 9
abbrev LFx.ps (x : LFx) : Nat := x.1 10
abbrev LFx.pa (x : LFx) : Nat := x.1 11
abbrev LFx.sl (x : LFx) : Nat := x.1 12
abbrev LFx.ib (x : LFx) : Nat := x.1 13
abbrev LFx.ob9 (x : LFx) : Nat := x.1 14
abbrev LFx.al (x : LFx) : Nat := x.1 15
abbrev LFx.lg (x : LFx) : Nat := x.1 16
abbrev LFx.xs (x : LFx) : Nat → Int32 := x.2.1
abbrev LFx.LL (x : LFx) : Int → Nat := x.2.2.1
abbrev LFx.L2 (x : LFx) : Int → Nat := x.2.2.2.1
abbrev LFx.A (x : LFx) : Nat → Nat := x.2.2.2.2
def INV (b : Int) (J : Nat → Int) (M : Pool) (n : Net) (N K : Nat → Net) (Fu Fb : Nat → Int) (w : List Int) (z : Int) (I : Nat → Int) : Prop :=
  (GOK b n) ∧ (0 ≤ J 6 ∧ J 6 ≤ 6) ∧ (I 20 = J 6) ∧ (I 12 = J 8) ∧ (True) ∧ (I 13 = J 9) ∧ (True) ∧ (0 ≤ z ∧ z ≤ 400) ∧ (I 6 = z) ∧ (0 ≤ I 11 ∧ I 11 ≤ 9999) ∧ (∀ j, -128 ≤ Fb j ∧ Fb j ≤ 127) ∧ (∀ j : Nat, (j : Int) < J 6 → GOK b (N j)) ∧ (∀ j : Nat, j < 2 → Fu j = 1 → GOK b (K j)) ∧ (∀ j, Fu j = 0 ∨ Fu j = 1) ∧ (w.length ≤ 200) ∧ (∀ j : Nat, 0 ≤ oF w j ∧ oF w j ≤ 127) ∧ (I 22 = (w.length : Int)) ∧ (PLw M)
theorem INV.hN {b : Int} {J : Nat → Int} {M : Pool} {n : Net} {N K : Nat → Net} {Fu Fb : Nat → Int} {w : List Int} {z : Int} {I : Nat → Int} (h : INV b J M n N K Fu Fb w z I) : GOK b n := h.1
theorem INV.h6 {b : Int} {J : Nat → Int} {M : Pool} {n : Net} {N K : Nat → Net} {Fu Fb : Nat → Int} {w : List Int} {z : Int} {I : Nat → Int} (h : INV b J M n N K Fu Fb w z I) : 0 ≤ J 6 ∧ J 6 ≤ 6 := h.2.1
theorem INV.e6 {b : Int} {J : Nat → Int} {M : Pool} {n : Net} {N K : Nat → Net} {Fu Fb : Nat → Int} {w : List Int} {z : Int} {I : Nat → Int} (h : INV b J M n N K Fu Fb w z I) : I 20 = J 6 := h.2.2.1
theorem INV.e8 {b : Int} {J : Nat → Int} {M : Pool} {n : Net} {N K : Nat → Net} {Fu Fb : Nat → Int} {w : List Int} {z : Int} {I : Nat → Int} (h : INV b J M n N K Fu Fb w z I) : I 12 = J 8 := h.2.2.2.1
theorem INV.r8 {b : Int} {J : Nat → Int} {M : Pool} {n : Net} {N K : Nat → Net} {Fu Fb : Nat → Int} {w : List Int} {z : Int} {I : Nat → Int} (h : INV b J M n N K Fu Fb w z I) : True := h.2.2.2.2.1
theorem INV.e9 {b : Int} {J : Nat → Int} {M : Pool} {n : Net} {N K : Nat → Net} {Fu Fb : Nat → Int} {w : List Int} {z : Int} {I : Nat → Int} (h : INV b J M n N K Fu Fb w z I) : I 13 = J 9 := h.2.2.2.2.2.1
theorem INV.r9 {b : Int} {J : Nat → Int} {M : Pool} {n : Net} {N K : Nat → Net} {Fu Fb : Nat → Int} {w : List Int} {z : Int} {I : Nat → Int} (h : INV b J M n N K Fu Fb w z I) : True := h.2.2.2.2.2.2.1
theorem INV.hz {b : Int} {J : Nat → Int} {M : Pool} {n : Net} {N K : Nat → Net} {Fu Fb : Nat → Int} {w : List Int} {z : Int} {I : Nat → Int} (h : INV b J M n N K Fu Fb w z I) : 0 ≤ z ∧ z ≤ 400 := h.2.2.2.2.2.2.2.1
theorem INV.ez {b : Int} {J : Nat → Int} {M : Pool} {n : Net} {N K : Nat → Net} {Fu Fb : Nat → Int} {w : List Int} {z : Int} {I : Nat → Int} (h : INV b J M n N K Fu Fb w z I) : I 6 = z := h.2.2.2.2.2.2.2.2.1
theorem INV.h11 {b : Int} {J : Nat → Int} {M : Pool} {n : Net} {N K : Nat → Net} {Fu Fb : Nat → Int} {w : List Int} {z : Int} {I : Nat → Int} (h : INV b J M n N K Fu Fb w z I) : 0 ≤ I 11 ∧ I 11 ≤ 9999 := h.2.2.2.2.2.2.2.2.2.1
theorem INV.hF {b : Int} {J : Nat → Int} {M : Pool} {n : Net} {N K : Nat → Net} {Fu Fb : Nat → Int} {w : List Int} {z : Int} {I : Nat → Int} (h : INV b J M n N K Fu Fb w z I) : ∀ j, -128 ≤ Fb j ∧ Fb j ≤ 127 := h.2.2.2.2.2.2.2.2.2.2.1
theorem INV.hP {b : Int} {J : Nat → Int} {M : Pool} {n : Net} {N K : Nat → Net} {Fu Fb : Nat → Int} {w : List Int} {z : Int} {I : Nat → Int} (h : INV b J M n N K Fu Fb w z I) : ∀ j : Nat, (j : Int) < J 6 → GOK b (N j) := h.2.2.2.2.2.2.2.2.2.2.2.1
theorem INV.hK {b : Int} {J : Nat → Int} {M : Pool} {n : Net} {N K : Nat → Net} {Fu Fb : Nat → Int} {w : List Int} {z : Int} {I : Nat → Int} (h : INV b J M n N K Fu Fb w z I) : ∀ j : Nat, j < 2 → Fu j = 1 → GOK b (K j) := h.2.2.2.2.2.2.2.2.2.2.2.2.1
theorem INV.hFu {b : Int} {J : Nat → Int} {M : Pool} {n : Net} {N K : Nat → Net} {Fu Fb : Nat → Int} {w : List Int} {z : Int} {I : Nat → Int} (h : INV b J M n N K Fu Fb w z I) : ∀ j, Fu j = 0 ∨ Fu j = 1 := h.2.2.2.2.2.2.2.2.2.2.2.2.2.1
theorem INV.hw {b : Int} {J : Nat → Int} {M : Pool} {n : Net} {N K : Nat → Net} {Fu Fb : Nat → Int} {w : List Int} {z : Int} {I : Nat → Int} (h : INV b J M n N K Fu Fb w z I) : w.length ≤ 200 := h.2.2.2.2.2.2.2.2.2.2.2.2.2.2.1
theorem INV.hv {b : Int} {J : Nat → Int} {M : Pool} {n : Net} {N K : Nat → Net} {Fu Fb : Nat → Int} {w : List Int} {z : Int} {I : Nat → Int} (h : INV b J M n N K Fu Fb w z I) : ∀ j : Nat, 0 ≤ oF w j ∧ oF w j ≤ 127 := h.2.2.2.2.2.2.2.2.2.2.2.2.2.2.2.1
theorem INV.ew {b : Int} {J : Nat → Int} {M : Pool} {n : Net} {N K : Nat → Net} {Fu Fb : Nat → Int} {w : List Int} {z : Int} {I : Nat → Int} (h : INV b J M n N K Fu Fb w z I) : I 22 = (w.length : Int) := h.2.2.2.2.2.2.2.2.2.2.2.2.2.2.2.2.1
theorem INV.hM {b : Int} {J : Nat → Int} {M : Pool} {n : Net} {N K : Nat → Net} {Fu Fb : Nat → Int} {w : List Int} {z : Int} {I : Nat → Int} (h : INV b J M n N K Fu Fb w z I) : PLw M := h.2.2.2.2.2.2.2.2.2.2.2.2.2.2.2.2.2
theorem INV.mk {b : Int} {J : Nat → Int} {M : Pool} {n : Net} {N K : Nat → Net} {Fu Fb : Nat → Int} {w : List Int} {z : Int} {I : Nat → Int} (hN9 : GOK b n) (h69 : 0 ≤ J 6 ∧ J 6 ≤ 6) (e69 : I 20 = J 6) (e89 : I 12 = J 8) (r89 : True) (e99 : I 13 = J 9) (r99 : True) (hz9 : 0 ≤ z ∧ z ≤ 400) (ez9 : I 6 = z) (h119 : 0 ≤ I 11 ∧ I 11 ≤ 9999) (hF9 : ∀ j, -128 ≤ Fb j ∧ Fb j ≤ 127) (hP9 : ∀ j : Nat, (j : Int) < J 6 → GOK b (N j)) (hK9 : ∀ j : Nat, j < 2 → Fu j = 1 → GOK b (K j)) (hFu9 : ∀ j, Fu j = 0 ∨ Fu j = 1) (hw9 : w.length ≤ 200) (hv9 : ∀ j : Nat, 0 ≤ oF w j ∧ oF w j ≤ 127) (ew9 : I 22 = (w.length : Int)) (hM9 : PLw M) : INV b J M n N K Fu Fb w z I := ⟨hN9, h69, e69, e89, r89, e99, r99, hz9, ez9, h119, hF9, hP9, hK9, hFu9, hw9, hv9, ew9, hM9⟩
theorem INV.qI {b b' : Int} {J : Nat → Int} {M : Pool} {n : Net} {N K : Nat → Net} {Fu Fb : Nat → Int} {w : List Int} {z : Int} {I I' : Nat → Int} (h : INV b J M n N K Fu Fb w z I) (hb : b ≤ b') (h6 : I' 6 = I 6) (h11 : I' 11 = I 11) (h12 : I' 12 = I 12) (h13 : I' 13 = I 13) (h20 : I' 20 = I 20) (h22 : I' 22 = I 22) : INV b' J M n N K Fu Fb w z I' :=
  INV.mk (h.hN.mono hb) h.h6 (h20.trans h.e6) (h12.trans h.e8) h.r8 (h13.trans h.e9) h.r9 h.hz (h6.trans h.ez) (by rw [h11]; exact h.h11) h.hF (fun j hj => (h.hP j hj).mono hb) (fun j hj hf => (h.hK j hj hf).mono hb) h.hFu h.hw h.hv (h22.trans h.ew) h.hM
/-- all that the law holds, beside the script -/
abbrev LAT (G : Gm) (x : LFx) (J : Nat → Int) (M : Pool) (n : Net) (N K : Nat → Net) (Fu Fb : Nat → Int) (w : List Int) (z : Int) (I TL TB : Nat → Int) (N9 : Nat → Net) (f : Nat → Int64) (fD : Nat → UInt64) : List SA :=
  [ob x.e 9 (ecS x.ip x.op x.t x.tr x.ps x.pa x.sl) J, ob x.t 8 (tkS x.al x.lg) (tkI n), arR G 5 x.al 6 (fun j => some (x.LL (j : Int))), LF G M x.LL n, LOG G x.lg n, TG G x.tr x.L2, PRS G x.ps x.ip x.tr, ob x.ip 6 [some (.ref x.ib), none] (fun _ => z), ar G 1 x.ib 400 400 Fb, ob x.op 6 [some (.ref x.ob9), none] (fun _ => (w.length : Int)), ar G 1 x.ob9 400 w.length (oF w), PL G M, PS G M x.pa (J 6) N, SS G M x.sl Fu K,
   ob x.o 10 (shM x.A 1) I, fam G x.A (uN N9 1 n), ar G 1 (x.A 5) 400 400 Fb, ar G 0 (x.A 14) 60 60 TL, ar G 0 (x.A 15) 60 60 TB, ar G 0 (x.A 19) 10896 10896 (encM N), ar G 0 (x.A 17) 3632 3632 (encM K), ar G 2 (x.A 18) 2 2 Fu, ar G 1 (x.A 21) 200 w.length (oF w), arL G x.oq 1 f, arD G x.od 1 fD]
abbrev LLV (x : LFx) (i : Int) : List (Option Value) := [some (.ref x.b), some (.ref x.e), some (.ref x.o), some (.ref x.oq), some (.ref x.od), some (.int (zI i)), none, none, none]
/-- the law goes on behind a call -/
def LCont (G : Gm) (X : Cx) (x : LFx) (b : Int) (k nn : Nat) (i : Int) : Prop := ∀ {J : Nat → Int} {M : Pool} {n : Net} {N K : Nat → Net} {Fu Fb : Nat → Int} {w : List Int} {z : Int} {I TL TB : Nat → Int} {N9 : Nat → Net} {f : Nat → Int64} {fD : Nat → UInt64}, INV b J M n N K Fu Fb w z I → WX G X k nn (LAT G x J M n N K Fu Fb w z I TL TB N9 f fD) 2791 (LLV x i) []
/-- what stands still in the law -/
def LKn (G : Gm) (l : Launch) (x : LFx) : Prop := (KX G) ∧ (l.stackTraces = false) ∧ (FPok) ∧ (va_Nc "java/lang/IllegalArgumentException" "java/lang/IndexOutOfBoundsException" G.1) ∧ (va_Nc "java/lang/IllegalStateException" "java/lang/IndexOutOfBoundsException" G.1) ∧ (va_X x.b x.L x.xs G.1 G.1.heap) ∧ (x.b < G.1.heap.size) ∧ (x.L ≤ 3072)
theorem LKn.hX {G : Gm} {l : Launch} {x : LFx} (h : LKn G l x) : KX G := h.1
theorem LKn.hT0 {G : Gm} {l : Launch} {x : LFx} (h : LKn G l x) : l.stackTraces = false := h.2.1
theorem LKn.hFP {G : Gm} {l : Launch} {x : LFx} (h : LKn G l x) : FPok := h.2.2.1
theorem LKn.n1 {G : Gm} {l : Launch} {x : LFx} (h : LKn G l x) : va_Nc "java/lang/IllegalArgumentException" "java/lang/IndexOutOfBoundsException" G.1 := h.2.2.2.1
theorem LKn.n2 {G : Gm} {l : Launch} {x : LFx} (h : LKn G l x) : va_Nc "java/lang/IllegalStateException" "java/lang/IndexOutOfBoundsException" G.1 := h.2.2.2.2.1
theorem LKn.hx {G : Gm} {l : Launch} {x : LFx} (h : LKn G l x) : va_X x.b x.L x.xs G.1 G.1.heap := h.2.2.2.2.2.1
theorem LKn.hbl {G : Gm} {l : Launch} {x : LFx} (h : LKn G l x) : x.b < G.1.heap.size := h.2.2.2.2.2.2.1
theorem LKn.hL {G : Gm} {l : Launch} {x : LFx} (h : LKn G l x) : x.L ≤ 3072 := h.2.2.2.2.2.2.2
theorem xwd_c {G : Gm} (h : KX G) {i : Nat} {w : Cond} (hi : XWD[i]? = some w) : va_Nw w G.1 := h.2.2.2.1 w (List.mem_of_getElem? hi)
theorem thr_0 {p1 p2 p3 : Prop} [Decidable p1] [Decidable p2] [Decidable p3] (h1 : p1) (h2 : p2) (h3 : p3) : thr p1 p2 p3 = 0 := by unfold thr; rw [if_pos h1, if_pos h2, if_pos h3]
theorem thr_1 {p1 p2 p3 : Prop} [Decidable p1] [Decidable p2] [Decidable p3] (h1 : ¬ p1) : thr p1 p2 p3 = 1 := by unfold thr; rw [if_neg h1]
theorem thr_2 {p1 p2 p3 : Prop} [Decidable p1] [Decidable p2] [Decidable p3] (h1 : p1) (h2 : ¬ p2) : thr p1 p2 p3 = 2 := by unfold thr; rw [if_pos h1, if_neg h2]
theorem thr_3 {p1 p2 p3 : Prop} [Decidable p1] [Decidable p2] [Decidable p3] (h1 : p1) (h2 : p2) (h3 : ¬ p3) : thr p1 p2 p3 = 3 := by unfold thr; rw [if_pos h1, if_pos h2, if_neg h3]
section Rules
variable {G : Gm} {X : Cx} {l : Launch} {own nm : String} {cc : ByteArray} {nL : Nat} {ret : Option FieldType} {d mc ms : Nat} {k n : Nat} {ws : List SA} {pc pc' pc1 pc2 pc3 pc4 len : Nat} {lv : List (Option Value)} {st : List Value}
theorem x_wide {k' n' : Nat} (hk : k ≤ k') (hn : n ≤ n') (K : WX G X k' n' ws pc lv st) : WX G X k n ws pc lv st := fun H locs ls c h1 h2 h3 h4 => W.widen hk hn (K H locs ls c h1 h2 h3 h4)
theorem x_lcmp_same {off : Int} {a b : Int64} (tgt : Nat) (hab : a = b) (C : OKc G X l own nm cc nL ret d mc ms) (D : dx cc pc .lcmp 1 pc1) (D' : dx cc pc1 (.ifCond .eq off) 3 pc') (ht : (pc1 : Int) + off = (tgt : Int)) (K : WX G X k n ws tgt lv st) : WX G X k n ws pc lv (.long b :: .long a :: st) := by
  subst hab
  obtain ⟨p, l, e, R, s, m, args, below, meth, c0, cf, Q⟩ := X
  obtain ⟨hx, rfl, rfl, hb, hml, hown, hts, hK, hvm, hlk, hret, hnm⟩ := C
  obtain ⟨D1, rfl⟩ := D
  obtain ⟨D2, rfl⟩ := D'
  refine fun H locs ls c h1 h2 h3 h4 => W.lcmp hx hb D1 ?_
  have hz : lg_cmp a a = 0 := by simp [lg_cmp]
  rw [hz]
  exact lv_if_eq hx hb D2 ht (fun z => K H locs ls c h1 h2 h3 h4) (fun z => absurd rfl z)
theorem x_argA {x : LFx} {i j a : Int} {pc5 : Nat} (C : OKc G X l own nm cc nL ret d mc ms) (hX : va_X x.b x.L x.xs G.1 G.1.heap) (hbl : x.b < G.1.heap.size) (hL : x.L ≤ 3072) (D0 : dx cc pc (.aload_n 0) 1 pc1) (D1 : dx cc pc1 (.iload 5) 2 pc2) (D2 : dx cc pc2 (.iconst j) 1 pc3) (D3 : dx cc pc3 .iadd 1 pc4) (D4 : dx cc pc4 .iaload 1 pc5) (h0 : lv[0]? = some (some (.ref x.b))) (h5 : lv[5]? = some (some (.int (zI i)))) (hi : 0 ≤ i + j ∧ i + j < (x.L : Int)) (ha : (x.xs (i + j).toNat).toInt = a)
    (K : WX G X k n ws pc5 lv (.int (zI a) :: st)) : WX G X k n ws pc lv st := by
  subst ha
  exact x_arg C hX hbl D0 D1 D2 D3 D4 h0 h5 hi hL K
theorem x_oFQ {A : Nat → Nat} {m : Net} {R : List SA} (hw : ∀ cf c, WF ws cf c → WF (famQ G A m :: R) cf c) (K : ∀ N9 : Nat → Net, WX G X k n (fam G A (uN N9 1 m) :: R) pc lv st) : WX G X k n ws pc lv st := by
  intro H locs ls c h1 h2 h3 h4
  obtain ⟨d, hd, -, hset, -⟩ := WF_put (hw _ _ h1) (q := 0) rfl
  obtain ⟨N, g⟩ := hd
  exact K N H locs ls c (hset (fam G A (uN N 1 m)) g) h2 h3 h4
end Rules
section Rules
variable {G : Gm} {X : Cx} {l : Launch} {own nm : String} {cc : ByteArray} {nL : Nat} {ret : Option FieldType} {d mc ms : Nat} {k n : Nat} {ws : List SA} {pc pc' : Nat} {lv : List (Option Value)} {st : List Value}
theorem x_icmp_same {off : Int} {a : Int32} (tgt : Nat) (C : OKc G X l own nm cc nL ret d mc ms) (D : dx cc pc (.if_icmp .eq off) 3 pc') (ht : (pc : Int) + off = (tgt : Int)) (K : WX G X k n ws tgt lv st) : WX G X k n ws pc lv (.int a :: .int a :: st) := by
  rw [← zI_of a]
  exact x_icmp_eq tgt C D ht (bI_toInt a) (bI_toInt a) (fun _ => K) (fun h => absurd rfl h)
theorem x_icmp_val {off : Int} {a b : Int} (hab : a = b) (tgt : Nat) (C : OKc G X l own nm cc nL ret d mc ms) (D : dx cc pc (.if_icmp .eq off) 3 pc') (ht : (pc : Int) + off = (tgt : Int)) (K : WX G X k n ws tgt lv st) : WX G X k n ws pc lv (.int (zI b) :: .int (zI a) :: st) := by
  subst hab
  exact x_icmp_same tgt C D ht K
end Rules
