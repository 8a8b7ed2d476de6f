/-! What calls of text and of numbers keep. -/
theorem ap5_r {F : Nat → Int} (hF : ∀ j, -128 ≤ F j ∧ F j ≤ 127) (z : Nat) (a b c d e : Int32) : ∀ j, -128 ≤ ap5 F z a b c d e j ∧ ap5 F z a b c d e j ≤ 127 := by
  have hb : ∀ (v : Int32) (j : Nat), -128 ≤ bt v j ∧ bt v j ≤ 127 := fun v j => by
    unfold bt
    have h1 := (((v >>> (zI (24 - 8 * (j : Int)) &&& 31)).toInt8.toInt32).toInt8).le_toInt
    have h2 := (((v >>> (zI (24 - 8 * (j : Int)) &&& 31)).toInt8.toInt32).toInt8).toInt_lt
    omega
  have h4 : ∀ (F : Nat → Int) (z : Nat) (v : Int32), (∀ j, -128 ≤ F j ∧ F j ≤ 127) → ∀ (k j : Nat), -128 ≤ apF F z v k j ∧ apF F z v k j ≤ 127 := by
    intro F z v hF k
    induction k with
    | zero => exact hF
    | succ k ih =>
      intro j
      show -128 ≤ up (apF F z v k) (z + k) (bt v k) j ∧ up (apF F z v k) (z + k) (bt v k) j ≤ 127
      unfold up
      split
      · exact hb v k
      · exact ih j
  exact h4 _ _ _ (h4 _ _ _ (h4 _ _ _ (h4 _ _ _ (h4 _ _ _ hF 4) 4) 4) 4) 4
theorem INV.inp {b b' z' : Int} {J : Nat → Int} {M : Pool} {n : Net} {N K : Nat → Net} {Fu Fb Fb' : Nat → Int} {w : List Int} {z : Int} {I I' : Nat → Int} (h : INV b J M n N K Fu Fb w z I) (hb : b ≤ b') (hz : 0 ≤ z' ∧ z' ≤ 400) (hF : ∀ j, -128 ≤ Fb' j ∧ Fb' j ≤ 127) (h6 : I' 6 = z') (h11 : I' 11 = I 11) (h12 : I' 12 = I 12) (h13 : I' 13 = I 13) (h20 : I' 20 = I 20) (h22 : I' 22 = I 22) : INV b' J M n N K Fu Fb' w z' I' :=
  INV.mk (h.hN.mono hb) h.h6 (h20.trans h.e6) (h12.trans h.e8) h.r8 (h13.trans h.e9) h.r9 hz h6 (by rw [h11]; exact h.h11) hF (fun j hj => (h.hP j hj).mono hb) (fun j hj hf => (h.hK j hj hf).mono hb) h.hFu h.hw h.hv (h22.trans h.ew) h.hM
theorem INV.wr {b b' : Int} {J : Nat → Int} {M : Pool} {n : Net} {N K : Nat → Net} {Fu Fb : Nat → Int} {w w' : List Int} {z : Int} {I I' : Nat → Int} (h : INV b J M n N K Fu Fb w z I) (hb : b ≤ b') (hw : w'.length ≤ 200) (hv : ∀ x ∈ w', 0 ≤ x ∧ x ≤ 127) (h22 : I' 22 = (w'.length : Int)) (h6 : I' 6 = I 6) (h11 : I' 11 = I 11) (h12 : I' 12 = I 12) (h13 : I' 13 = I 13) (h20 : I' 20 = I 20) : INV b' J M n N K Fu Fb w' z I' :=
  INV.mk (h.hN.mono hb) h.h6 (h20.trans h.e6) (h12.trans h.e8) h.r8 (h13.trans h.e9) h.r9 h.hz (h6.trans h.ez) (by rw [h11]; exact h.h11) h.hF (fun j hj => (h.hP j hj).mono hb) (fun j hj hf => (h.hK j hj hf).mono hb) h.hFu hw (fun j => by
    show 0 ≤ w'.getD j 0 ∧ w'.getD j 0 ≤ 127
    by_cases e : j < w'.length
    · rw [List.getD_eq_getElem?_getD, List.getElem?_eq_getElem e]; exact hv _ (List.getElem_mem e)
    · rw [List.getD_eq_getElem?_getD, List.getElem?_eq_none (by omega)]; exact ⟨by decide, by decide⟩) h22 h.hM
theorem dgQ_r {q : Nat} {c v : Int} (hq : 0 < q) (hv : 0 ≤ v) : ∀ m, ∀ x ∈ dgQ q c v m, c ≤ x ∧ x < c + q := by
  intro m
  induction m with
  | zero => intro x hx; cases hx
  | succ k ih =>
    intro x hx
    rcases List.mem_cons.mp hx with rfl | hx
    · have h1 := Int.emod_nonneg (v / pw q (k + 1)) (b := (q : Int)) (by omega)
      have h2 := Int.emod_lt_of_pos (v / pw q (k + 1)) (b := (q : Int)) (by omega)
      omega
    · exact ih x hx
theorem dec_r {v : Int} (hv : 0 ≤ v) : ∀ x ∈ dec v, 0 ≤ x ∧ x ≤ 127 := fun x hx => by
  have := dgQ_r (q := 10) (by decide) hv _ x hx
  omega
theorem nam_r {v : Int} : ∀ x ∈ nam v, 0 ≤ x ∧ x ≤ 127 := fun x hx => by
  unfold nam at hx
  split at hx
  · have := dgQ_r (q := 27) (by decide) (by omega) _ x hx
    omega
  · cases hx
theorem ap_r {a b : List Int} (ha : ∀ x ∈ a, 0 ≤ x ∧ x ≤ 127) (hb : ∀ x ∈ b, 0 ≤ x ∧ x ≤ 127) : ∀ x ∈ a ++ b, 0 ≤ x ∧ x ≤ 127 := fun x hx => (List.mem_append.mp hx).elim (ha x) (hb x)
theorem one_r {c : Int} (h : 0 ≤ c ∧ c ≤ 127) : ∀ x ∈ [c], 0 ≤ x ∧ x ≤ 127 := fun x hx => by
  rcases List.mem_singleton.mp hx with rfl
  exact h
theorem ite_r {p : Prop} [Decidable p] {a b : List Int} (ha : ∀ x ∈ a, 0 ≤ x ∧ x ≤ 127) (hb : ∀ x ∈ b, 0 ≤ x ∧ x ≤ 127) : ∀ x ∈ (if p then a else b), 0 ≤ x ∧ x ≤ 127 := by
  split
  · exact ha
  · exact hb
theorem cntS_r {b : Int} {n : Net} {l : Int} (hN : NetOk b n) (hl : 0 ≤ l ∧ l < n (-1) 0) : ∀ k : Nat, k ≤ 12 → ∀ x ∈ cntS n l k, 0 ≤ x ∧ x ≤ 127 := by
  intro k
  induction k with
  | zero => intro _ x hx; cases hx
  | succ k ih =>
    intro hk
    exact ap_r (ite_r (ap_r (ih (by omega)) (one_r (by decide))) (ih (by omega))) (dec_r (LineOk_c (hN.2.2 l hl.1 hl.2) (by omega) (by omega)).1)
theorem logS_r {b : Int} {n : Net} (hN : NetOk b n) : ∀ m : Nat, (m : Int) ≤ n (-1) 7 → ∀ x ∈ logS n m, 0 ≤ x ∧ x ≤ 127 := by
  intro m
  induction m with
  | zero => intro _ x hx; cases hx
  | succ k ih =>
    intro hk
    have h := hN.2.1 (k : Int) (by omega) (by omega)
    refine ap_r ?_ (ih (by omega))
    unfold logE
    exact ite_r (dec_r h.2.1.1) (ap_r (ap_r (dec_r h.2.1.1) (one_r (by decide))) (dec_r h.2.2.1.1))
theorem queS_r {b : Int} {n : Net} (hN : NetOk b n) : ∀ k : Nat, (k : Int) ≤ n (-1) 0 → ∀ x ∈ queS n k, 0 ≤ x ∧ x ≤ 127 := by
  intro k
  induction k with
  | zero => intro _ x hx; cases hx
  | succ k ih =>
    intro hk
    have hL := hN.2.2 (k : Int) (by omega) (by omega)
    unfold LineOk at hL
    rw [queS_L]
    unfold queL
    have h1 := ite_r (p := 0 < (k : Int)) (ap_r (ih (by omega)) (one_r (c := 32) (by decide))) (ih (by omega))
    have h6 := ap_r (ap_r (ap_r (ap_r (ap_r h1 (nam_r (v := n k 0))) (one_r (c := 58) (by decide))) (dec_r (v := n k 6) (by omega))) (one_r (c := 47) (by decide))) (dec_r (v := n k 7) (by omega))
    have h7 := ite_r (p := 0 < n k 9) (ap_r h6 (one_r (c := 104) (by decide))) h6
    have h8 := ite_r (p := n k 10 = 1) (ap_r h7 (one_r (c := 115) (by decide))) h7
    exact ite_r (p := n k 11 = 1) (ap_r h8 (one_r (c := 112) (by decide))) h8
theorem shA_ok (h : FPok) {b : Int} {n : Net} {l : Int} (hN : NetOk b n) (hb : b ≤ 16000000) (hl : 0 ≤ l ∧ l < n (-1) 0) : vf_n64 (FP.f2d (shA n l)) ∧ FP.dcmp (FP.f2d (shA n l)) (FP.f2d (shA n l)) = some .eq := by
  have hH := hN.1
  unfold HeadOk at hH
  have hc := LineOk_c (hN.2.2 l hl.1 hl.2) (k := 17) (by decide) (by decide)
  unfold shA
  split
  · exact ⟨by unfold vf_n64; decide +kernel, by decide +kernel⟩
  · have := h.1 (n l 17) (n (-1) 4) (by omega) (by omega) (by omega) (by omega)
    exact ⟨this.2.1, this.2.2⟩
theorem mwA_ok (h : FPok) {b : Int} {n : Net} {l : Int} (hN : NetOk b n) (hb : b ≤ 16000000) (hl : 0 ≤ l ∧ l < n (-1) 0) : FP.dcmp (mwA n l) (mwA n l) = some .eq := by
  have hH := hN.1
  unfold HeadOk at hH
  have hL := hN.2.2 l hl.1 hl.2
  have hc := LineOk_c hL (k := 17) (by decide) (by decide)
  unfold LineOk at hL
  unfold mwA
  split
  · decide +kernel
  · have hq : 0 ≤ qs (fun j => n (-1) 1 - n l (88 + j)) (n l 6).toNat := qs_pos _ (fun j a c => by have := (hL.2.2.2.2.2.2.2.2.2.2.2.2.2.2.2.2.2.1 j a (by omega)).2; omega)
    exact (h.2 (n l 15) (n l 17) (by omega) (by omega) (by omega) (by omega)).2
section Rules
variable {G : Gm} {X : Cx} {l : Launch} {own nm : String} {cc : ByteArray} {nL : Nat} {ret : Option FieldType} {d mc ms : Nat} {k n : Nat} {ws : List SA} {pc pc' pc1 : Nat} {lv : List (Option Value)} {st : List Value}
theorem x_dcmp_same {a b : UInt64} {off : Int} (tgt : Nat) (hab : a = b) (hq : FP.dcmp b b = some .eq) (C : OKc G X l own nm cc nL ret d mc ms) (D : dx cc pc (.dcmp .l) 1 pc1) (D' : dx cc pc1 (.ifCond .eq off) 3 pc') (ht : (pc1 : Int) + off = (tgt : Int)) (K : WX G X k n ws tgt lv st) : WX G X k n ws pc lv (.double b :: .double a :: st) := by
  subst hab
  refine x_dcmp C D ?_
  rw [hq]
  exact x_if_eq (a := 0) tgt C D' ht (by omega) (fun _ => K) (fun h => absurd rfl h)
end Rules
