/-! What is there behind the law's load. -/
theorem LSt_new {P : Nat → LinP} (hP : LPok P) (j : Nat) : LSt (bl9 P j) := by
  have hp := hP j
  have e : ∀ w, 6 ≤ w → ¬ w = 14 → bl9 P j w = 0 := fun w u v => by
    unfold bl9 bNew
    rw [ub_n v, ub_n (by omega), ub_n (by omega), ub_n (by omega), ub_n (by omega), ub_n (by omega), ub_n (by omega)]
  have e2 : bl9 P j 2 = (P j).2.1 := by unfold bl9 bNew; simp (disch := decide) only [ub_n, ub_s]
  have e3 : bl9 P j 3 = (P j).2.2.1 := by unfold bl9 bNew; simp (disch := decide) only [ub_n, ub_s]
  have e14 : bl9 P j 14 = -1 := by unfold bl9 bNew; simp (disch := decide) only [ub_s]
  unfold LSt LS0 mkS
  rw [e2, e3, e14, e 6 (by decide) (by decide), e 7 (by decide) (by decide), e 8 (by decide) (by decide), e 9 (by decide) (by decide), e 10 (by decide) (by decide), e 16 (by decide) (by decide), e 17 (by decide) (by decide), e 18 (by decide) (by decide), e 19 (by decide) (by decide), e 20 (by decide) (by decide), e 21 (by decide) (by decide), e 22 (by decide) (by decide), e 23 (by decide) (by decide), e 26 (by decide) (by decide)]
  omega
theorem netE_at {P : Nat → LinP} {le x y m : Nat} {t : Int} {j : Nat} (hj : j < m) : (netE le x y t (netL P m) j 16 = 0) ∧ (LPok P → LSt (netE le x y t (netL P m) j)) := by
  have e0 : netL P m j = bl9 P j := by rw [(netL_at P m).2 j, if_pos hj]
  have e16 : bl9 P j 16 = 0 := by unfold bl9 bNew; simp (disch := decide) only [ub_n]
  unfold netE
  by_cases e : le = 1
  · rw [if_pos e]
    by_cases c : (j : Int) = (x : Int)
    · rw [← c, un_s]
      unfold bLend
      refine ⟨by rw [ub_n (by decide), ub_n (by decide), e0]; exact e16, fun hP => ?_⟩
      rw [e0]
      exact LSt_ub (LSt_ub (LSt_new hP j) (by decide)) (by decide)
    · rw [un_n c, e0]
      exact ⟨e16, fun hP => LSt_new hP j⟩
  · rw [if_neg e, e0]
    exact ⟨e16, fun hP => LSt_new hP j⟩
theorem netE_12 {P : Nat → LinP} {le x y m : Nat} {t : Int} (ht : 1 ≤ t) (j : Nat) : 0 < netE le x y t (netL P m) j 12 ↔ le = 1 ∧ j = x := by
  have e0 : ∀ j : Nat, netL P m j 12 = 0 := fun j => by
    rw [(netL_at P m).2 j]
    split
    · unfold bl9 bNew; simp (disch := decide) only [ub_n]
    · rfl
  unfold netE
  by_cases e : le = 1
  · rw [if_pos e]
    by_cases c : (j : Int) = (x : Int)
    · rw [← c, un_s]
      unfold bLend
      rw [ub_s]
      omega
    · rw [un_n c, e0]
      omega
  · rw [if_neg e, e0]
    omega
theorem qs_zero {f : Int → Int} : ∀ k : Nat, (∀ j : Nat, j < k → f j = 0) → qs f k = 0
  | 0, _ => rfl
  | k + 1, h => by
    show qs f k + f (k : Int) = 0
    rw [qs_zero k (fun j hj => h j (by omega)), h k (by omega)]
    rfl
theorem load_net {F I TL TB : Nat → Int} {z m le x y l0 l1 m0 m1 : Nat} {t : Int} {f : Nat → Int} {P : Nat → LinP} (h6 : I 6 = (z : Int)) (hz : z ≤ 400) (h11 : 0 ≤ I 11 ∧ I 11 ≤ 9999) (hF : ∀ j, -128 ≤ F j ∧ F j ≤ 127) (hP : LPok P) (hm : 1 ≤ m ∧ m ≤ 4) (hle : le = 1 → x < m ∧ y < m ∧ ¬ x = y) (htt : 1 ≤ t ∧ t ≤ 99) (hl : l0 < m ∧ l1 < m) (hmm : m0 + m1 ≤ 60) (hf : ∀ i, 1 ≤ f i ∧ f i ≤ 127)
    (ht : Rem F z 0 (linesR P 0 m (lendO le x y t (tyO l0 m0 f (tyO l1 m1 f []))))) :
    (ldR F I TL TB).1 12 = 0 ∧ NetOk 8000 (ldN F I TL TB) ∧ SOK (ldN F I TL TB) ∧ ldN F I TL TB (-1) 0 = (m : Int) ∧ ldN F I TL TB (-1) 1 = 0 ∧ ldN F I TL TB (-1) 2 = 0 ∧ qs (fun l => ldN F I TL TB l 16) m = (m0 : Int) + (m1 : Int) ∧ ∀ j : Nat, 0 < ldN F I TL TB j 12 ↔ le = 1 ∧ j = x := by
  obtain ⟨h12, h16, hn⟩ := text_ok (TL := TL) (TB := TB) h6 hP hm hle htt hl hmm hf ht
  obtain ⟨⟨hPin, hD, hT⟩, h1⟩ := ldR_ok (TL := TL) (TB := TB) hF (by omega : 0 ≤ I 6 ∧ I 6 ≤ 400) h11
  have hTy := hT h12
  have h1 := h1 h12
  unfold ldN
  generalize ldR F I TL TB = S at *
  refine ⟨h12, ?_⟩
  have hN0 := ldD_ok hD h1
  have hlines : S.2.1 (-1) 0 = (m : Int) := by
    rw [hn]
    unfold netE
    split
    · rw [un_n (by omega)]; exact (netL_at P m).1
    · exact (netL_at P m).1
  have dl : ∀ j : Nat, ldD S.2.1 (j : Int) = netE le x y t (netL P m) j := fun j => by
    unfold ldD
    rw [un_n (by omega), hn]
  have dh : ∀ w, ¬ w = 3 → ldD S.2.1 (-1) w = S.2.1 (-1) w := fun w hw => by
    unfold ldD
    rw [un_s, ub_n hw]
  have s0 : SOK (ldD S.2.1) := by
    refine ⟨by rw [dh 1 (by decide), dh 4 (by decide), dh 5 (by decide), hD.2.1 1 (by decide) (by decide), hD.2.1 4 (by decide) (by decide), hD.2.1 5 (by decide) (by decide)]; rfl, fun l u v => ?_⟩
    rw [dh 0 (by decide), hlines] at v
    obtain ⟨j, rfl⟩ := Int.eq_ofNat_of_zero_le u
    rw [dl j]
    exact (netE_at (by omega)).2 hP
  have key : ∀ k : Nat, (k : Int) ≤ S.1 16 → SOK (tyN S.2.2.1 S.2.2.2 (ldD S.2.1) k) ∧ tyN S.2.2.1 S.2.2.2 (ldD S.2.1) k (-1) = ldD S.2.1 (-1) ∧ qs (fun l => tyN S.2.2.1 S.2.2.2 (ldD S.2.1) k l 16) m = (k : Int) ∧ ∀ j : Nat, tyN S.2.2.1 S.2.2.2 (ldD S.2.1) k j 12 = ldD S.2.1 j 12 := by
    intro k
    induction k with
    | zero => exact fun _ => ⟨s0, rfl, qs_zero m (fun j hj => by show ldD S.2.1 (j : Int) 16 = 0; rw [dl j]; exact (netE_at hj).1), fun j => rfl⟩
    | succ k ih =>
      intro hk
      obtain ⟨i1, i2, i3, i4⟩ := ih (by omega)
      have hok := tyN_ok hTy hN0 k (by omega)
      have hk9 := hTy k (by omega)
      have hL := hok.1.2.2 (S.2.2.1 k) hk9.1.1 (by rw [hok.2]; exact hk9.1.2)
      have hS := i1.2 (S.2.2.1 k) hk9.1.1 (by rw [hok.2]; exact hk9.1.2)
      have eT : tyN S.2.2.1 S.2.2.2 (ldD S.2.1) (k + 1) = un (tyN S.2.2.1 S.2.2.2 (ldD S.2.1) k) (S.2.2.1 k) (bType (tyN S.2.2.1 S.2.2.2 (ldD S.2.1) k (S.2.2.1 k)) (S.2.2.2 k) (tyN S.2.2.1 S.2.2.2 (ldD S.2.1) k (-1) 1)) := rfl
      rw [eT]
      generalize tyN S.2.2.1 S.2.2.2 (ldD S.2.1) k = T at *
      refine ⟨SOK_un i1 hk9.1.1 (LSt_type hL hS), by rw [un_n (by omega)]; exact i2, ?_, fun j => ?_⟩
      · have h9 := qs_one (f := fun l => T l 16) (g := fun l => un T (S.2.2.1 k) (bType (T (S.2.2.1 k)) (S.2.2.2 k) (T (-1) 1)) l 16) (s := S.2.2.1 k) (c := 1) m hk9.1.1 (by omega) (by
          show un T (S.2.2.1 k) _ (S.2.2.1 k) 16 = _
          rw [un_s, bType_e hL (Or.inr rfl), if_pos rfl]) (fun j hj => by
          show un T (S.2.2.1 k) _ j 16 = T j 16
          rw [un_n hj])
        rw [h9, i3]
        omega
      · rw [← i4 j]
        by_cases c : (j : Int) = S.2.2.1 k
        · rw [c, un_s, bType_e hL (Or.inl rfl), if_neg (by decide)]
          omega
        · rw [un_n c]
  have hc : ((S.1 16).toNat : Int) ≤ S.1 16 := by omega
  obtain ⟨k1, k2, k3, k4⟩ := key (S.1 16).toNat hc
  have hok := tyN_ok hTy hN0 (S.1 16).toNat hc
  refine ⟨NetOk_mono hok.1 (by omega), k1, hok.2.trans hlines, ?_, ?_, ?_, fun j => ?_⟩
  · rw [k2, dh 1 (by decide)]; exact hD.2.1 1 (by decide) (by decide)
  · rw [k2, dh 2 (by decide)]; exact hD.2.1 2 (by decide) (by decide)
  · rw [k3]; omega
  · rw [k4 j, dl j]
    exact netE_12 htt.1 j
