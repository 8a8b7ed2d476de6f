/-! Load: what the text's net keeps, the class's slots over a larger pool. -/
theorem isNm_nmV {F I : Nat → Int} (h : Pin F I) : isNm (nmV F I) := by
  unfold nmV
  split
  · next c =>
    obtain ⟨-, h10, h6, -⟩ := nmI_ok c
    obtain ⟨⟨-, h9, -⟩, h3⟩ : ((0 ≤ I 7 ∧ I 7 ≤ 400) ∧ (0 ≤ I 9 ∧ I 9 ≤ I 8) ∧ True) ∧ (I 9 < I 8 ∧ I 8 ≤ I 7 ∧ ∀ j : Nat, I 9 ≤ (j : Int) → (j : Int) < I 8 → 97 ≤ F j ∧ F j ≤ 122) := ⟨⟨h.1.1, h.2.1, trivial⟩, h.2.2.2 h10⟩
    have hl : ∀ j : Nat, (I 9).toNat ≤ j → j < (I 9).toNat + (I 8 - I 9).toNat → (j : Int) < I 7 ∧ 97 ≤ F j ∧ F j ≤ 122 := fun j u v => ⟨by omega, h3.2.2 j (by omega) (by omega)⟩
    refine ⟨tW F (I 7) (((I 9).toNat : Nat) : Int) (I 8 - I 9).toNat, by rw [tW_len]; omega, tW_mem (fun j hj => ?_), (nmF_w _ hl).symm⟩
    have hj2 := hl ((I 9).toNat + j) (by omega) (by omega)
    rw [show (((I 9).toNat : Nat) : Int) + (j : Int) = (((I 9).toNat + j : Nat) : Int) by omega, byt_raw hj2.1 hj2.2]
    exact hj2.2
  · exact ⟨[], by decide, (fun x hx => absurd hx List.not_mem_nil), rfl⟩
theorem NamOk_psS {F : Nat → Int} {s : paSt} (hF : ∀ j, -128 ≤ F j ∧ F j ≤ 127) (h : PsOk F s) (hn : NamOk s.2.1) : NamOk (psS F s).2.1 := by
  obtain ⟨hP, hD, hT⟩ := h
  have h0 := hD.1
  unfold psS
  split
  · show NamOk (plN F s.2.1 s.1)
    unfold plN
    split
    · next c =>
      intro j hj hl
      have hA : nAdd s.2.1 (p1N F s.2.1 s.1) (p3c F s.2.1 s.1) (p4l F s.2.1 s.1) (p5h F s.2.1 s.1) (p6s F s.2.1 s.1) (p7e F s.2.1 s.1) (-1) 0 = s.2.1 (-1) 0 + 1 := nAdd_0 (by omega)
      rw [hA] at hl
      by_cases e : j = s.2.1 (-1) 0
      · subst e
        rw [show nAdd s.2.1 (p1N F s.2.1 s.1) (p3c F s.2.1 s.1) (p4l F s.2.1 s.1) (p5h F s.2.1 s.1) (p6s F s.2.1 s.1) (p7e F s.2.1 s.1) (s.2.1 (-1) 0) 0 = p1N F s.2.1 s.1 by
          unfold nAdd bNew
          rw [un_s, ub_n (by decide), ub_n (by decide), ub_n (by decide), ub_n (by decide), ub_n (by decide), ub_n (by decide), ub_s]]
        exact isNm_nmV (p1_P hF hP)
      · rw [show nAdd s.2.1 (p1N F s.2.1 s.1) (p3c F s.2.1 s.1) (p4l F s.2.1 s.1) (p5h F s.2.1 s.1) (p6s F s.2.1 s.1) (p7e F s.2.1 s.1) j 0 = s.2.1 j 0 by
          unfold nAdd
          rw [un_n e, un_n (by omega)]]
        exact hn j hj (by omega)
    · exact hn
  · split
    · show NamOk (qlN F s.2.1 s.1)
      unfold qlN
      split
      · next c =>
        have g := q8_g c
        have l1 := lnN_ok hD g.2.2.2.2.2.2.1
        exact NamOk_un hn l1.1 (by unfold bLend; rw [ub_n (by decide), ub_n (by decide)])
      · exact hn
    · split
      · exact hn
      · exact hn
theorem NamOk_psL {F : Nat → Int} (hF : ∀ j, -128 ≤ F j ∧ F j ≤ 127) : ∀ (k : Nat) (s : paSt), PsOk F s → NamOk s.2.1 → NamOk (psL F k s).2.1
  | 0, _, _, hn => hn
  | k + 1, s, h, hn => by
    unfold psL
    split
    · exact NamOk_psL hF k _ (PsOk_S hF h) (NamOk_psS hF h hn)
    · exact hn
theorem NamOk_Z : NamOk Zn := fun j h0 hl => absurd hl (by show ¬ j < 0; omega)
theorem NamOk_ty {n : Net} {TL TB : Nat → Int} {z : Int} (hT : TyOk n z TL TB) (hn : NetOk 0 (ldD n)) (hm : NamOk (ldD n)) : ∀ k : Nat, (k : Int) ≤ z → NamOk (tyN TL TB (ldD n) k)
  | 0, _ => hm
  | k + 1, hk => by
    have ih := NamOk_ty hT hn hm k (by omega)
    have h1 := tyN_ok hT hn k (by omega)
    have h2 := hT k (by omega)
    have hL := h1.1.2.2 (TL k) h2.1.1 (by rw [h1.2]; exact h2.1.2)
    unfold LineOk at hL
    exact NamOk_un ih h2.1.1 (bType_0 ⟨by omega, by omega, by omega⟩)
theorem ldN_ok {F I TL TB : Nat → Int} (hF : ∀ j, -128 ≤ F j ∧ F j ≤ 127) (h6 : 0 ≤ I 6 ∧ I 6 ≤ 400) (h11 : 0 ≤ I 11 ∧ I 11 ≤ 9999) (hq : (ldR F I TL TB).1 12 = 0) : GOK 7320 (ldN F I TL TB) := by
  obtain ⟨⟨hP, hD, hT⟩, h1⟩ := ldR_ok (TL := TL) (TB := TB) hF h6 h11
  have h16 := hP.1.2.2.2.2
  have hN0 := ldD_ok hD (h1 hq)
  have hN := (tyN_ok (hT hq) hN0 ((ldR F I TL TB).1 16).toNat (by omega)).1
  have hm : NamOk (ldR F I TL TB).2.1 := NamOk_psL hF 500 _ (ldJ_ok hF h6 h11) NamOk_Z
  have hm2 : NamOk (ldD (ldR F I TL TB).2.1) := NamOk_eq hm (by unfold ldD; rw [un_s, ub_n (by decide)]) (fun j hj => by unfold ldD; rw [un_n (by omega)])
  exact ⟨NetOk_mono hN (by omega), NamOk_ty (hT hq) hN0 hm2 _ (by omega)⟩
theorem ldR_o {F I TL TB : Nat → Int} {i : Nat} (h : oP i) (h6 : i ≠ 16) : (ldR F I TL TB).1 i = ldI0 I i := (psL_o h h6 500 _).trans ((if_o (er_o h) rfl).trans (scanI_o ⟨h.1, h.2.1, h.2.2.1, h.2.2.2.1⟩))
theorem ldR_6 {F I TL TB : Nat → Int} : (ldR F I TL TB).1 6 = 0 ∧ (ldR F I TL TB).1 20 = I 20 ∧ (ldR F I TL TB).1 22 = I 22 := by
  refine ⟨(ldR_o (by unfold oP; decide) (by decide)).trans ?_, (ldR_o (by unfold oP; decide) (by decide)).trans ?_, (ldR_o (by unfold oP; decide) (by decide)).trans ?_⟩ <;> (unfold ldI0; simp (disch := decide) only [up_s, up_n])
theorem SS_mono {G : Gm} {M M' : Pool} {sl : Nat} {Fu : Nat → Int} {N : Nat → Net} (hM : ∀ x ∈ M, x ∈ M') {d : Sto} (h : SS G M sl Fu N d) : SS G M' sl Fu N d := by
  obtain ⟨P, Lp, h0, h⟩ := h
  exact ⟨P, Lp, h0, PW.wf (PW_cons (fun _ h => h) (PW_cons (fun d hd => fam6_imp (fun j _ d hd => by
    cases hc : P j with
    | none => rw [pQ_none hc] at hd ⊢; exact hd
    | some t =>
      by_cases q : (j : Int) < 6
      · rw [pQ_told hc q] at hd ⊢; exact TO_mono hM hd
      · rw [pQ_not hc q] at hd ⊢; exact hd) hd) PW_nil)) h⟩
theorem INV.load1 {b b' : Int} {J : Nat → Int} {M M2 : Pool} {n : Net} {N K : Nat → Net} {Fu Fb : Nat → Int} {w : List Int} {z : Int} {I TL TB : Nat → Int} (h : INV b J M n N K Fu Fb w z I) (hb : b + 8000 ≤ b') (hb0 : 0 ≤ b) (hM : PLw M2) (hq : (ldR Fb I TL TB).1 12 = 0) : INV b' (up (up (up J 8 ((ldR Fb I TL TB).1 12)) 9 ((ldR Fb I TL TB).1 13)) 6 (rmR (J 6))) M2 (ldN Fb I TL TB) (rmP (J 6) N n) K Fu Fb w 0 (up (ldR Fb I TL TB).1 20 (rmR (J 6))) := by
  have hr : 0 ≤ rmR (J 6) ∧ rmR (J 6) ≤ 6 := by have := h.h6; unfold rmR; split <;> omega
  have h6i : 0 ≤ I 6 ∧ I 6 ≤ 400 := by rw [h.ez]; exact h.hz
  have hP := (ldR_ok (TL := TL) (TB := TB) h.hF h6i h.h11).1.1.1
  obtain ⟨l6, l20, l22⟩ := ldR_6 (F := Fb) (I := I) (TL := TL) (TB := TB)
  exact INV.mk ((ldN_ok h.hF h6i h.h11 hq).mono (by omega)) (by rw [up_s]; exact hr) (by rw [up_s, up_s]) (by rw [up_n (by decide), up_n (by decide), up_n (by decide), up_s]) trivial (by rw [up_n (by decide), up_n (by decide), up_s]) trivial (by decide) (by rw [up_n (by decide)]; exact l6) (by rw [up_n (by decide)]; exact hP.2.2.1) h.hF (fun j hj => rmP_ok h.hP h.hN (by omega) h.h6 j (by rw [up_s] at hj; exact hj)) (fun j hj hf => (h.hK j hj hf).mono (by omega)) h.hFu h.hw h.hv (by rw [up_n (by decide)]; exact l22.trans h.ew) hM
theorem INV.load0 {b b' : Int} {J : Nat → Int} {M M2 : Pool} {n : Net} {N K : Nat → Net} {Fu Fb : Nat → Int} {w : List Int} {z : Int} {I TL TB : Nat → Int} (h : INV b J M n N K Fu Fb w z I) (hb : b ≤ b') (hM : PLw M2) : INV b' (up (up J 8 ((ldR Fb I TL TB).1 12)) 9 ((ldR Fb I TL TB).1 13)) M2 n N K Fu Fb w 0 (ldR Fb I TL TB).1 := by
  have h6i : 0 ≤ I 6 ∧ I 6 ≤ 400 := by rw [h.ez]; exact h.hz
  have hP := (ldR_ok (TL := TL) (TB := TB) h.hF h6i h.h11).1.1.1
  obtain ⟨l6, l20, l22⟩ := ldR_6 (F := Fb) (I := I) (TL := TL) (TB := TB)
  have e6 : up (up J 8 ((ldR Fb I TL TB).1 12)) 9 ((ldR Fb I TL TB).1 13) 6 = J 6 := by rw [up_n (by decide), up_n (by decide)]
  exact INV.mk (h.hN.mono hb) (by rw [e6]; exact h.h6) (by rw [e6]; exact l20.trans h.e6) (by rw [up_n (by decide), up_s]) trivial (by rw [up_s]) trivial (by decide) l6 hP.2.2.1 h.hF (fun j hj => (h.hP j (by rw [e6] at hj; exact hj)).mono hb) (fun j hj hf => (h.hK j hj hf).mono hb) h.hFu h.hw h.hv (l22.trans h.ew) hM
section Rules
variable {G : Gm} {X : Cx} {k n : Nat} {ws ws' : List SA} {pc : Nat} {lv : List (Option Value)} {st : List Value}
theorem x_wf (h : ∀ cf c, WF ws cf c → WF ws' cf c) (K : WX G X k n ws' pc lv st) : WX G X k n ws pc lv st := fun H locs ls c h1 h2 h3 h4 => K H locs ls c (h _ _ h1) h2 h3 h4
end Rules
