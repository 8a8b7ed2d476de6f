/-! The parser beside the reference's, as a whole. -/
section Sim
variable {F : Nat → Int} {z tz a : Int} {R : paSt} {J P P' fB fL : Nat → Int} {n : Net}
theorem SIM_P5 (h : SIM F z R a J P n tz fB fL) (h6 : P' 6 = P 6) (h7 : P' 7 = P 7) (h8 : P' 8 = P 8) : SIM F z R a J P' n tz fB fL := by
  obtain ⟨nm, I, I0, TL0, TB0, TL, TB, f, hC, hG⟩ := h
  refine ⟨nm, I, I0, TL0, TB0, TL, TB, f, ?_, ?_⟩
  · unfold CMN at hC ⊢
    rw [h6]
    exact hC
  · unfold STG STD STT at hG ⊢
    rw [h6, h7, h8]
    exact hG
theorem SIM_step (hF : ∀ j, -128 ≤ F j ∧ F j ≤ 127) (hz : z ≤ 400) (h : SIM F z R a J P n tz fB fL) (hne : a = 1 → ¬ J 1 = 0) (hnd : J 1 = 4 → P 5 = srch (fun k => decide (tW F z (J 2) (J 3 - J 2).toNat = nam (n k 0))) (n (-1) 0).toNat 0) : OUT F z R J (stC a J P n tz) (stP a J P 4) (stP a J P) (stN a (wnum (tW F z (J 2) (J 3 - J 2).toNat)) J P n) (adZ (stB a J tz) tz) (adF (stB a J tz) tz fB (J 4)) (adF (stB a J tz) tz fL (P 8)) := by
  obtain ⟨nm, I, I0, TL0, TB0, TL, TB, f, hC, hG⟩ := h
  rcases hG with ⟨rfl, hR, hr, h0, e0, eL, eB⟩ | ⟨rfl, hR, hr, e0, eL, eB⟩ | ⟨rfl, nw, hR, hS, hr, -⟩ | ⟨ha, hR, hS, hL⟩ | ⟨ha, hR, hS, hr, hD⟩ | ⟨ha, hR, hS, hr, hT⟩
  · exact st_0 hF hC hR hr h0 e0 eL eB
  · exact st_1 hF hC hR hr e0 eL eB hz (hne rfl)
  · exact st_2 hF hC hR hS hr
  · rcases hL with ⟨rfl, hr, h6, hI⟩ | ⟨rfl, hb, hI⟩ | ⟨rfl, hb, hI⟩ | ⟨rfl, hb, hB, hI⟩ | ⟨rfl, hb, hB, hI⟩ | ⟨rfl, hb, hB, hI⟩ | ⟨rfl, hb, hB, hI⟩ | ⟨rfl, hb, hB, hI⟩ | ⟨rfl, hb, hB, hI⟩ | ⟨rfl, hb, hB, hw, hI⟩
    · exact st_3 hF hC hR hS hr h6 hI hnd
    · exact st_4 hF hC hR hS hb hI
    · exact st_5 hF hC hR hS hb hI (by decide) (by decide)
    · exact st_6 hF hC hR hS hb hB hI
    · have e : stC 7 J P n tz = tnC J 0 (p3c F nm I0 - 1) := by
        show tnC J 0 (n (lst n) 1 - 1) = _
        rw [BLD_lst hb, hB]
      rw [e]
      have hv := nhV_r (I := twI F (p2I F nm I0) w_cap) (a := 4) (b := 60) (by decide)
      exact st_7 hF hC hR hS hb hB hI (by decide) (by show nhV _ 4 60 - 1 < 1000; omega)
    · have e : stC 8 J P n tz = tnC J (p4l F nm I0 + 1) (p3c F nm I0) := by
        show tnC J (n (lst n) 2 + 1) (n (lst n) 1) = _
        rw [BLD_lst hb, hB.1, hB.2]
      rw [e]
      have hv : 4 ≤ p3c F nm I0 ∧ p3c F nm I0 ≤ 60 := nhV_r (by decide)
      have hv2 : 0 ≤ p4l F nm I0 ∧ p4l F nm I0 ≤ p3c F nm I0 - 1 := nhV_r (by omega)
      exact st_8 hF hC hR hS hb hB hI (by omega) (by omega)
    · exact st_9 hF hC hR hS hb hB hI
    · exact st_10 hF hC hR hS hb hB hI (by decide) (by decide)
    · have h11 := st_11 hF hC hR hS hb hB hI
      exact h11
    · exact st_12 hF hC hR hS hb hB hw hI
  · rcases hD with ⟨rfl, hI⟩ | ⟨rfl, hq, hI⟩ | ⟨rfl, hq, hI⟩ | ⟨rfl, hq, h7, hI⟩ | ⟨rfl, hq, h7, hI⟩
    · exact st_13 hF hC hR hS hr hI hnd
    · exact st_14 hF hC hR hS hr hq hI
    · exact st_15 hF hC hR hS hr hq hI hnd
    · exact st_16 hF hC hR hS hr hq h7 hI
    · exact st_17 hF hC hR hS hr hq h7 hI
  · rcases hT with ⟨rfl, hI, hTL, hTB⟩ | ⟨rfl, hI, h8, hTL, hTB⟩ | ⟨rfl, h8, k, hk, hT⟩
    · exact st_18 hF hC hR hS hr hI hTL hTB hnd
    · have eB : stB 19 J tz = decide (tbC J tz = 0) := decide_eq_decide.mpr ⟨fun z => z.2, fun z => ⟨Or.inl rfl, z⟩⟩
      rw [eB]
      subst hTL hTB
      exact st_by (k := 62) hF hC hR hS hr (by have := hC.1.1.2.1.1.2.2.2.2; omega) h8 (by unfold ttR; rw [hI]) rfl
    · by_cases hj : J 1 = 1
      · have eB : stB 20 J tz = decide (tbC J tz = 0) := decide_eq_decide.mpr ⟨fun z => z.2, fun z => ⟨Or.inr ⟨rfl, hj⟩, z⟩⟩
        have eC : stC 20 J P n tz = tbC J tz := if_pos hj
        have eP : stP 20 J P = up P 4 20 := by show up P 4 (if J 1 = 1 then 20 else 1) = _; rw [if_pos hj]
        rw [eB, eC, eP]
        exact st_by hF hC hR hS hr hk h8 (by rw [hT, if_pos ((AL_num hC.1.1).mp hj)]) rfl
      · have eB : stB 20 J tz = false := decide_eq_false (fun q => q.1.elim (fun q => absurd q (by decide)) (fun q => hj q.2))
        have eC : stC 20 J P n tz = knC J 2 := if_neg hj
        have eP : stP 20 J P = up P 4 1 := by show up P 4 (if J 1 = 1 then 20 else 1) = _; rw [if_neg hj]
        rw [eB, eC, eP]
        exact st_20e hF hC hR hS hr (by rw [hT, if_neg (fun q => hj ((AL_num hC.1.1).mpr q))])
/-- what the class's method asks -/
theorem SIM_hyps (h : SIM F z R a J P n tz fB fL) : (0 ≤ J 1 ∧ J 1 ≤ 17) ∧ (0 ≤ J 4 ∧ J 4 ≤ 1000) ∧ (-1 ≤ P 6 ∧ P 6 ≤ 5) ∧ (0 ≤ n (-1) 0 ∧ n (-1) 0 ≤ 6) ∧ (a = 13 → ∀ i, 0 ≤ i → i < n (-1) 0 → -1 ≤ lnTo (n i) ∧ lnTo (n i) ≤ 100) ∧ (0 ≤ tz ∧ tz ≤ 60) ∧ (J 1 = 4 → (0 ≤ J 2 ∧ J 2 ≤ J 3 ∧ J 3 ≤ z ∧ J 3 - J 2 ≤ 6) ∧ ∀ j : Nat, J 2 ≤ (j : Int) → (j : Int) < J 3 → 97 ≤ byt F z (j : Int) ∧ byt F z (j : Int) ≤ 122) ∧ (a = 5 ∨ a = 7 ∨ a = 8 ∨ a = 10 ∨ a = 12 → 1 ≤ n (-1) 0) ∧ (a = 3 → n (-1) 0 < 6) ∧ (a = 17 → 0 ≤ P 6 ∧ P 6 < n (-1) 0) ∧ (a = 7 ∨ a = 8 → -1000 ≤ n (lst n) 1 ∧ n (lst n) 1 ≤ 1000) ∧ (a = 8 → -1000 ≤ n (lst n) 2 ∧ n (lst n) 2 ≤ 1000) ∧ (0 ≤ a ∧ a ≤ 20) ∧ (0 ≤ J 2 ∧ J 2 ≤ J 3) ∧ (¬ J 1 = 0 → J 3 ≤ z ∧ J 2 < J 3) := by
  obtain ⟨nm, I, I0, TL0, TB0, TL, TB, f, hC, hG⟩ := h
  have hA := hC.1
  have hD : DOk nm := hC.2.1.2.1
  have hD6 := hD.1
  have t2 := hA.1.2.2.1.2.1
  have t3 := hA.1.2.2.1.2.2
  have t7 := hA.1.2.2.1.1
  have h9 := hA.1.2.1.2.1
  have h16 := hA.1.2.1.1.2.2.2.2
  have hE := AL_end hA.1
  have v1 : 4 ≤ p3c F nm I0 ∧ p3c F nm I0 ≤ 60 := nhV_r (by decide)
  have v2 : 0 ≤ p4l F nm I0 ∧ p4l F nm I0 ≤ p3c F nm I0 - 1 := nhV_r (by omega)
  have hword : J 1 = 4 → (0 ≤ J 2 ∧ J 2 ≤ J 3 ∧ J 3 ≤ z ∧ J 3 - J 2 ≤ 6) ∧ ∀ j : Nat, J 2 ≤ (j : Int) → (j : Int) < J 3 → 97 ≤ byt F z (j : Int) ∧ byt F z (j : Int) ≤ 122 := fun h4 => by
    obtain ⟨e1, e2, e3, e4, e5⟩ := (AL_NM hA.1).1 h4
    rw [t2, t3]
    refine ⟨by omega, fun j u v => ?_⟩
    have := e5 j u v
    rw [byt_raw (by omega) this]
    exact this
  have hend : ¬ J 1 = 0 → J 3 ≤ z ∧ J 2 < J 3 := fun hj => by
    have h10 : ¬ I 10 = 0 := fun q => hj (hE.mpr q)
    have hlt := hA.2.1 h10
    omega
  have hRel : RelS n nm → (0 ≤ n (-1) 0 ∧ n (-1) 0 ≤ 6) := fun hr => by rw [hr.1]; exact hD6
  have hBl : ∀ {v : Int}, BLD n nm v → (1 ≤ n (-1) 0 ∧ n (-1) 0 ≤ 6) := fun hb => by have := hb.1; omega
  have key : (0 ≤ n (-1) 0 ∧ n (-1) 0 ≤ 6) ∧ (a = 13 → ∀ i, 0 ≤ i → i < n (-1) 0 → -1 ≤ lnTo (n i) ∧ lnTo (n i) ≤ 100) ∧ (a = 5 ∨ a = 7 ∨ a = 8 ∨ a = 10 ∨ a = 12 → 1 ≤ n (-1) 0) ∧ (a = 3 → n (-1) 0 < 6) ∧ (a = 17 → 0 ≤ P 6 ∧ P 6 < n (-1) 0) ∧ (a = 7 ∨ a = 8 → -1000 ≤ n (lst n) 1 ∧ n (lst n) 1 ≤ 1000) ∧ (a = 8 → -1000 ≤ n (lst n) 2 ∧ n (lst n) 2 ≤ 1000) ∧ (0 ≤ a ∧ a ≤ 20) := by
    rcases hG with ⟨rfl, hR, hr, h0, e0, eL, eB⟩ | ⟨rfl, hR, hr, e0, eL, eB⟩ | ⟨rfl, nw, hR, hS, hr, hn6⟩ | ⟨ha, hR, hS, hL⟩ | ⟨ha, hR, hS, hr, hDD⟩ | ⟨ha, hR, hS, hr, hT⟩
    · refine ⟨hRel hr, ?_, ?_, ?_, ?_, ?_, ?_, by decide⟩ <;> (intro q; exact absurd q (by decide))
    · refine ⟨hRel hr, ?_, ?_, ?_, ?_, ?_, ?_, by decide⟩ <;> (intro q; exact absurd q (by decide))
    · refine ⟨by rw [hr.1]; exact hn6, ?_, ?_, ?_, ?_, ?_, ?_, by decide⟩ <;> (intro q; exact absurd q (by decide))
    · rcases hL with ⟨rfl, hr, h6, hI⟩ | ⟨rfl, hb, hI⟩ | ⟨rfl, hb, hI⟩ | ⟨rfl, hb, hB, hI⟩ | ⟨rfl, hb, hB, hI⟩ | ⟨rfl, hb, hB, hI⟩ | ⟨rfl, hb, hB, hI⟩ | ⟨rfl, hb, hB, hI⟩ | ⟨rfl, hb, hB, hI⟩ | ⟨rfl, hb, hB, hw, hI⟩
      · refine ⟨hRel hr, ?_, ?_, fun _ => by have := hr.1; omega, ?_, ?_, ?_, by decide⟩ <;> (intro q; exact absurd q (by decide))
      all_goals have hc := hBl hb
      · refine ⟨by omega, ?_, ?_, ?_, ?_, ?_, ?_, by decide⟩ <;> (intro q; exact absurd q (by decide))
      · refine ⟨by omega, ?_, fun _ => hc.1, ?_, ?_, ?_, ?_, by decide⟩ <;> (intro q; exact absurd q (by decide))
      · refine ⟨by omega, ?_, ?_, ?_, ?_, ?_, ?_, by decide⟩ <;> (intro q; exact absurd q (by decide))
      · refine ⟨by omega, ?_, fun _ => hc.1, ?_, ?_, fun _ => by rw [BLD_lst hb, hB]; omega, ?_, by decide⟩ <;> (intro q; exact absurd q (by decide))
      · refine ⟨by omega, ?_, fun _ => hc.1, ?_, ?_, fun _ => by rw [BLD_lst hb, hB.1]; omega, fun _ => by rw [BLD_lst hb, hB.2]; omega, by decide⟩ <;> (intro q; exact absurd q (by decide))
      · refine ⟨by omega, ?_, ?_, ?_, ?_, ?_, ?_, by decide⟩ <;> (intro q; exact absurd q (by decide))
      · refine ⟨by omega, ?_, fun _ => hc.1, ?_, ?_, ?_, ?_, by decide⟩ <;> (intro q; exact absurd q (by decide))
      · refine ⟨by omega, ?_, ?_, ?_, ?_, ?_, ?_, by decide⟩ <;> (intro q; exact absurd q (by decide))
      · refine ⟨by omega, ?_, fun _ => hc.1, ?_, ?_, ?_, ?_, by decide⟩ <;> (intro q; exact absurd q (by decide))
    · rcases hDD with ⟨rfl, hI⟩ | ⟨rfl, hq, hI⟩ | ⟨rfl, hq, hI⟩ | ⟨rfl, hq, h7, hI⟩ | ⟨rfl, hq, h7, hI⟩
      · refine ⟨hRel hr, fun _ i u v => ?_, ?_, ?_, ?_, ?_, ?_, by decide⟩
        · have hlo := hD.2.2.1 i u (by rw [← hr.1]; exact v)
          have e12 := hr.2.2.1 i 12 u (by rw [← hr.1]; exact v) (by decide) (by decide)
          have e13 := hr.2.2.1 i 13 u (by rw [← hr.1]; exact v) (by decide) (by decide)
          unfold LineOk at hlo
          unfold lnTo
          rw [e12, e13]
          split <;> omega
        all_goals (intro q; exact absurd q (by decide))
      · refine ⟨hRel hr, ?_, ?_, ?_, ?_, ?_, ?_, by decide⟩ <;> (intro q; exact absurd q (by decide))
      · refine ⟨hRel hr, ?_, ?_, ?_, ?_, ?_, ?_, by decide⟩ <;> (intro q; exact absurd q (by decide))
      · refine ⟨hRel hr, ?_, ?_, ?_, ?_, ?_, ?_, by decide⟩ <;> (intro q; exact absurd q (by decide))
      · refine ⟨hRel hr, ?_, ?_, ?_, fun _ => by have h1 := hq.1; have h2 := hq.2; have h3 := hr.1; omega, ?_, ?_, by decide⟩ <;> (intro q; exact absurd q (by decide))
    · rcases hT with ⟨rfl, hT⟩ | ⟨rfl, hT⟩ | ⟨rfl, hT⟩ <;> (refine ⟨hRel hr, ?_, ?_, ?_, ?_, ?_, ?_, by decide⟩ <;> (intro q; exact absurd q (by decide)))
  obtain ⟨k1, k2, k3, k4, k5, k6, k7, k8⟩ := key
  exact ⟨AL_r hA.1, hA.1.2.2.2.2.2.2.2, hC.2.2.2.2.2, k1, k2, by have := hC.2.2.2.1; omega, hword, k3, k4, k5, k6, k7, k8, by omega, hend⟩
/-- at the text's end -/
theorem SIM_end (hF : ∀ j, -128 ≤ F j ∧ F j ≤ 127) (hz : z ≤ 400) (h : SIM F z R a J P n tz fB fL) (h0 : J 1 = 0) : (a = 1 → R.1 12 = 0 ∧ R.1 13 = -1 ∧ RelS n R.2.1 ∧ tz = R.1 16 ∧ ∀ k : Nat, (k : Int) < tz → fB k = R.2.2.2 k ∧ fL k = R.2.2.1 k) ∧ (¬ a = 1 → R.1 12 = 1 ∧ R.1 13 = J 2) := by
  have hh := SIM_hyps h
  have hs := fun q : ¬ a = 1 => SIM_step hF hz h (fun r => absurd r q) (fun r => by rw [h0] at r; exact absurd r (by decide))
  refine ⟨fun e => ?_, fun q => ?_⟩
  · subst e
    obtain ⟨nm, I, I0, TL0, TB0, TL, TB, f, hC, hG⟩ := h
    have hI : I 10 = 0 := (AL_end hC.1.1).mp h0
    rcases hG with ⟨q, -⟩ | ⟨-, hR, hr, e0, eL, eB⟩ | ⟨q, -⟩ | ⟨q, -⟩ | ⟨q, -⟩ | ⟨q, -⟩
    · exact absurd q (by decide)
    · rw [hR, psL_e (s := (I, nm, TL, TB)) (fun q => q.2 hI)]
      exact ⟨hC.1.1.1, hC.1.2.2, hr, hC.2.2.2.1, hC.2.2.2.2.1⟩
    · exact absurd q (by decide)
    · exact absurd q.1 (by decide)
    · exact absurd q.1 (by decide)
    · exact absurd q.1 (by decide)
  · have hc : stC a J P n tz = 1 := by
      have hr := hh.2.2.2.2.2.2.2.2.2.2.2.2.1
      have hcs : a = 0 ∨ a = 2 ∨ a = 3 ∨ a = 4 ∨ a = 5 ∨ a = 6 ∨ a = 7 ∨ a = 8 ∨ a = 9 ∨ a = 10 ∨ a = 11 ∨ a = 12 ∨ a = 13 ∨ a = 14 ∨ a = 15 ∨ a = 16 ∨ a = 17 ∨ a = 18 ∨ a = 19 ∨ a = 20 := by omega
      have k1 : ∀ k : Int, ¬ k = 0 → knC J k = 1 := fun k hk => if_neg (by rw [h0]; exact fun z => hk z.symm)
      have k2 : ∀ lo hi : Int, tnC J lo hi = 1 := fun lo hi => if_neg (by rw [h0]; decide)
      have k3 : knm J P = 1 := if_neg (by rw [h0]; decide)
      rcases hcs with e | e | e | e | e | e | e | e | e | e | e | e | e | e | e | e | e | e | e | e <;> subst e
      · exact k1 6 (by decide)
      · exact k1 2 (by decide)
      · show nnC J P = 1
        unfold nnC; rw [if_neg (by rw [h0]; decide)]
      · exact k1 7 (by decide)
      · exact k2 _ _
      · exact k1 8 (by decide)
      · exact k2 _ _
      · exact k2 _ _
      · exact k1 9 (by decide)
      · exact k2 _ _
      · show (if J 1 = 10 then 0 else knC J 2) = 1
        rw [if_neg (by rw [h0]; decide)]; exact k1 2 (by decide)
      · show ecC J = 1
        unfold ecC; rw [if_neg (by rw [h0]; decide)]
      · show leC J P n = 1
        unfold leC; rw [k3, if_neg (by decide)]
      · exact k1 15 (by decide)
      · show boC J P = 1
        unfold boC; rw [k3, if_neg (by decide)]
      · exact k1 16 (by decide)
      · exact k2 _ _
      · exact k3
      · show tbC J tz = 1
        unfold tbC; rw [k2, if_neg (by decide)]
      · show (if J 1 = 1 then tbC J tz else knC J 2) = 1
        rw [if_neg (by rw [h0]; decide)]; exact k1 2 (by decide)
    have h1 := (hs q).1
    rw [hc] at h1
    exact h1 (by decide)
/-- at the start -/
theorem SIM_init {Im TL TB : Nat → Int} {v : Int} (hF : ∀ j, -128 ≤ F j ∧ F j ≤ 127) (h6 : 0 ≤ Im 6 ∧ Im 6 ≤ 400) (hz : Im 6 = z) (h11 : 0 ≤ Im 11 ∧ Im 11 ≤ 9999) (hv : 0 ≤ v ∧ v ≤ 1000) (hn : CL0 n) (hP : -1 ≤ P 6 ∧ P 6 ≤ 5) : SIM F z (ldR F Im TL TB) 0 (tkN F z v 0) P n 0 fB fL := by
  obtain ⟨l1, l2, l3, l4, l5, l6⟩ := ldI0_v Im
  have hP0 := ldI0_P h6 h11
  have hA := ALs_scan (F := F) (z := z) (v := v) hF hP0 l3 (by rw [l1, hz]) hv rfl
  rw [l2] at hA
  have e16 : scanI F (ldI0 Im) 16 = 0 := (scanI_o (by decide)).trans l4
  refine ⟨Zn, scanI F (ldI0 Im), scanI F (ldI0 Im), TL, TB, TL, TB, 500, ⟨hA, ⟨hA.1.2.1, DOk_Z, fun _ k hk => ?_⟩, by have := hA.1.2.1.2.1; omega, e16.symm, fun k hk => by omega, hP⟩, Or.inl ⟨rfl, rfl, ⟨hn.1 0 (by decide), fun w _ _ h3 => hn.1 w h3, fun j w a b => absurd b (by show ¬ j < 0; omega), fun j a b => hn.2 j (by have : (0 : Int) ≤ j := a; exact this) b, fun j a b => absurd b (by show ¬ j < 0; omega)⟩, rfl, rfl, rfl, rfl⟩⟩
  have hk : (k : Int) < scanI F (ldI0 Im) 16 := hk
  omega
theorem stN_0 {v : Int} (h5 : a = 5 ∨ a = 7 ∨ a = 8 ∨ a = 10 ∨ a = 12 → 1 ≤ n (-1) 0) (h17 : a = 17 → 0 ≤ P 6) (h3 : ¬ a = 3) : stN a v J P n (-1) 0 = n (-1) 0 := by
  have hl : ∀ w x, 1 ≤ n (-1) 0 → seL n w x (-1) 0 = n (-1) 0 := fun w x h => by
    unfold seL
    rw [un_n (by unfold lst; omega)]
  unfold stN
  rw [if_neg h3]
  split
  · exact hl _ _ (h5 (by omega))
  · split
    · exact hl _ _ (h5 (by omega))
    · split
      · exact hl _ _ (h5 (by omega))
      · split
        · exact hl _ _ (h5 (by omega))
        · split
          · split
            · exact hl _ _ (h5 (by omega))
            · rfl
          · split
            · next q => have := h17 q; rw [un_n (by omega)]
            · rfl
end Sim
