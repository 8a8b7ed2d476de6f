/-! The parser, stage by stage: lend, type, the start. -/
section Steps
variable {F : Nat → Int} {z tz : Int} {R : paSt} {J P P' fB fL I I0 TL0 TB0 TL TB : Nat → Int} {n nm : Net} {f : Nat}
theorem tyL_s (F : Nat → Int) (l : Int) (k : Nat) (s : tySt) : tyL F l (k + 1) s = if (tyS F l s).1 12 = 0 ∧ (tyS F l s).1 10 = 2 then tyL F l k (tyS F l s) else tyS F l s := rfl
/-- a name that must be known -/
theorem kn_I (hA : ALs F z I J) (hr : RelS n nm) (hD : DOk nm) (hnd : J 1 = 4 → P 5 = srch (fun k => decide (tW F z (J 2) (J 3 - J 2).toNat = nam (n k 0))) (n (-1) 0).toNat 0) : (knm J P = 0 → J 1 = 4 ∧ lhI F nm I = I ∧ lhV F nm I = P 5 ∧ (0 ≤ P 5 ∧ P 5 < nm (-1) 0) ∧ ¬ I 10 = 0) ∧ (¬ knm J P = 0 → lhI F nm I = errI I (knm J P)) := by
  have hn := AL_NM hA.1
  by_cases h4 : J 1 = 4
  · obtain ⟨e1, e2, e3, e4, h10⟩ := nam_I hA hr hD hnd h4
    have hl := lnN_r (n := nm) (v := nmV F I) hD.1
    unfold knm
    rw [if_pos h4]
    by_cases h5 : P 5 = -1
    · rw [if_pos h5]
      refine ⟨fun q => absurd q (by decide), fun _ => ?_⟩
      unfold lhI
      rw [← e1, if_pos h5, e4]
    · rw [if_neg h5]
      refine ⟨fun _ => ⟨h4, ?_, ?_, by omega, h10⟩, fun q => absurd rfl q⟩
      · unfold lhI
        rw [← e1, if_neg h5, e4]
      · unfold lhV
        rw [← e1]
        omega
  · unfold knm
    rw [if_neg h4]
    exact ⟨fun q => absurd q (by decide), fun _ => (hn.2 h4).2 nm⟩
theorem st_13 (hF : ∀ j, -128 ≤ F j ∧ F j ≤ 127) (hC : CMN F z J P tz fB fL nm I I0 TL0 TB0 TL TB f) (hR : R = psL F f (psS F (I0, nm, TL0, TB0))) (hS : psS F (I0, nm, TL0, TB0) = (q8I F nm I0, qlN F nm I0, TL, TB)) (hr : RelS n nm) (hI : I = q1I F I0) (hnd : J 1 = 4 → P 5 = srch (fun k => decide (tW F z (J 2) (J 3 - J 2).toNat = nam (n k 0))) (n (-1) 0).toNat 0) : OUT F z R J (leC J P n) 14 (up (up P 6 (P 5)) 4 14) (n) (tz) (fB) (fL) := by
  have hA := hC.1
  have hD : DOk nm := hC.2.1.2.1
  have hD6 := hD.1
  have hk := kn_I hA hr hD hnd
  by_cases c0 : knm J P = 0
  · obtain ⟨h4, e1, e2, e3, h10⟩ := hk.1 c0
    have hlo := hD.2.2.1 (P 5) e3.1 e3.2
    have e12 := hr.2.2.1 (P 5) 12 e3.1 e3.2 (by decide) (by decide)
    have e13 := hr.2.2.1 (P 5) 13 e3.1 e3.2 (by decide) (by decide)
    unfold LineOk at hlo
    have hto : lnTo (n (P 5)) = -1 ↔ ¬ 0 < nm (P 5) 12 := by
      unfold lnTo
      rw [e12, e13]
      split <;> omega
    have q2 : q2I F nm I0 = I := by unfold q2I; rw [← hI]; exact e1
    have ql : q1l F nm I0 = P 5 := by unfold q1l; rw [← hI]; exact e2
    unfold leC
    rw [if_pos c0]
    by_cases c1 : lnTo (n (P 5)) = -1
    · rw [if_pos c1]
      refine ⟨fun hc => absurd rfl hc, fun _ => ?_⟩
      have hadv := CMN_adv (P' := up (up P 6 (P 5)) 4 14) hF hC h10 (by rw [up_n (by decide), up_s]; omega)
      refine ⟨⟨nm, goI F I, I0, TL0, TB0, TL, TB, f, hadv.1, Or.inr (Or.inr (Or.inr (Or.inr (Or.inl (⟨⟨by decide, by decide⟩, hR, hS, hr, Or.inr (Or.inl (⟨rfl, ⟨by rw [up_n (by decide), up_s, ql], by rw [ql]; exact e3⟩, ?_⟩))⟩)))))⟩, hadv.2⟩
      unfold q3I
      rw [q2, ql, if_neg (fun q => hto.mp c1 q.2)]
    · rw [if_neg c1]
      refine ⟨ERR_of hA hR (fun hc => ?_), fun hc => absurd hc (by decide)⟩
      rw [hS]
      refine q8_3 (dd_of hA (by decide)) ?_
      unfold q3I
      rw [q2, ql, if_pos ⟨hA.1.1, Classical.byContradiction fun q => c1 (hto.mpr q)⟩, goI_dd (dd_of hA (by decide))]
  · have e : leC J P n = knm J P := if_neg c0
    rw [e]
    refine ⟨ERR_of hA hR (fun hc => ?_), fun hc => absurd hc c0⟩
    rw [hS]
    exact q8_2 (dd_of hA hc) (by unfold q2I; rw [← hI]; exact hk.2 hc)
theorem st_14 (hF : ∀ j, -128 ≤ F j ∧ F j ≤ 127) (hC : CMN F z J P tz fB fL nm I I0 TL0 TB0 TL TB f) (hR : R = psL F f (psS F (I0, nm, TL0, TB0))) (hS : psS F (I0, nm, TL0, TB0) = (q8I F nm I0, qlN F nm I0, TL, TB)) (hr : RelS n nm) (hq : (P 6 = q1l F nm I0 ∧ 0 ≤ q1l F nm I0 ∧ q1l F nm I0 < nm (-1) 0)) (hI : I = q3I F nm I0) : OUT F z R J (knC J 15) 15 (up P 4 15) (n) (tz) (fB) (fL) := by
  have hA := hC.1
  have hk := AL_KW hA.1 (fun _ _ => kc_to) (by decide)
  refine ⟨ERR_of hA hR (fun hc => ?_), fun hc => ?_⟩
  · rw [hS, (hk.2 hc).1]
    exact q8_4 (dd_of hA (by decide)) (by unfold q4I; rw [← hI]; exact (hk.2 hc).2)
  · obtain ⟨e1, h10⟩ := hk.1 hc
    have hadv := CMN_adv (P' := up P 4 15) hF hC h10 ⟨hC.2.2.2.2.2.1, hC.2.2.2.2.2.2⟩
    exact ⟨⟨nm, goI F I, I0, TL0, TB0, TL, TB, f, hadv.1, Or.inr (Or.inr (Or.inr (Or.inr (Or.inl (⟨⟨by decide, by decide⟩, hR, hS, hr, Or.inr (Or.inr (Or.inl (⟨rfl, hq, by unfold q4I; rw [← e1, hI]⟩)))⟩)))))⟩, hadv.2⟩
theorem st_16 (hF : ∀ j, -128 ≤ F j ∧ F j ≤ 127) (hC : CMN F z J P tz fB fL nm I I0 TL0 TB0 TL TB f) (hR : R = psL F f (psS F (I0, nm, TL0, TB0))) (hS : psS F (I0, nm, TL0, TB0) = (q8I F nm I0, qlN F nm I0, TL, TB)) (hr : RelS n nm) (hq : (P 6 = q1l F nm I0 ∧ 0 ≤ q1l F nm I0 ∧ q1l F nm I0 < nm (-1) 0)) (h7 : P 7 = q4o F nm I0) (hI : I = q6I F nm I0) : OUT F z R J (knC J 16) 17 (up P 4 17) (n) (tz) (fB) (fL) := by
  have hA := hC.1
  have hk := AL_KW hA.1 (fun _ _ => kc_for) (by decide)
  refine ⟨ERR_of hA hR (fun hc => ?_), fun hc => ?_⟩
  · rw [hS, (hk.2 hc).1]
    exact q8_6f (dd_of hA (by decide)) (by rw [← hI]; exact (hk.2 hc).2)
  · obtain ⟨e1, h10⟩ := hk.1 hc
    have hadv := CMN_adv (P' := up P 4 17) hF hC h10 ⟨hC.2.2.2.2.2.1, hC.2.2.2.2.2.2⟩
    exact ⟨⟨nm, goI F I, I0, TL0, TB0, TL, TB, f, hadv.1, Or.inr (Or.inr (Or.inr (Or.inr (Or.inl (⟨⟨by decide, by decide⟩, hR, hS, hr, Or.inr (Or.inr (Or.inr (Or.inr (⟨rfl, hq, h7, by rw [← e1, hI]⟩))))⟩)))))⟩, hadv.2⟩
theorem st_15 (hF : ∀ j, -128 ≤ F j ∧ F j ≤ 127) (hC : CMN F z J P tz fB fL nm I I0 TL0 TB0 TL TB f) (hR : R = psL F f (psS F (I0, nm, TL0, TB0))) (hS : psS F (I0, nm, TL0, TB0) = (q8I F nm I0, qlN F nm I0, TL, TB)) (hr : RelS n nm) (hq : (P 6 = q1l F nm I0 ∧ 0 ≤ q1l F nm I0 ∧ q1l F nm I0 < nm (-1) 0)) (hI : I = q4I F nm I0) (hnd : J 1 = 4 → P 5 = srch (fun k => decide (tW F z (J 2) (J 3 - J 2).toNat = nam (n k 0))) (n (-1) 0).toNat 0) : OUT F z R J (boC J P) 16 (up (up P 7 (P 5)) 4 16) (n) (tz) (fB) (fL) := by
  have hA := hC.1
  have hD : DOk nm := hC.2.1.2.1
  have hD6 := hD.1
  have hk := kn_I hA hr hD hnd
  by_cases c0 : knm J P = 0
  · obtain ⟨h4, e1, e2, e3, h10⟩ := hk.1 c0
    have q5 : q5I F nm I0 = I := by unfold q5I; rw [← hI]; exact e1
    have ql : q4o F nm I0 = P 5 := by unfold q4o; rw [← hI]; exact e2
    unfold boC
    rw [if_pos c0]
    by_cases c1 : P 5 = P 6
    · rw [if_pos c1]
      refine ⟨ERR_of hA hR (fun hc => ?_), fun hc => absurd hc (by decide)⟩
      rw [hS]
      refine q8_6 (dd_of hA (by decide)) ?_
      unfold q6I
      rw [q5, ql, if_pos (by rw [← hq.1]; exact c1.symm), goI_dd (dd_of hA (by decide))]
    · rw [if_neg c1]
      refine ⟨fun hc => absurd rfl hc, fun _ => ?_⟩
      have hadv := CMN_adv (P' := up (up P 7 (P 5)) 4 16) hF hC h10 (by rw [up_n (by decide), up_n (by decide)]; exact ⟨hC.2.2.2.2.2.1, hC.2.2.2.2.2.2⟩)
      refine ⟨⟨nm, goI F I, I0, TL0, TB0, TL, TB, f, hadv.1, Or.inr (Or.inr (Or.inr (Or.inr (Or.inl (⟨⟨by decide, by decide⟩, hR, hS, hr, Or.inr (Or.inr (Or.inr (Or.inl (⟨rfl, ⟨by rw [up_n (by decide), up_n (by decide)]; exact hq.1, hq.2⟩, by rw [up_n (by decide), up_s, ql], ?_⟩))))⟩)))))⟩, hadv.2⟩
      unfold q6I
      rw [q5, ql, if_neg (by rw [← hq.1]; exact fun q => c1 q.symm)]
  · have e : boC J P = knm J P := if_neg c0
    rw [e]
    refine ⟨ERR_of hA hR (fun hc => ?_), fun hc => absurd hc c0⟩
    rw [hS]
    exact q8_5 (dd_of hA hc) (by unfold q5I; rw [← hI]; exact hk.2 hc)
theorem st_17 (hF : ∀ j, -128 ≤ F j ∧ F j ≤ 127) (hC : CMN F z J P tz fB fL nm I I0 TL0 TB0 TL TB f) (hR : R = psL F f (psS F (I0, nm, TL0, TB0))) (hS : psS F (I0, nm, TL0, TB0) = (q8I F nm I0, qlN F nm I0, TL, TB)) (hr : RelS n nm) (hq : (P 6 = q1l F nm I0 ∧ 0 ≤ q1l F nm I0 ∧ q1l F nm I0 < nm (-1) 0)) (h7 : P 7 = q4o F nm I0) (hI : I = twI F (q6I F nm I0) w_for) : OUT F z R J (tnC J 1 99) 2 (up P 4 2) (un n (P 6) (bLend (n (P 6)) (P 7) (J 4))) (tz) (fB) (fL) := by
  have hA := hC.1
  have hk := AL_NUM (lo := 1) (hi := 99) hA.1 (by decide) (by decide)
  refine ⟨ERR_of hA hR (fun hc => ?_), fun hc => ?_⟩
  · rw [hS]
    exact q8_7 (dd_of hA hc) (by unfold q7I; rw [← hI]; exact nbI_er hA.1.1 hc (hk.2 hc))
  · obtain ⟨e1, e2, e3, h10⟩ := hk.1 hc
    have hadv := CMN_adv (P' := up P 4 2) hF hC h10 ⟨hC.2.2.2.2.2.1, hC.2.2.2.2.2.2⟩
    have h7I : q7I F nm I0 = goI F I := by unfold q7I; rw [← hI]; exact nbI_ok e1
    have h7t : q7t F nm I0 = J 4 := by unfold q7t; rw [← hI]; exact e2
    refine ⟨⟨nm, goI F I, I0, TL0, TB0, TL, TB, f, hadv.1, Or.inr (Or.inr (Or.inl (⟨rfl, un nm (P 6) (bLend (nm (P 6)) (P 7) (J 4)), hR, ?_, RelS_lend hr (by rw [hq.1]; exact hq.2), by rw [un_n (by omega)]; exact hC.2.1.2.1.1.1, by rw [un_n (by omega)]; exact hC.2.1.2.1.1.2⟩)))⟩, hadv.2⟩
    rw [hS, ← h7I, hq.1, h7, ← h7t]
    rfl
theorem st_18 (hF : ∀ j, -128 ≤ F j ∧ F j ≤ 127) (hC : CMN F z J P tz fB fL nm I I0 TL0 TB0 TL TB f) (hR : R = psL F f (psS F (I0, nm, TL0, TB0))) (hS : psS F (I0, nm, TL0, TB0) = (scI F (ttR F nm I0 TL0 TB0).1, nm, (ttR F nm I0 TL0 TB0).2.1, (ttR F nm I0 TL0 TB0).2.2)) (hr : RelS n nm) (hI : I = goI F I0) (hTL : TL0 = TL) (hTB : TB0 = TB) (hnd : J 1 = 4 → P 5 = srch (fun k => decide (tW F z (J 2) (J 3 - J 2).toNat = nam (n k 0))) (n (-1) 0).toNat 0) : OUT F z R J (knm J P) 19 (up (up P 8 (P 5)) 4 19) (n) (tz) (fB) (fL) := by
  have hA := hC.1
  have hD : DOk nm := hC.2.1.2.1
  have hD6 := hD.1
  have hk := kn_I hA hr hD hnd
  refine ⟨ERR_of hA hR (fun hc => ?_), fun c0 => ?_⟩
  · rw [hS]
    have ht : t1I F nm I0 = errI I (knm J P) := by unfold t1I; rw [← hI, hk.2 hc, goI_dd (dd_of hA hc)]
    show scI F (ttR F nm I0 TL0 TB0).1 = _
    unfold ttR
    rw [ht]
    have hd := dd_of hA hc
    have e1 : (tyL F (t1l F nm I0) 62 (errI I (knm J P), TL0, TB0)).1 = errI I (knm J P) := by
      have e2 : tyJ (errI I (knm J P)) = errI I (knm J P) := by unfold tyJ; rw [nhI_D hd, er_dd hd]
      have e3 : tyS F (t1l F nm I0) (errI I (knm J P), TL0, TB0) = (errI I (knm J P), TL0, TB0) := by
        unfold tyS
        rw [e2, if_neg hd]
      show (tyL F (t1l F nm I0) (61 + 1) _).1 = _
      unfold tyL
      rw [e3, if_neg (fun q => hd q.1)]
    rw [e1, scI_dd hd]
  · obtain ⟨h4, e1, e2, e3, h10⟩ := hk.1 c0
    have hadv := CMN_adv (P' := up (up P 8 (P 5)) 4 19) hF hC h10 (by rw [up_n (by decide), up_n (by decide)]; exact ⟨hC.2.2.2.2.2.1, hC.2.2.2.2.2.2⟩)
    refine ⟨⟨nm, goI F I, I0, TL0, TB0, TL, TB, f, hadv.1, Or.inr (Or.inr (Or.inr (Or.inr (Or.inr (⟨⟨by decide, by decide⟩, hR, hS, hr, Or.inr (Or.inl (⟨rfl, ?_, ?_, hTL, hTB⟩))⟩)))))⟩, hadv.2⟩
    · unfold t1I; rw [← hI, e1]
    · rw [up_n (by decide), up_s]; unfold t1l; rw [← hI, e2]
/-- a byte -/
theorem tb_I (hF : ∀ j, -128 ≤ F j ∧ F j ≤ 127) (hC : CMN F z J P tz fB fL nm I I0 TL0 TB0 TL TB f) {l : Int} : (tbC J tz = 0 → tyS F l (I, TL, TB) = (goI F (up I 16 (I 16 + 1)), up TL (I 16).toNat l, up TB (I 16).toNat (J 4)) ∧ (¬ I 10 = 0 ∧ tz < 60)) ∧ (¬ tbC J tz = 0 → tyS F l (I, TL, TB) = (errI I (tbC J tz), TL, TB)) := by
  have hA := hC.1
  have hz := hC.2.2.2.1
  have h60 := hA.1.2.1.1.2.2.2.2
  have hk := AL_NUM (lo := 1) (hi := 127) hA.1 (by decide) (by decide)
  unfold tbC
  by_cases c0 : tnC J 1 127 = 0
  · obtain ⟨e1, e2, e3, h10⟩ := hk.1 c0
    rw [if_pos c0]
    by_cases c1 : tz < 60
    · rw [if_pos c1]
      refine ⟨fun _ => ⟨?_, h10, c1⟩, fun q => absurd rfl q⟩
      have ej : tyJ I = I := by unfold tyJ; rw [if_neg (by omega), e1]
      unfold tyS
      show (if tyJ I 12 = 0 then _ else _) = _
      rw [ej, if_pos hA.1.1]
      show (_, _, up TB (I 16).toNat (nhV I 1 127)) = _
      rw [e2]
    · rw [if_neg c1]
      refine ⟨fun q => absurd q (by decide), fun _ => ?_⟩
      have ej : tyJ I = errI I 5 := by unfold tyJ; rw [if_pos (by omega), e1]
      unfold tyS
      show (if tyJ I 12 = 0 then _ else (tyJ I, _, _)) = _
      rw [ej, if_neg (dd_of hA (by decide))]
  · rw [if_neg c0]
    refine ⟨fun q => absurd q c0, fun _ => ?_⟩
    have ej : tyJ I = errI I (tnC J 1 127) := by unfold tyJ; rw [hk.2 c0, er_dd (dd_of hA c0)]
    unfold tyS
    show (if tyJ I 12 = 0 then _ else (tyJ I, _, _)) = _
    rw [ej, if_neg (dd_of hA c0)]
theorem st_by (hF : ∀ j, -128 ≤ F j ∧ F j ≤ 127) (hC : CMN F z J P tz fB fL nm I I0 TL0 TB0 TL TB f) (hR : R = psL F f (psS F (I0, nm, TL0, TB0))) (hS : psS F (I0, nm, TL0, TB0) = (scI F (ttR F nm I0 TL0 TB0).1, nm, (ttR F nm I0 TL0 TB0).2.1, (ttR F nm I0 TL0 TB0).2.2)) (hr : RelS n nm) {k : Nat} (hk : 62 ≤ (k : Int) + I 16) (h8 : P 8 = t1l F nm I0) (hT : ttR F nm I0 TL0 TB0 = tyL F (t1l F nm I0) k (I, TL, TB)) (hP4 : P' = up P 4 20) : OUT F z R J (tbC J tz) 20 (P') (n) (adZ (decide (tbC J tz = 0)) tz) (adF (decide (tbC J tz = 0)) tz fB (J 4)) (adF (decide (tbC J tz = 0)) tz fL (P 8)) := by
  subst hP4
  have hA := hC.1
  have hz := hC.2.2.2.1
  have h60 := hA.1.2.1.1.2.2.2.2
  have ht := tb_I hF hC (l := t1l F nm I0)
  obtain ⟨k, rfl⟩ : ∃ k', k = k' + 1 := ⟨k - 1, by omega⟩
  by_cases c0 : tbC J tz = 0
  · obtain ⟨e1, h10, h6⟩ := ht.1 c0
    refine ⟨fun hc => absurd c0 hc, fun _ => ?_⟩
    rw [show decide (tbC J tz = 0) = true from decide_eq_true c0]
    obtain ⟨g1, g2, g3, g4⟩ := ALs_next16 (x := I 16 + 1) hF hA (by omega)
    have eJ := hA.1.2.2.1.2.1
    have eJ' := g1.1.2.2.1.2.1
    have g3' := g3 h10
    refine ⟨⟨nm, goI F (up I 16 (I 16 + 1)), I0, TL0, TB0, up TL (I 16).toNat (t1l F nm I0), up TB (I 16).toNat (J 4), f, ⟨g1, hC.2.1, by have := hC.2.2.1; omega, by rw [g4]; show tz + 1 = _; omega, fun k9 hk9 => ?_, by rw [up_n (by decide)]; exact ⟨hC.2.2.2.2.2.1, hC.2.2.2.2.2.2⟩⟩, Or.inr (Or.inr (Or.inr (Or.inr (Or.inr (⟨⟨by decide, by decide⟩, hR, hS, hr, Or.inr (Or.inr (⟨rfl, by rw [up_n (by decide)]; exact h8, k, by rw [g4]; omega, ?_⟩))⟩)))))⟩, by omega⟩
    · show up fB tz.toNat (J 4) k9 = _ ∧ up fL tz.toNat (P 8) k9 = _
      have hk9 : (k9 : Int) < tz + 1 := hk9
      rw [← hz]
      by_cases q : k9 = tz.toNat
      · rw [q, up_s, up_s, up_s, up_s]; exact ⟨rfl, h8⟩
      · rw [up_n q, up_n q, up_n q, up_n q]; exact hC.2.2.2.2.1 k9 (by omega)
    · rw [hT, tyL_s, e1]
      have hg : goI F (up I 16 (I 16 + 1)) 12 = 0 := g1.1.1
      by_cases q : goI F (up I 16 (I 16 + 1)) 10 = 2
      · rw [if_pos ⟨hg, q⟩, if_pos q]
      · rw [if_neg (fun r => q r.2), if_neg q]
  · refine ⟨ERR_of hA hR (fun hc => ?_), fun hc => absurd hc c0⟩
    rw [hS]
    show scI F (ttR F nm I0 TL0 TB0).1 = _
    rw [hT, tyL_s, ht.2 hc, if_neg (fun r => dd_of hA hc r.1)]
    exact scI_dd (dd_of hA hc)
theorem st_20e (hF : ∀ j, -128 ≤ F j ∧ F j ≤ 127) (hC : CMN F z J P tz fB fL nm I I0 TL0 TB0 TL TB f) (hR : R = psL F f (psS F (I0, nm, TL0, TB0))) (hS : psS F (I0, nm, TL0, TB0) = (scI F (ttR F nm I0 TL0 TB0).1, nm, (ttR F nm I0 TL0 TB0).2.1, (ttR F nm I0 TL0 TB0).2.2)) (hr : RelS n nm) (hT : ttR F nm I0 TL0 TB0 = (I, TL, TB)) : OUT F z R J (knC J 2) 1 (up P 4 1) (n) (tz) (fB) (fL) := by
  refine st_2 (nw := nm) hF hC hR ?_ hr
  rw [hS, hT, ite_self]
theorem st_1 (hF : ∀ j, -128 ≤ F j ∧ F j ≤ 127) (hC : CMN F z J P tz fB fL nm I I0 TL0 TB0 TL TB f) (hR : R = psL F f (I, nm, TL, TB)) (hr : RelS n nm) (e0 : I0 = I) (eL : TL0 = TL) (eB : TB0 = TB) (hz : z ≤ 400) (hne : ¬ J 1 = 0) : OUT F z R J (tsC J n) (tsA J) (up P 4 (tsA J)) (n) (tz) (fB) (fL) := by
  subst e0 eL eB
  have hA := hC.1
  have hD : DOk nm := hC.2.1.2.1
  have hD6 := hD.1
  have h10 : ¬ I0 10 = 0 := fun q => hne ((AL_end hA.1).mpr q)
  have hP9 := hA.1.2.1
  have h98 := hA.2.1 h10
  obtain ⟨f, rfl⟩ : ∃ f', f = f' + 1 := ⟨f - 1, by
    have := hC.2.2.1
    have := hP9.1.2.1
    omega⟩
  have hR1 : R = psL F f (psS F (I0, nm, TL0, TB0)) := by rw [hR]; exact if_pos ⟨hA.1.1, h10⟩
  have hC1 : CMN F z J P tz fB fL nm I0 I0 TL0 TB0 TL0 TB0 (f + 1) := hC
  have adv : ∀ a : Int, CMN F z (tkN F z (J 4) (J 3)) (up P 4 a) tz fB fL nm (goI F I0) I0 TL0 TB0 TL0 TB0 f ∧ J 2 < tkN F z (J 4) (J 3) 2 := fun a => by
    obtain ⟨g1, g2, g3, g4⟩ := ALs_next hF hA
    have eJ := hA.1.2.2.1.2.1
    have eJ' := g1.1.2.2.1.2.1
    have g3' := g3 h10
    have := hC.2.2.1
    exact ⟨⟨g1, hC.2.1, by omega, by rw [g4]; exact hC.2.2.2.1, hC.2.2.2.2.1, by rw [up_n (by decide)]; exact ⟨hC.2.2.2.2.2.1, hC.2.2.2.2.2.2⟩⟩, by omega⟩
  have k1 := AL_kw hA.1 (k := 6) (w := w_line) (fun _ _ => kc_line) (by decide)
  have k2 := AL_kw hA.1 (k := 14) (w := w_lend) (fun _ _ => kc_lend) (by decide)
  have k3 := AL_kw hA.1 (k := 17) (w := w_type) (fun _ _ => kc_type) (by decide)
  by_cases c1 : J 1 = 6
  · have hS : psS F (I0, nm, TL0, TB0) = (p8I F nm I0, plN F nm I0, TL0, TB0) := if_pos (k1.mp c1)
    have ea : tsA J = 3 := if_pos c1
    unfold tsC
    rw [if_pos c1, ea]
    by_cases c2 : n (-1) 0 < 6
    · rw [if_pos c2]
      refine ⟨fun hc => absurd rfl hc, fun _ => ?_⟩
      refine ⟨⟨nm, goI F I0, I0, TL0, TB0, TL0, TB0, f, (adv 3).1, Or.inr (Or.inr (Or.inr (Or.inl (⟨⟨by decide, by decide⟩, hR1, hS, Or.inl (⟨rfl, hr, by rw [← hr.1]; exact c2, ?_⟩)⟩))))⟩, (adv 3).2⟩
      unfold p1I
      rw [if_neg (by rw [← hr.1]; omega)]
    · rw [if_neg c2]
      refine ⟨ERR_of hA hR1 (fun _ => ?_), fun hc => absurd hc (by decide)⟩
      rw [hS]
      refine p8_1 (dd_of hA (by decide)) ?_
      unfold p1I
      rw [if_pos (by have := hr.1; omega), goI_dd (dd_of hA (by decide))]
  · have n1 : ¬ isWd F I0 w_line = true := fun q => c1 (k1.mpr q)
    by_cases c2 : J 1 = 14
    · have hS : psS F (I0, nm, TL0, TB0) = (q8I F nm I0, qlN F nm I0, TL0, TB0) := by
        unfold psS
        rw [if_neg n1, if_pos (k2.mp c2)]
      have ea : tsA J = 13 := by unfold tsA; rw [if_neg c1, if_pos c2]
      have ec : tsC J n = 0 := by unfold tsC; rw [if_neg c1, if_pos c2]
      rw [ea, ec]
      refine ⟨fun hc => absurd rfl hc, fun _ => ?_⟩
      exact ⟨⟨nm, goI F I0, I0, TL0, TB0, TL0, TB0, f, (adv 13).1, Or.inr (Or.inr (Or.inr (Or.inr (Or.inl (⟨⟨by decide, by decide⟩, hR1, hS, hr, Or.inl (⟨rfl, rfl⟩)⟩)))))⟩, (adv 13).2⟩
    · have n2 : ¬ isWd F I0 w_lend = true := fun q => c2 (k2.mpr q)
      have ea : tsA J = 18 := by unfold tsA; rw [if_neg c1, if_neg c2]
      have ec : tsC J n = knC J 17 := by unfold tsC; rw [if_neg c1, if_neg c2]
      rw [ea, ec]
      unfold knC
      by_cases c3 : J 1 = 17
      · rw [if_pos c3]
        refine ⟨fun hc => absurd rfl hc, fun _ => ?_⟩
        have hS : psS F (I0, nm, TL0, TB0) = (scI F (ttR F nm I0 TL0 TB0).1, nm, (ttR F nm I0 TL0 TB0).2.1, (ttR F nm I0 TL0 TB0).2.2) := by
          unfold psS
          rw [if_neg n1, if_neg n2, if_pos (k3.mp c3)]
        exact ⟨⟨nm, goI F I0, I0, TL0, TB0, TL0, TB0, f, (adv 18).1, Or.inr (Or.inr (Or.inr (Or.inr (Or.inr (⟨⟨by decide, by decide⟩, hR1, hS, hr, Or.inl (⟨rfl, rfl, rfl, rfl⟩)⟩)))))⟩, (adv 18).2⟩
      · rw [if_neg c3]
        refine ⟨ERR_of hA hR1 (fun _ => ?_), fun hc => absurd hc (by decide)⟩
        unfold psS
        rw [if_neg n1, if_neg n2, if_neg (fun q => c3 (k3.mpr q))]
theorem st_0 (hF : ∀ j, -128 ≤ F j ∧ F j ≤ 127) (hC : CMN F z J P tz fB fL nm I I0 TL0 TB0 TL TB f) (hR : R = psL F 500 ((if ¬ isWd F I w_line = true then errI I 1 else I), nm, TL, TB)) (hr : RelS n nm) (h0 : nm (-1) 0 = 0) (e0 : I0 = I) (eL : TL0 = TL) (eB : TB0 = TB) : OUT F z R J (knC J 6) 3 (up P 4 3) (n) (tz) (fB) (fL) := by
  subst e0 eL eB
  have hA := hC.1
  have k1 := AL_kw hA.1 (k := 6) (w := w_line) (fun _ _ => kc_line) (by decide)
  unfold knC
  by_cases c1 : J 1 = 6
  · rw [if_pos c1]
    refine ⟨fun hc => absurd rfl hc, fun _ => ?_⟩
    have hw := k1.mp c1
    have h10 : ¬ I0 10 = 0 := by have := (isWd_iff.mp hw).1.2.1; omega
    rw [if_neg (fun q => q hw)] at hR
    have hR1 : R = psL F 499 (psS F (I0, nm, TL0, TB0)) := by rw [hR]; exact if_pos ⟨hA.1.1, h10⟩
    have hS : psS F (I0, nm, TL0, TB0) = (p8I F nm I0, plN F nm I0, TL0, TB0) := if_pos hw
    obtain ⟨g1, g2, g3, g4⟩ := ALs_next hF hA
    have eJ := hA.1.2.2.1.2.1
    have eJ' := g1.1.2.2.1.2.1
    have g3' := g3 h10
    have h9 := hA.1.2.1.2.1
    refine ⟨⟨nm, goI F I0, I0, TL0, TB0, TL0, TB0, 499, ⟨g1, hC.2.1, by omega, by rw [g4]; exact hC.2.2.2.1, hC.2.2.2.2.1, by rw [up_n (by decide)]; exact ⟨hC.2.2.2.2.2.1, hC.2.2.2.2.2.2⟩⟩, Or.inr (Or.inr (Or.inr (Or.inl (⟨⟨by decide, by decide⟩, hR1, hS, Or.inl (⟨rfl, hr, by omega, ?_⟩)⟩))))⟩, by omega⟩
    unfold p1I
    rw [if_neg (by omega)]
  · rw [if_neg c1]
    refine ⟨ERR_of hA hR (fun _ => ?_), fun hc => absurd hc (by decide)⟩
    rw [if_pos (fun q => c1 (k1.mpr q))]
end Steps
