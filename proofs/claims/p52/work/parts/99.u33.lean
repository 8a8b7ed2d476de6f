/-! The parser, stage by stage: a line. -/
def STL (F I I0 : Nat → Int) (n nm : Net) (a : Int) : Prop := (a = 3 ∧ RelS n nm ∧ nm (-1) 0 < 6 ∧ I = p1I F nm I0) ∨ (a = 4 ∧ BLD n nm (p1N F nm I0) ∧ I = p2I F nm I0) ∨ (a = 5 ∧ BLD n nm (p1N F nm I0) ∧ I = twI F (p2I F nm I0) w_cap) ∨ (a = 6 ∧ BLD n nm (p1N F nm I0) ∧ ((n (nm (-1) 0) 1 = p3c F nm I0)) ∧ I = p3I F nm I0) ∨ (a = 7 ∧ BLD n nm (p1N F nm I0) ∧ ((n (nm (-1) 0) 1 = p3c F nm I0)) ∧ I = twI F (p3I F nm I0) w_marks) ∨ (a = 8 ∧ BLD n nm (p1N F nm I0) ∧ ((n (nm (-1) 0) 1 = p3c F nm I0) ∧ (n (nm (-1) 0) 2 = p4l F nm I0)) ∧ I = p4I F nm I0) ∨ (a = 9 ∧ BLD n nm (p1N F nm I0) ∧ ((n (nm (-1) 0) 1 = p3c F nm I0) ∧ (n (nm (-1) 0) 2 = p4l F nm I0) ∧ (n (nm (-1) 0) 3 = p5h F nm I0)) ∧ I = p5I F nm I0) ∨ (a = 10 ∧ BLD n nm (p1N F nm I0) ∧ ((n (nm (-1) 0) 1 = p3c F nm I0) ∧ (n (nm (-1) 0) 2 = p4l F nm I0) ∧ (n (nm (-1) 0) 3 = p5h F nm I0)) ∧ I = twI F (p5I F nm I0) w_share) ∨ (a = 11 ∧ BLD n nm (p1N F nm I0) ∧ ((n (nm (-1) 0) 1 = p3c F nm I0) ∧ (n (nm (-1) 0) 2 = p4l F nm I0) ∧ (n (nm (-1) 0) 3 = p5h F nm I0) ∧ (n (nm (-1) 0) 4 = p6s F nm I0)) ∧ I = p6I F nm I0) ∨ (a = 12 ∧ BLD n nm (p1N F nm I0) ∧ ((n (nm (-1) 0) 1 = p3c F nm I0) ∧ (n (nm (-1) 0) 2 = p4l F nm I0) ∧ (n (nm (-1) 0) 3 = p5h F nm I0) ∧ (n (nm (-1) 0) 4 = p6s F nm I0)) ∧ isWd F (p6I F nm I0) w_echo = true ∧ I = goI F (p6I F nm I0))
def STD (F I I0 : Nat → Int) (n nm : Net) (P : Nat → Int) (a : Int) : Prop := (a = 13 ∧ I = q1I F I0) ∨ (a = 14 ∧ (P 6 = q1l F nm I0 ∧ 0 ≤ q1l F nm I0 ∧ q1l F nm I0 < nm (-1) 0) ∧ I = q3I F nm I0) ∨ (a = 15 ∧ (P 6 = q1l F nm I0 ∧ 0 ≤ q1l F nm I0 ∧ q1l F nm I0 < nm (-1) 0) ∧ I = q4I F nm I0) ∨ (a = 16 ∧ (P 6 = q1l F nm I0 ∧ 0 ≤ q1l F nm I0 ∧ q1l F nm I0 < nm (-1) 0) ∧ P 7 = q4o F nm I0 ∧ I = q6I F nm I0) ∨ (a = 17 ∧ (P 6 = q1l F nm I0 ∧ 0 ≤ q1l F nm I0 ∧ q1l F nm I0 < nm (-1) 0) ∧ P 7 = q4o F nm I0 ∧ I = twI F (q6I F nm I0) w_for)
def STT (F I I0 : Nat → Int) (n nm : Net) (P TL0 TB0 TL TB : Nat → Int) (a : Int) : Prop := (a = 18 ∧ I = goI F I0 ∧ TL0 = TL ∧ TB0 = TB) ∨ (a = 19 ∧ I = t1I F nm I0 ∧ P 8 = t1l F nm I0 ∧ TL0 = TL ∧ TB0 = TB) ∨ (a = 20 ∧ P 8 = t1l F nm I0 ∧ ∃ k : Nat, 62 ≤ (k : Int) + I 16 ∧ ttR F nm I0 TL0 TB0 = (if I 10 = 2 then tyL F (t1l F nm I0) k (I, TL, TB) else (I, TL, TB)))
def STG (F : Nat → Int) (R : paSt) (a : Int) (P : Nat → Int) (n nm : Net) (I I0 TL0 TB0 TL TB : Nat → Int) (f : Nat) : Prop := (a = 0 ∧ R = psL F 500 ((if ¬ isWd F I w_line = true then errI I 1 else I), nm, TL, TB) ∧ RelS n nm ∧ nm (-1) 0 = 0 ∧ I0 = I ∧ TL0 = TL ∧ TB0 = TB) ∨ (a = 1 ∧ R = psL F f (I, nm, TL, TB) ∧ RelS n nm ∧ I0 = I ∧ TL0 = TL ∧ TB0 = TB) ∨ (a = 2 ∧ ∃ nw : Net, R = psL F f (psS F (I0, nm, TL0, TB0)) ∧ psS F (I0, nm, TL0, TB0) = (scI F I, (if scI F I 12 = 0 then nw else nm), TL, TB) ∧ RelS n nw ∧ 0 ≤ nw (-1) 0 ∧ nw (-1) 0 ≤ 6) ∨ ((3 ≤ a ∧ a ≤ 12) ∧ R = psL F f (psS F (I0, nm, TL0, TB0)) ∧ psS F (I0, nm, TL0, TB0) = (p8I F nm I0, plN F nm I0, TL, TB) ∧ STL F I I0 n nm a) ∨ ((13 ≤ a ∧ a ≤ 17) ∧ R = psL F f (psS F (I0, nm, TL0, TB0)) ∧ psS F (I0, nm, TL0, TB0) = (q8I F nm I0, qlN F nm I0, TL, TB) ∧ RelS n nm ∧ STD F I I0 n nm P a) ∨ ((18 ≤ a ∧ a ≤ 20) ∧ R = psL F f (psS F (I0, nm, TL0, TB0)) ∧ psS F (I0, nm, TL0, TB0) = (scI F (ttR F nm I0 TL0 TB0).1, nm, (ttR F nm I0 TL0 TB0).2.1, (ttR F nm I0 TL0 TB0).2.2) ∧ RelS n nm ∧ STT F I I0 n nm P TL0 TB0 TL TB a)
def CMN (F : Nat → Int) (z : Int) (J P : Nat → Int) (tz : Int) (fB fL : Nat → Int) (nm : Net) (I I0 TL0 TB0 TL TB : Nat → Int) (f : Nat) : Prop := ALs F z I J ∧ PsOk F (I0, nm, TL0, TB0) ∧ 450 ≤ (f : Int) + I 9 ∧ tz = I 16 ∧ (∀ k : Nat, (k : Int) < tz → fB k = TB k ∧ fL k = TL k) ∧ -1 ≤ P 6 ∧ P 6 ≤ 5
def SIM (F : Nat → Int) (z : Int) (R : paSt) (a : Int) (J P : Nat → Int) (n : Net) (tz : Int) (fB fL : Nat → Int) : Prop := ∃ (nm : Net) (I I0 TL0 TB0 TL TB : Nat → Int) (f : Nat), CMN F z J P tz fB fL nm I I0 TL0 TB0 TL TB f ∧ STG F R a P n nm I I0 TL0 TB0 TL TB f
def OUT (F : Nat → Int) (z : Int) (R : paSt) (J : Nat → Int) (c a' : Int) (P' : Nat → Int) (n' : Net) (tz' : Int) (fB' fL' : Nat → Int) : Prop := (¬ c = 0 → R.1 12 = c ∧ R.1 13 = J 2) ∧ (c = 0 → SIM F z R a' (tkN F z (J 4) (J 3)) P' n' tz' fB' fL' ∧ J 2 < tkN F z (J 4) (J 3) 2)
section Steps
variable {F : Nat → Int} {z tz : Int} {R : paSt} {J P P' fB fL I I0 TL0 TB0 TL TB : Nat → Int} {n nm : Net} {f : Nat}
theorem CMN_adv (hF : ∀ j, -128 ≤ F j ∧ F j ≤ 127) (h : CMN F z J P tz fB fL nm I I0 TL0 TB0 TL TB f) (h10 : ¬ I 10 = 0) (hP : -1 ≤ P' 6 ∧ P' 6 ≤ 5) : CMN F z (tkN F z (J 4) (J 3)) P' tz fB fL nm (goI F I) I0 TL0 TB0 TL TB f ∧ J 2 < tkN F z (J 4) (J 3) 2 := by
  obtain ⟨h1, h2, h3, h4, h5, -⟩ := h
  obtain ⟨g1, g2, g3, g4⟩ := ALs_next hF h1
  have e1 := h1.1.2.2.1.2.1
  have e2 := g1.1.2.2.1.2.1
  have := g3 h10
  exact ⟨⟨g1, h2, by omega, by rw [g4]; exact h4, h5, hP⟩, by omega⟩
theorem ERR_of {c : Int} {N : paSt} {g : Nat} (hA : ALs F z I J) (hR : R = psL F g N) (hN : ¬ c = 0 → N.1 = errI I c) : ¬ c = 0 → R.1 12 = c ∧ R.1 13 = J 2 := fun hc => by
  have h := errR (F := F) (f := g) hA.1.1 hc (hN hc)
  rw [hR, hA.1.2.2.1.2.1]
  exact h
theorem dd_of (hA : ALs F z I J) {c : Int} (hc : ¬ c = 0) : ¬ errI I c 12 = 0 := by rw [(errI_v hA.1.1).1]; exact hc
theorem go_12 (hA : ALs F z I J) : goI F I 12 = 0 := by
  unfold goI
  rw [if_pos hA.1.1]
  exact (scanI_o (by decide)).trans hA.1.1
theorem st_2 (hF : ∀ j, -128 ≤ F j ∧ F j ≤ 127) (hC : CMN F z J P tz fB fL nm I I0 TL0 TB0 TL TB f) {nw : Net} (hR : R = psL F f (psS F (I0, nm, TL0, TB0))) (hS : psS F (I0, nm, TL0, TB0) = (scI F I, (if scI F I 12 = 0 then nw else nm), TL, TB)) (hr : RelS n nw) : OUT F z R J (knC J 2) 1 (up P 4 1) (n) (tz) (fB) (fL) := by
  have hA := hC.1
  have hk := AL_SC hA.1
  refine ⟨ERR_of hA hR (fun hc => ?_), fun hc => ?_⟩
  · rw [hS]; exact (hk.2 hc).2.trans (by rw [(hk.2 hc).1])
  · obtain ⟨e1, h10⟩ := hk.1 hc
    have hps := PsOk_S hF hC.2.1
    rw [hS, e1, if_pos (go_12 hA)] at hps
    rw [hS, e1, if_pos (go_12 hA)] at hR
    have hadv := CMN_adv (P' := up P 4 1) hF hC h10 ⟨hC.2.2.2.2.2.1, hC.2.2.2.2.2.2⟩
    obtain ⟨g1, g2, g3, g4, g5, g6⟩ := hadv.1
    exact ⟨⟨nw, goI F I, goI F I, TL, TB, TL, TB, f, ⟨g1, hps, g3, g4, g5, g6⟩, Or.inr (Or.inl (⟨rfl, hR, hr, rfl, rfl, rfl⟩))⟩, hadv.2⟩
theorem st_4 (hF : ∀ j, -128 ≤ F j ∧ F j ≤ 127) (hC : CMN F z J P tz fB fL nm I I0 TL0 TB0 TL TB f) (hR : R = psL F f (psS F (I0, nm, TL0, TB0))) (hS : psS F (I0, nm, TL0, TB0) = (p8I F nm I0, plN F nm I0, TL, TB)) (hb : BLD n nm (p1N F nm I0)) (hI : I = p2I F nm I0) : OUT F z R J (knC J 7) 5 (up P 4 5) (n) (tz) (fB) (fL) := by
  have hA := hC.1
  have hk := AL_KW hA.1 (fun _ _ => kc_cap) (by decide)
  refine ⟨ERR_of hA hR (fun hc => ?_), fun hc => ?_⟩
  · rw [hS, (hk.2 hc).1]
    exact p8_2c (dd_of hA (by decide)) (by rw [← hI]; exact (hk.2 hc).2)
  · obtain ⟨e1, h10⟩ := hk.1 hc
    have hadv := CMN_adv (P' := up P 4 5) hF hC h10 ⟨hC.2.2.2.2.2.1, hC.2.2.2.2.2.2⟩
    exact ⟨⟨nm, goI F I, I0, TL0, TB0, TL, TB, f, hadv.1, Or.inr (Or.inr (Or.inr (Or.inl (⟨⟨by decide, by decide⟩, hR, hS, Or.inr (Or.inr (Or.inl (⟨rfl, hb, by rw [← e1, hI]⟩)))⟩))))⟩, hadv.2⟩
theorem st_6 (hF : ∀ j, -128 ≤ F j ∧ F j ≤ 127) (hC : CMN F z J P tz fB fL nm I I0 TL0 TB0 TL TB f) (hR : R = psL F f (psS F (I0, nm, TL0, TB0))) (hS : psS F (I0, nm, TL0, TB0) = (p8I F nm I0, plN F nm I0, TL, TB)) (hb : BLD n nm (p1N F nm I0)) (hB : (n (nm (-1) 0) 1 = p3c F nm I0)) (hI : I = p3I F nm I0) : OUT F z R J (knC J 8) 7 (up P 4 7) (n) (tz) (fB) (fL) := by
  have hA := hC.1
  have hk := AL_KW hA.1 (fun _ _ => kc_marks) (by decide)
  refine ⟨ERR_of hA hR (fun hc => ?_), fun hc => ?_⟩
  · rw [hS, (hk.2 hc).1]
    exact p8_3m (dd_of hA (by decide)) (by rw [← hI]; exact (hk.2 hc).2)
  · obtain ⟨e1, h10⟩ := hk.1 hc
    have hadv := CMN_adv (P' := up P 4 7) hF hC h10 ⟨hC.2.2.2.2.2.1, hC.2.2.2.2.2.2⟩
    exact ⟨⟨nm, goI F I, I0, TL0, TB0, TL, TB, f, hadv.1, Or.inr (Or.inr (Or.inr (Or.inl (⟨⟨by decide, by decide⟩, hR, hS, Or.inr (Or.inr (Or.inr (Or.inr (Or.inl (⟨rfl, hb, hB, by rw [← e1, hI]⟩)))))⟩))))⟩, hadv.2⟩
theorem st_9 (hF : ∀ j, -128 ≤ F j ∧ F j ≤ 127) (hC : CMN F z J P tz fB fL nm I I0 TL0 TB0 TL TB f) (hR : R = psL F f (psS F (I0, nm, TL0, TB0))) (hS : psS F (I0, nm, TL0, TB0) = (p8I F nm I0, plN F nm I0, TL, TB)) (hb : BLD n nm (p1N F nm I0)) (hB : (n (nm (-1) 0) 1 = p3c F nm I0) ∧ (n (nm (-1) 0) 2 = p4l F nm I0) ∧ (n (nm (-1) 0) 3 = p5h F nm I0)) (hI : I = p5I F nm I0) : OUT F z R J (knC J 9) 10 (up P 4 10) (n) (tz) (fB) (fL) := by
  have hA := hC.1
  have hk := AL_KW hA.1 (fun _ _ => kc_share) (by decide)
  refine ⟨ERR_of hA hR (fun hc => ?_), fun hc => ?_⟩
  · rw [hS, (hk.2 hc).1]
    exact p8_5s (dd_of hA (by decide)) (by rw [← hI]; exact (hk.2 hc).2)
  · obtain ⟨e1, h10⟩ := hk.1 hc
    have hadv := CMN_adv (P' := up P 4 10) hF hC h10 ⟨hC.2.2.2.2.2.1, hC.2.2.2.2.2.2⟩
    exact ⟨⟨nm, goI F I, I0, TL0, TB0, TL, TB, f, hadv.1, Or.inr (Or.inr (Or.inr (Or.inl (⟨⟨by decide, by decide⟩, hR, hS, Or.inr (Or.inr (Or.inr (Or.inr (Or.inr (Or.inr (Or.inr (Or.inl (⟨rfl, hb, hB, by rw [← e1, hI]⟩))))))))⟩))))⟩, hadv.2⟩
theorem st_5 (hF : ∀ j, -128 ≤ F j ∧ F j ≤ 127) (hC : CMN F z J P tz fB fL nm I I0 TL0 TB0 TL TB f) (hR : R = psL F f (psS F (I0, nm, TL0, TB0))) (hS : psS F (I0, nm, TL0, TB0) = (p8I F nm I0, plN F nm I0, TL, TB)) (hb : BLD n nm (p1N F nm I0)) (hI : I = twI F (p2I F nm I0) w_cap) (hlo : (4 : Int) ≤ 1000) (hhi : (60 : Int) < 1000) : OUT F z R J (tnC J (4) (60)) 6 (up P 4 6) (seL n 1 (J 4)) (tz) (fB) (fL) := by
  have hA := hC.1
  have hk := AL_NUM (lo := 4) (hi := 60) hA.1 hlo hhi
  refine ⟨ERR_of hA hR (fun hc => ?_), fun hc => ?_⟩
  · rw [hS]
    exact p8_3 (dd_of hA hc) (by unfold p3I; rw [← hI]; exact nbI_er hA.1.1 hc (hk.2 hc))
  · obtain ⟨e1, e2, e3, h10⟩ := hk.1 hc
    have hadv := CMN_adv (P' := up P 4 6) hF hC h10 ⟨hC.2.2.2.2.2.1, hC.2.2.2.2.2.2⟩
    have hset := BLD_set (w := 1) (x := J 4) hb (by decide)
    have hval : p3c F nm I0 = J 4 := by unfold p3c; rw [← hI]; exact e2
    exact ⟨⟨nm, goI F I, I0, TL0, TB0, TL, TB, f, hadv.1, Or.inr (Or.inr (Or.inr (Or.inl (⟨⟨by decide, by decide⟩, hR, hS, Or.inr (Or.inr (Or.inr (Or.inl (⟨rfl, hset.1, (by rw [hset.2.1]; exact hval.symm), by unfold p3I; rw [← hI, nbI_ok e1]⟩))))⟩))))⟩, hadv.2⟩
theorem st_7 (hF : ∀ j, -128 ≤ F j ∧ F j ≤ 127) (hC : CMN F z J P tz fB fL nm I I0 TL0 TB0 TL TB f) (hR : R = psL F f (psS F (I0, nm, TL0, TB0))) (hS : psS F (I0, nm, TL0, TB0) = (p8I F nm I0, plN F nm I0, TL, TB)) (hb : BLD n nm (p1N F nm I0)) (hB : (n (nm (-1) 0) 1 = p3c F nm I0)) (hI : I = twI F (p3I F nm I0) w_marks) (hlo : (0 : Int) ≤ 1000) (hhi : (p3c F nm I0 - 1 : Int) < 1000) : OUT F z R J (tnC J (0) (p3c F nm I0 - 1)) 8 (up P 4 8) (seL n 2 (J 4)) (tz) (fB) (fL) := by
  have hA := hC.1
  have hk := AL_NUM (lo := 0) (hi := p3c F nm I0 - 1) hA.1 hlo hhi
  refine ⟨ERR_of hA hR (fun hc => ?_), fun hc => ?_⟩
  · rw [hS]
    exact p8_4 (dd_of hA hc) (by unfold p4I; rw [← hI]; exact nbI_er hA.1.1 hc (hk.2 hc))
  · obtain ⟨e1, e2, e3, h10⟩ := hk.1 hc
    have hadv := CMN_adv (P' := up P 4 8) hF hC h10 ⟨hC.2.2.2.2.2.1, hC.2.2.2.2.2.2⟩
    have hset := BLD_set (w := 2) (x := J 4) hb (by decide)
    have hval : p4l F nm I0 = J 4 := by unfold p4l; rw [← hI]; exact e2
    exact ⟨⟨nm, goI F I, I0, TL0, TB0, TL, TB, f, hadv.1, Or.inr (Or.inr (Or.inr (Or.inl (⟨⟨by decide, by decide⟩, hR, hS, Or.inr (Or.inr (Or.inr (Or.inr (Or.inr (Or.inl (⟨rfl, hset.1, ⟨by rw [hset.2.2 1 (by decide)]; exact hB, by rw [hset.2.1]; exact hval.symm⟩, by unfold p4I; rw [← hI, nbI_ok e1]⟩))))))⟩))))⟩, hadv.2⟩
theorem st_8 (hF : ∀ j, -128 ≤ F j ∧ F j ≤ 127) (hC : CMN F z J P tz fB fL nm I I0 TL0 TB0 TL TB f) (hR : R = psL F f (psS F (I0, nm, TL0, TB0))) (hS : psS F (I0, nm, TL0, TB0) = (p8I F nm I0, plN F nm I0, TL, TB)) (hb : BLD n nm (p1N F nm I0)) (hB : (n (nm (-1) 0) 1 = p3c F nm I0) ∧ (n (nm (-1) 0) 2 = p4l F nm I0)) (hI : I = p4I F nm I0) (hlo : (p4l F nm I0 + 1 : Int) ≤ 1000) (hhi : (p3c F nm I0 : Int) < 1000) : OUT F z R J (tnC J (p4l F nm I0 + 1) (p3c F nm I0)) 9 (up P 4 9) (seL n 3 (J 4)) (tz) (fB) (fL) := by
  have hA := hC.1
  have hk := AL_NUM (lo := p4l F nm I0 + 1) (hi := p3c F nm I0) hA.1 hlo hhi
  refine ⟨ERR_of hA hR (fun hc => ?_), fun hc => ?_⟩
  · rw [hS]
    exact p8_5 (dd_of hA hc) (by unfold p5I; rw [← hI]; exact nbI_er hA.1.1 hc (hk.2 hc))
  · obtain ⟨e1, e2, e3, h10⟩ := hk.1 hc
    have hadv := CMN_adv (P' := up P 4 9) hF hC h10 ⟨hC.2.2.2.2.2.1, hC.2.2.2.2.2.2⟩
    have hset := BLD_set (w := 3) (x := J 4) hb (by decide)
    have hval : p5h F nm I0 = J 4 := by unfold p5h; rw [← hI]; exact e2
    exact ⟨⟨nm, goI F I, I0, TL0, TB0, TL, TB, f, hadv.1, Or.inr (Or.inr (Or.inr (Or.inl (⟨⟨by decide, by decide⟩, hR, hS, Or.inr (Or.inr (Or.inr (Or.inr (Or.inr (Or.inr (Or.inl (⟨rfl, hset.1, ⟨by rw [hset.2.2 1 (by decide)]; exact hB.1, by rw [hset.2.2 2 (by decide)]; exact hB.2, by rw [hset.2.1]; exact hval.symm⟩, by unfold p5I; rw [← hI, nbI_ok e1]⟩)))))))⟩))))⟩, hadv.2⟩
theorem st_10 (hF : ∀ j, -128 ≤ F j ∧ F j ≤ 127) (hC : CMN F z J P tz fB fL nm I I0 TL0 TB0 TL TB f) (hR : R = psL F f (psS F (I0, nm, TL0, TB0))) (hS : psS F (I0, nm, TL0, TB0) = (p8I F nm I0, plN F nm I0, TL, TB)) (hb : BLD n nm (p1N F nm I0)) (hB : (n (nm (-1) 0) 1 = p3c F nm I0) ∧ (n (nm (-1) 0) 2 = p4l F nm I0) ∧ (n (nm (-1) 0) 3 = p5h F nm I0)) (hI : I = twI F (p5I F nm I0) w_share) (hlo : (1 : Int) ≤ 1000) (hhi : (9 : Int) < 1000) : OUT F z R J (tnC J (1) (9)) 11 (up P 4 11) (seL n 4 (J 4)) (tz) (fB) (fL) := by
  have hA := hC.1
  have hk := AL_NUM (lo := 1) (hi := 9) hA.1 hlo hhi
  refine ⟨ERR_of hA hR (fun hc => ?_), fun hc => ?_⟩
  · rw [hS]
    exact p8_6 (dd_of hA hc) (by unfold p6I; rw [← hI]; exact nbI_er hA.1.1 hc (hk.2 hc))
  · obtain ⟨e1, e2, e3, h10⟩ := hk.1 hc
    have hadv := CMN_adv (P' := up P 4 11) hF hC h10 ⟨hC.2.2.2.2.2.1, hC.2.2.2.2.2.2⟩
    have hset := BLD_set (w := 4) (x := J 4) hb (by decide)
    have hval : p6s F nm I0 = J 4 := by unfold p6s; rw [← hI]; exact e2
    exact ⟨⟨nm, goI F I, I0, TL0, TB0, TL, TB, f, hadv.1, Or.inr (Or.inr (Or.inr (Or.inl (⟨⟨by decide, by decide⟩, hR, hS, Or.inr (Or.inr (Or.inr (Or.inr (Or.inr (Or.inr (Or.inr (Or.inr (Or.inl (⟨rfl, hset.1, ⟨by rw [hset.2.2 1 (by decide)]; exact hB.1, by rw [hset.2.2 2 (by decide)]; exact hB.2.1, by rw [hset.2.2 3 (by decide)]; exact hB.2.2, by rw [hset.2.1]; exact hval.symm⟩, by unfold p6I; rw [← hI, nbI_ok e1]⟩)))))))))⟩))))⟩, hadv.2⟩
theorem nam_I (hA : ALs F z I J) (hr : RelS n nm) (hD : DOk nm) (hnd : J 1 = 4 → P 5 = srch (fun k => decide (tW F z (J 2) (J 3 - J 2).toNat = nam (n k 0))) (n (-1) 0).toNat 0) (h4 : J 1 = 4) : P 5 = lnN nm (nmV F I) ∧ nmV F I = (wnum (tW F z (J 2) (J 3 - J 2).toNat)) ∧ isNm (wnum (tW F z (J 2) (J 3 - J 2).toNat)) ∧ nmI F I = I ∧ ¬ I 10 = 0 := by
  obtain ⟨e1, e2, e3, e4, e5⟩ := (AL_NM hA.1).1 h4
  have t2 := hA.1.2.2.1.2.1
  have t3 := hA.1.2.2.1.2.2
  have hz := hA.1.2.2.1.1
  have h := named_ok (F := F) (z := z) (s := I 9) (e := I 8) (n := n) (m := nm) ⟨e4.1, e4.2.1, e4.2.2.1, e4.2.2.2⟩ e5 hr.1 hD.1.1 (fun j u v => ⟨hr.2.2.1 j 0 u v (by decide) (by decide), (hr.2.2.2.2 j u v).1⟩)
  have hw := nmF_w (F := F) (z := z) (s := (I 9).toNat) (I 8 - I 9).toNat (fun j u v => ⟨by omega, e5 j (by omega) (by omega)⟩)
  rw [show (((I 9).toNat : Nat) : Int) = I 9 by omega] at hw
  have hl : ∀ x ∈ tW F z (I 9) (I 8 - I 9).toNat, 97 ≤ x ∧ x ≤ 122 := tW_mem (fun j hj => by
    have := e5 (I 9 + (j : Int)).toNat (by omega) (by omega)
    have h2 := byt_raw (z := z) (j := (I 9 + (j : Int)).toNat) (by omega) this
    rw [show (((I 9 + (j : Int)).toNat : Nat) : Int) = I 9 + (j : Int) by omega] at h2
    rw [h2]; exact this)
  have hd := hnd h4
  rw [t2, t3] at hd ⊢
  refine ⟨by rw [hd, h, e2], by rw [e2, hw], ⟨_, by rw [tW_len]; omega, hl, rfl⟩, e1, by omega⟩
theorem st_3 (hF : ∀ j, -128 ≤ F j ∧ F j ≤ 127) (hC : CMN F z J P tz fB fL nm I I0 TL0 TB0 TL TB f) (hR : R = psL F f (psS F (I0, nm, TL0, TB0))) (hS : psS F (I0, nm, TL0, TB0) = (p8I F nm I0, plN F nm I0, TL, TB)) (hr : RelS n nm) (h6 : nm (-1) 0 < 6) (hI : I = p1I F nm I0) (hnd : J 1 = 4 → P 5 = srch (fun k => decide (tW F z (J 2) (J 3 - J 2).toNat = nam (n k 0))) (n (-1) 0).toNat 0) : OUT F z R J (nnC J P) 4 (up P 4 4) (if nnC J P = 0 then nwN n (wnum (tW F z (J 2) (J 3 - J 2).toNat)) else n) (tz) (fB) (fL) := by
  have hA := hC.1
  have hD := hC.2.1.2.1
  have hn := AL_NM hA.1
  by_cases h4 : J 1 = 4
  · obtain ⟨e1, e2, e3, e4, h10⟩ := nam_I hA hr hD hnd h4
    by_cases h5 : P 5 = -1
    · have hc0 : nnC J P = 0 := by unfold nnC; rw [if_pos h4, if_pos h5]
      refine ⟨fun hc => absurd hc0 hc, fun _ => ?_⟩
      rw [if_pos hc0]
      have hadv := CMN_adv (P' := up P 4 4) hF hC h10 ⟨hC.2.2.2.2.2.1, hC.2.2.2.2.2.2⟩
      have hb := BLD_new hr h6 hD.1.1 e3
      have hp : p1N F nm I0 = (wnum (tW F z (J 2) (J 3 - J 2).toNat)) := by unfold p1N; rw [← hI]; exact e2
      refine ⟨⟨nm, goI F I, I0, TL0, TB0, TL, TB, f, hadv.1, Or.inr (Or.inr (Or.inr (Or.inl (⟨⟨by decide, by decide⟩, hR, hS, Or.inr (Or.inl (⟨rfl, by rw [hp]; exact hb, ?_⟩))⟩))))⟩, hadv.2⟩
      unfold p2I p1N
      rw [← hI, e4, if_neg (fun q => q (by rw [← e1]; exact h5))]
    · have hc0 : nnC J P = 3 := by unfold nnC; rw [if_pos h4, if_neg h5]
      rw [hc0]
      refine ⟨ERR_of hA hR (fun hc => ?_), fun hc => absurd hc (by decide)⟩
      rw [hS]
      refine p8_2 (dd_of hA (by decide)) ?_
      unfold p2I p1N
      rw [← hI, e4, if_pos (by rw [← e1]; exact h5), goI_dd (dd_of hA (by decide))]
  · have hc0 : nnC J P = 1 := by unfold nnC; rw [if_neg h4]
    rw [hc0]
    refine ⟨ERR_of hA hR (fun hc => ?_), fun hc => absurd hc (by decide)⟩
    rw [hS]
    refine p8_2 (dd_of hA (by decide)) ?_
    unfold p2I
    rw [← hI, (hn.2 h4).1, er_dd (dd_of hA (by decide)), goI_dd (dd_of hA (by decide))]
theorem plN_2 {e : Int} (hb : BLD n nm (p1N F nm I0)) (hB : (n (nm (-1) 0) 1 = p3c F nm I0) ∧ (n (nm (-1) 0) 2 = p4l F nm I0) ∧ (n (nm (-1) 0) 3 = p5h F nm I0) ∧ (n (nm (-1) 0) 4 = p6s F nm I0)) (h7 : p7I F nm I0 = I) (he : p7e F nm I0 = e) (hS : psS F (I0, nm, TL0, TB0) = (p8I F nm I0, plN F nm I0, TL, TB)) : psS F (I0, nm, TL0, TB0) = (scI F I, (if scI F I 12 = 0 then nAdd nm (p1N F nm I0) (n (nm (-1) 0) 1) (n (nm (-1) 0) 2) (n (nm (-1) 0) 3) (n (nm (-1) 0) 4) e else nm), TL, TB) := by
  rw [hS, hB.1, hB.2.1, hB.2.2.1, hB.2.2.2, ← h7, ← he]
  rfl
theorem nAdd_0 {a0 a1 a2 a3 a4 a5 : Int} (h : 0 ≤ nm (-1) 0) : nAdd nm a0 a1 a2 a3 a4 a5 (-1) 0 = nm (-1) 0 + 1 := by unfold nAdd; rw [un_n (by omega), un_s, ub_s]
theorem st_11 (hF : ∀ j, -128 ≤ F j ∧ F j ≤ 127) (hC : CMN F z J P tz fB fL nm I I0 TL0 TB0 TL TB f) (hR : R = psL F f (psS F (I0, nm, TL0, TB0))) (hS : psS F (I0, nm, TL0, TB0) = (p8I F nm I0, plN F nm I0, TL, TB)) (hb : BLD n nm (p1N F nm I0)) (hB : (n (nm (-1) 0) 1 = p3c F nm I0) ∧ (n (nm (-1) 0) 2 = p4l F nm I0) ∧ (n (nm (-1) 0) 3 = p5h F nm I0) ∧ (n (nm (-1) 0) 4 = p6s F nm I0)) (hI : I = p6I F nm I0) : OUT F z R J (if J 1 = 10 then 0 else knC J 2) (if J 1 = 10 then 12 else 1) (up P 4 (if J 1 = 10 then 12 else 1)) (n) (tz) (fB) (fL) := by
  have hA := hC.1
  have hw := AL_kw hA.1 (k := 10) (w := w_echo) (fun _ _ => kc_echo) (by decide)
  by_cases hj : J 1 = 10
  · rw [if_pos hj, if_pos hj]
    refine ⟨fun hc => absurd rfl hc, fun _ => ?_⟩
    have hwd := hw.mp hj
    have h10 : ¬ I 10 = 0 := by have := (isWd_iff.mp hwd).1.2.1; omega
    have hadv := CMN_adv (P' := up P 4 12) hF hC h10 ⟨hC.2.2.2.2.2.1, hC.2.2.2.2.2.2⟩
    exact ⟨⟨nm, goI F I, I0, TL0, TB0, TL, TB, f, hadv.1, Or.inr (Or.inr (Or.inr (Or.inl (⟨⟨by decide, by decide⟩, hR, hS, Or.inr (Or.inr (Or.inr (Or.inr (Or.inr (Or.inr (Or.inr (Or.inr (Or.inr (⟨rfl, hb, hB, by rw [← hI]; exact hwd, by rw [hI]⟩)))))))))⟩))))⟩, hadv.2⟩
  · rw [if_neg hj, if_neg hj]
    have hnw : ¬ isWd F I w_echo = true := fun q => hj (hw.mpr q)
    have h7 : p7I F nm I0 = I := by unfold p7I; rw [← hI]; exact if_neg hnw
    have h7e : p7e F nm I0 = 0 := by unfold p7e; rw [← hI]; exact if_neg hnw
    exact st_2 hF hC hR (plN_2 hb hB h7 h7e hS) (BLD_end0 hC.2.1.2.1 hb)
theorem st_12 (hF : ∀ j, -128 ≤ F j ∧ F j ≤ 127) (hC : CMN F z J P tz fB fL nm I I0 TL0 TB0 TL TB f) (hR : R = psL F f (psS F (I0, nm, TL0, TB0))) (hS : psS F (I0, nm, TL0, TB0) = (p8I F nm I0, plN F nm I0, TL, TB)) (hb : BLD n nm (p1N F nm I0)) (hB : (n (nm (-1) 0) 1 = p3c F nm I0) ∧ (n (nm (-1) 0) 2 = p4l F nm I0) ∧ (n (nm (-1) 0) 3 = p5h F nm I0) ∧ (n (nm (-1) 0) 4 = p6s F nm I0)) (hw : isWd F (p6I F nm I0) w_echo = true) (hI : I = goI F (p6I F nm I0)) : OUT F z R J (ecC J) 2 (up P 4 2) (if ecC J = 0 then seL n 5 (J 1 - 11) else n) (tz) (fB) (fL) := by
  have hA := hC.1
  have k1 := AL_kw hA.1 (k := 11) (w := w_none) (fun _ _ => kc_none) (by decide)
  have k2 := AL_kw hA.1 (k := 12) (w := w_each) (fun _ _ => kc_each) (by decide)
  have k3 := AL_kw hA.1 (k := 13) (w := w_whole) (fun _ _ => kc_whole) (by decide)
  have e7 : p7I F nm I0 = goI F (if isWd F I w_each = true ∨ isWd F I w_whole = true ∨ isWd F I w_none = true then I else errI I 1) := by
    unfold p7I ecI
    rw [if_pos hw, ← hI]
  have e7e : p7e F nm I0 = if isWd F I w_each = true then 1 else if isWd F I w_whole = true then 2 else 0 := by
    unfold p7e ecV
    rw [if_pos hw, ← hI]
  by_cases hc0 : ecC J = 0
  · refine ⟨fun hc => absurd hc0 hc, fun _ => ?_⟩
    rw [if_pos hc0]
    have hj : J 1 = 11 ∨ J 1 = 12 ∨ J 1 = 13 := by
      unfold ecC at hc0
      split at hc0
      · assumption
      · omega
    have hor : isWd F I w_each = true ∨ isWd F I w_whole = true ∨ isWd F I w_none = true := by
      rcases hj with q | q | q
      · exact Or.inr (Or.inr (k1.mp q))
      · exact Or.inl (k2.mp q)
      · exact Or.inr (Or.inl (k3.mp q))
    rw [if_pos hor] at e7
    have he : p7e F nm I0 = J 1 - 11 := by
      rw [e7e]
      rcases hj with q | q | q
      · rw [if_neg (fun r => by have := k2.mpr r; omega), if_neg (fun r => by have := k3.mpr r; omega)]; omega
      · rw [if_pos (k2.mp q)]; omega
      · rw [if_neg (fun r => by have := k2.mpr r; omega), if_pos (k3.mp q)]; omega
    have h10 : ¬ I 10 = 0 := by
      have := AL_end hA.1
      omega
    have hadv := CMN_adv (P' := up P 4 2) hF hC h10 ⟨hC.2.2.2.2.2.1, hC.2.2.2.2.2.2⟩
    exact ⟨⟨nm, goI F I, I0, TL0, TB0, TL, TB, f, hadv.1, Or.inr (Or.inr (Or.inl (⟨rfl, _, hR, plN_2 hb hB e7 he hS, BLD_end hC.2.1.2.1 hb, by rw [nAdd_0 hb.1.2.2]; have := hb.1; omega, by rw [nAdd_0 hb.1.2.2]; have := hb.1; omega⟩)))⟩, hadv.2⟩
  · have hc1 : ecC J = 1 := by
      unfold ecC at hc0 ⊢
      split at hc0
      · exact absurd rfl hc0
      · next q => exact if_neg q
    rw [hc1]
    refine ⟨ERR_of hA hR (fun _ => ?_), fun hc => absurd hc (by decide)⟩
    rw [hS]
    refine p8_7 (dd_of hA (by decide)) ?_
    have hj : ¬ (J 1 = 11 ∨ J 1 = 12 ∨ J 1 = 13) := fun q => by
      unfold ecC at hc1
      rw [if_pos q] at hc1
      exact absurd hc1 (by decide)
    rw [e7, if_neg, goI_dd (dd_of hA (by decide))]
    rintro (q | q | q)
    · exact hj (Or.inr (Or.inl (k2.mpr q)))
    · exact hj (Or.inr (Or.inr (k3.mpr q)))
    · exact hj (Or.inl (k1.mpr q))
end Steps
