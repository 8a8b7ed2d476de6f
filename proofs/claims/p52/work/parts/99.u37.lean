/-! What a text does behind its last token; the load. -/
theorem LN_rel {G : Gm} {M : Pool} {a q : Nat} {B B' : Blk} (h : ∀ w, 0 ≤ w → w < 28 → B w = B' w) (h6 : B' 6 = 0) (h7 : B' 7 = 0) (h8 : B' 8 = 0) {d : Sto} (hd : LN G M a q B d) : LN G M a q B' d := by
  obtain ⟨A, hN, hd⟩ := hd
  have e6 : B 6 = B' 6 := h 6 (by decide) (by decide)
  have e7 : B 7 = B' 7 := h 7 (by decide) (by decide)
  have e8 : B 8 = B' 8 := h 8 (by decide) (by decide)
  refine ⟨A, by rw [← h 0 (by decide) (by decide)]; exact hN, ?_⟩
  have e11 : lnTo B = lnTo B' := by unfold lnTo; rw [h 12 (by decide) (by decide), h 13 (by decide) (by decide)]
  exact PW.wf (PW_cons (lnOb (h 15 (by decide) (by decide)) (h 1 (by decide) (by decide)) (h 2 (by decide) (by decide)) (h 3 (by decide) (by decide)) (h 4 (by decide) (by decide)) (h 5 (by decide) (by decide)) (h 9 (by decide) (by decide)) e11 (h 12 (by decide) (by decide)) (h 10 (by decide) (by decide)) (h 11 (by decide) (by decide)) (h 14 (by decide) (by decide))) (PW_cons (QoCv e6) (PW_cons (QaCv e6 (fun j hj => by omega)) (PW_cons (QoCv e6) (PW_cons (QaCv e6 (fun j hj => by omega)) (PW_cons (QoCv e7) (PW_cons (QaCv e7 (fun j hj => by omega)) (PW_cons (QoCv e8) (PW_cons (QaCv e8 (fun j hj => by omega)) (PW_cons (fun _ h9 => ar_congr (Nat.le_refl _) (fun j hj => h _ (by omega) (by omega)) h9) PW_nil)))))))))) hd
theorem LF_rel {G : Gm} {M : Pool} {L : Int → Nat} {n nm : Net} (h : RelS n nm) {d : Sto} (hd : LFz G M L n d) : LF G M L nm d := fam6_imp (fun j hj d hd => by
  unfold lzQ at hd
  unfold lfQ
  rw [h.1] at hd
  split
  · next c =>
    rw [if_pos c] at hd
    have h5 := h.2.2.2.2 j (by omega) c
    exact LN_rel (fun w a b => h.2.2.1 j w (by omega) c a b) h5.2.1 h5.2.2.1 h5.2.2.2 hd
  · next c => rw [if_neg c] at hd; exact LG_of_LZ hd) hd
theorem LOG_z {G : Gm} {lg : Nat} {n n' : Net} (h : n (-1) 7 = 0) (h' : n' (-1) 7 = 0) {d : Sto} (hd : LOG G lg n d) : LOG G lg n' d := by
  obtain ⟨la, x, f, hx, hd⟩ := hd
  rw [h, ← h'] at hd
  exact ⟨la, x, f, ⟨hx.1, fun k w h0 h1 _ _ => by rw [h'] at h1; omega⟩, hd⟩
theorem tyN_h {nm : Net} {TL TB : Nat → Int} {z : Int} (hT : TyOk nm z TL TB) : ∀ k : Nat, (k : Int) ≤ z → ∀ j : Int, j < 0 → tyN TL TB (ldD nm) k j = ldD nm j
  | 0, _, _, _ => rfl
  | k + 1, hk, j, hj => by
    have h1 := (hT k (by omega)).1.1
    show un _ (TL k) _ j = _
    rw [un_n (by omega)]
    exact tyN_h hT k (by omega) j hj
theorem PS_mono {G : Gm} {M M' : Pool} {pa : Nat} {c : Int} {N : Nat → Net} (hM : ∀ x ∈ M, x ∈ M') {d : Sto} (h : PS G M pa c N d) : PS G M' pa c N d := by
  obtain ⟨P, Lp, h0, h⟩ := h
  exact ⟨P, Lp, h0, PW.wf (PW_cons (fun _ h => h) (PW_cons (fun d hd => fam6_imp (fun j _ d hd => by
    cases hc : P j with
    | none => rw [pQ_none hc] at hd ⊢; exact hd
    | some t =>
      by_cases q : (j : Int) < c
      · rw [pQ_told hc q] at hd ⊢; exact TO_mono hM hd
      · rw [pQ_not hc q] at hd ⊢; exact hd) hd) PW_nil)) h⟩
/-- the class's parser, as its object holds it -/
def PRS (G : Gm) (ps ip tr : Nat) : SA := fun d => ∃ (tk qb ql bb bl : Nat) (P J : Nat → Int) (tz : Int) (fB fL : Nat → Int), ((0 ≤ J 4 ∧ J 4 ≤ 1000) ∧ (-1 ≤ P 6 ∧ P 6 ≤ 5) ∧ (0 ≤ tz ∧ tz ≤ 60)) ∧ WL [ob ps 4 (paS tk tr qb ql) P, ob tk 7 [some (.ref ip), none, none, none, none] J, ob qb 5 [some (.ref bb), none] (fun _ => tz), ar G 0 bb 60 tz.toNat fB, ob ql 5 [some (.ref bl), none] (fun _ => tz), ar G 0 bl 60 tz.toNat fL] d
section Rules
variable {G : Gm} {X : Cx} {k n : Nat} {ws : List SA} {pc : Nat} {lv : List (Option Value)} {st : List Value}
theorem x_oPR {ps ip tr : Nat} {R : List SA} (hw : ∀ cf c, WF ws cf c → WF (PRS G ps ip tr :: R) cf c) (K : ∀ (tk qb ql bb bl : Nat) (P J : Nat → Int) (tz : Int) (fB fL : Nat → Int), ((0 ≤ J 4 ∧ J 4 ≤ 1000) ∧ (-1 ≤ P 6 ∧ P 6 ≤ 5) ∧ (0 ≤ tz ∧ tz ≤ 60)) → WX G X k n (ob ps 4 (paS tk tr qb ql) P :: ob tk 7 [some (.ref ip), none, none, none, none] J :: ob qb 5 [some (.ref bb), none] (fun _ => tz) :: ar G 0 bb 60 tz.toNat fB :: ob ql 5 [some (.ref bl), none] (fun _ => tz) :: ar G 0 bl 60 tz.toNat fL :: R) pc lv st) : WX G X k n ws pc lv st := by
  intro H locs ls c h1 h2 h3 h4
  obtain ⟨y, hy, h5⟩ := WF_openX (X := (Nat × Nat × Nat × Nat × Nat) × (Nat → Int) × (Nat → Int) × Int × (Nat → Int) × (Nat → Int)) (Y := fun y => (0 ≤ y.2.2.1 4 ∧ y.2.2.1 4 ≤ 1000) ∧ (-1 ≤ y.2.1 6 ∧ y.2.1 6 ≤ 5) ∧ (0 ≤ y.2.2.2.1 ∧ y.2.2.2.1 ≤ 60)) (L := fun y => [ob ps 4 (paS y.1.1 tr y.1.2.1 y.1.2.2.1) y.2.1, ob y.1.1 7 [some (.ref ip), none, none, none, none] y.2.2.1, ob y.1.2.1 5 [some (.ref y.1.2.2.2.1), none] (fun _ => y.2.2.2.1), ar G 0 y.1.2.2.2.1 60 y.2.2.2.1.toNat y.2.2.2.2.1, ob y.1.2.2.1 5 [some (.ref y.1.2.2.2.2), none] (fun _ => y.2.2.2.1), ar G 0 y.1.2.2.2.2 60 y.2.2.2.1.toNat y.2.2.2.2.2]) (hw _ _ h1) (fun d hd => by
    obtain ⟨tk, qb, ql, bb, bl, P, J, tz, fB, fL, g0, g⟩ := hd
    exact ⟨((tk, qb, ql, bb, bl), P, J, tz, fB, fL), g0, g⟩)
  exact K _ _ _ _ _ _ _ _ _ _ hy H locs ls c h5 h2 h3 h4
end Rules
theorem WF_cPR {G : Gm} {ps ip tr tk qb ql bb bl : Nat} {P J : Nat → Int} {tz : Int} {fB fL : Nat → Int} {R : List SA} {cf c : Sto} (hb : (0 ≤ J 4 ∧ J 4 ≤ 1000) ∧ (-1 ≤ P 6 ∧ P 6 ≤ 5) ∧ (0 ≤ tz ∧ tz ≤ 60)) (h : WF (ob ps 4 (paS tk tr qb ql) P :: ob tk 7 [some (.ref ip), none, none, none, none] J :: ob qb 5 [some (.ref bb), none] (fun _ => tz) :: ar G 0 bb 60 tz.toNat fB :: ob ql 5 [some (.ref bl), none] (fun _ => tz) :: ar G 0 bl 60 tz.toNat fL :: R) cf c) : WF (PRS G ps ip tr :: R) cf c :=
  WF_close (L := [ob ps 4 (paS tk tr qb ql) P, ob tk 7 [some (.ref ip), none, none, none, none] J, ob qb 5 [some (.ref bb), none] (fun _ => tz), ar G 0 bb 60 tz.toNat fB, ob ql 5 [some (.ref bl), none] (fun _ => tz), ar G 0 bl 60 tz.toNat fL]) h (fun d hd => ⟨tk, qb, ql, bb, bl, P, J, tz, fB, fL, hb, hd⟩)

set_option maxHeartbeats 4000000 in
set_option maxRecDepth 100000 in
theorem s_X2_errorStart {G : Gm} {l : Launch} (hK : KG G) {pa tk tr qb ql q : Nat} {J P : Nat → Int}  : MD G l yX2_errorStart cX2_errorStart 1 (some .int) 1 0 0 [.ref pa] [ob pa 4 (paS tk tr qb ql) (P), ob tk 7 [some (.ref q), none, none, none, none] J] (some (.int (zI (J 2)))) [ob pa 4 (paS tk tr qb ql) (P), ob tk 7 [some (.ref q), none, none, none, none] J] := by
  refine MX_of (lv := [some (.ref pa)]) hK (by decide +kernel) rfl (nle rfl) (fun X C F => ?_)
  have C : OKc G X l RX2 "errorStart" cX2_errorStart 1 (some .int) 1 0 0 := C
  refine x_aload_n C eX2_errorStart_0 rfl ?_
  refine x_getR 0 C f_RX2_26 eX2_errorStart_1 rfl rfl ?_
  refine x_getI 1 C f_RX2_57 eX2_errorStart_4 rfl rfl ?_
  try simp (disch := decide) only [up_s, up_n]
  refine x_iret (by first | rfl | exact (narZ (by omega)).1) C F eX2_errorStart_7 () ?_ trivial (fun cf c h => ?_) (nle rfl) (nle rfl)
  · rfl
  · exact WF_pick [0, 1] rfl rfl h

set_option maxHeartbeats 4000000 in
set_option maxRecDepth 100000 in
theorem s_X2_finish {G : Gm} {l : Launch} (hK : KG G) {pa tk tr qb ql q : Nat} {J P : Nat → Int} {al lg : Nat} {M : Pool} {L : Int → Nat} {n nm : Net} {bb bl : Nat} {tz : Int} {fB fL TL TB : Nat → Int} (hr : RelS n nm) (hD : DOk nm) (hD1 : 1 ≤ nm (-1) 0) (hT : TyOk nm tz TL TB) (htz : 0 ≤ tz ∧ tz ≤ 60) (hq : ∀ k : Nat, (k : Int) < tz → fB k = TB k ∧ fL k = TL k) : MD G l yX2_finish cX2_finish 2 none 6 0 0 [.ref pa] [ob pa 4 (paS tk tr qb ql) (P), ob qb 5 [some (.ref bb), none] (fun _ => tz), ar G 0 bb 60 (tz).toNat (fB), ob ql 5 [some (.ref bl), none] (fun _ => tz), ar G 0 bl 60 (tz).toNat (fL), ob tr 8 (tkS al lg) (tkI n), arR G 5 al 6 (fun j => some (L (j : Int))), LF G M L (nm), LOG G lg (n)] none [ob pa 4 (paS tk tr qb ql) (P), ob qb 5 [some (.ref bb), none] (fun _ => tz), ar G 0 bb 60 (tz).toNat (fB), ob ql 5 [some (.ref bl), none] (fun _ => tz), ar G 0 bl 60 (tz).toNat (fL), ob tr 8 (tkS al lg) (tkI (tyN TL TB (ldD nm) tz.toNat)), arR G 5 al 6 (fun j => some (L (j : Int))), LF G M L (tyN TL TB (ldD nm) tz.toNat), LOG G lg (tyN TL TB (ldD nm) tz.toNat)] := by
  refine MX_of (lv := [some (.ref pa), none]) hK (by decide +kernel) rfl (nle rfl) (fun X C F => ?_)
  have C : OKc G X l RX2 "finish" cX2_finish 2 none 6 0 0 := C
  have eL : ∀ w : Int, ¬ w = 3 → ldD nm (-1) w = nm (-1) w := fun w hw => by unfold ldD; rw [un_s, ub_n hw]
  have hN0 := ldD_ok hD hD1
  have hD6 := hD.1
  have loop : ∀ (f k : Nat), (k : Int) ≤ tz → tz < k + f → WX G X 0 0 [ob pa 4 (paS tk tr qb ql) (P), ob qb 5 [some (.ref bb), none] (fun _ => tz), ar G 0 bb 60 (tz).toNat (fB), ob ql 5 [some (.ref bl), none] (fun _ => tz), ar G 0 bl 60 (tz).toNat (fL), ob tr 8 (tkS al lg) (tkI (ldD nm)), arR G 5 al 6 (fun j => some (L (j : Int))), LF G M L (tyN TL TB (ldD nm) k), LOG G lg (ldD nm)] 20 [some (.ref pa), some (.int (zI (k : Int)))] [] := by
    intro f
    induction f with
    | zero => intro k h0 h1; exfalso; omega
    | succ f ih =>
      intro k h0 h1
      obtain ⟨hNk, eN0⟩ := tyN_ok hT hN0 k h0
      have hbr9 : (k : Int) < tz → ((0 ≤ TL k ∧ TL k < nm (-1) 0) ∧ 1 ≤ TB k ∧ TB k ≤ 127) ∧ fB k = TB k ∧ fL k = TL k := fun q => ⟨hT k q, hq k q⟩
      refine x_iload_n C eX2_finish_20 rfl ?_
      refine x_aload_n C eX2_finish_21 rfl ?_
      refine x_getR 0 C f_RX2_12 eX2_finish_22 rfl rfl ?_
      refine x_getI 1 C f_RX2_86 eX2_finish_25 rfl rfl ?_
      skip
      refine x_icmp_ge 65 C eX2_finish_28 rfl (by omega) (by omega) (fun h28 => ?_) (fun h28 => ?_)
      · refine x_vret C F eX2_finish_65 () rfl trivial (fun cf c h => ?_) (nle rfl) (nle rfl)
        have ek : tz.toNat = k := by omega
        rw [ek] at h ⊢
        have e1 := tyN_h hT k h0
        rw [show tkI (tyN TL TB (ldD nm) k) = tkI (ldD nm) by funext j; unfold tkI; rw [e1 (-1) (by decide)], LOG_eq (n := ldD nm) (n' := tyN TL TB (ldD nm) k) (by rw [e1 (-1) (by decide)]) (e1 (-2) (by decide))]
        exact WF_pick [0, 1, 2, 3, 4, 5, 6, 7, 8] rfl rfl h
      · obtain ⟨hty9, hk9⟩ := hbr9 (by omega)
        have hL9 := hNk.2.2 (TL k) hty9.1.1 (by rw [eN0]; exact hty9.1.2)
        unfold LineOk at hL9
        refine x_aload_n C eX2_finish_31 rfl ?_
        refine x_getR 0 C f_RX2_30 eX2_finish_32 rfl rfl ?_
        refine x_aload_n C eX2_finish_35 rfl ?_
        refine x_getR 0 C f_RX2_18 eX2_finish_36 rfl rfl ?_
        refine x_iload_n C eX2_finish_39 rfl ?_
        refine yV1r [_, _, _, _, _, _, _] [_, _, _, _, _, _, _, _, _] C (s_X3_at hK htz (by omega)) v_X3_at vv_X3_at s_RX2_89 eX2_finish_40 (fun _ _ h => WF_pick [3, 4, 0, 1, 2, 5, 6, 7, 8] rfl rfl h) (rcv 3 rfl) rfl (nle rfl) (nle rfl) (nle rfl) (nle rfl) rfl ?_
        rw [show (k : Int).toNat = k from Int.toNat_natCast k, hk9.2]
        refine yV1r [_, _, _, _, _, _, _] [_, _, _, _, _, _, _, _, _] C (s_X6_lineAt hK (by omega)) v_X6_lineAt vv_X6_lineAt s_RX2_74 eX2_finish_43 (fun _ _ h => WF_pick [5, 6, 0, 1, 2, 3, 4, 7, 8] rfl rfl h) (rcv 5 rfl) rfl (nle rfl) (nle rfl) (nle rfl) (nle rfl) rfl ?_
        refine x_aload_n C eX2_finish_46 rfl ?_
        refine x_getR 4 C f_RX2_12 eX2_finish_47 rfl rfl ?_
        refine x_iload_n C eX2_finish_50 rfl ?_
        refine yV1r [_, _, _, _, _, _, _] [_, _, _, _, _, _, _, _, _] C (s_X3_at hK htz (by omega)) v_X3_at vv_X3_at s_RX2_89 eX2_finish_51 (fun _ _ h => WF_pick [5, 6, 0, 1, 2, 3, 4, 7, 8] rfl rfl h) (rcv 5 rfl) rfl (nle rfl) (nle rfl) (nle rfl) (nle rfl) rfl ?_
        rw [show (k : Int).toNat = k from Int.toNat_natCast k, hk9.1]
        refine x_iconst C eX2_finish_54 ?_
        refine yV2r [_, _, _, _, _, _, _, _] [_, _, _, _, _, _, _, _, _] C (s_FL_acceptTyped hK (by omega) (by omega) (by omega) (by omega) (by omega) (by omega)) v_X0_acceptTyped vv_X0_acceptTyped s_RX2_93 eX2_finish_55 (fun _ _ h => WF_pick [7, 0, 1, 2, 3, 4, 5, 6, 8] rfl rfl h) (rcvP 7 rfl (LF_rcv (by omega))) rfl (nle rfl) (nle rfl) (nle rfl) (nle rfl) rfl ?_
        skip
        refine x_pop C eX2_finish_58 rfl ?_
        refine x_iinc [_, _] C eX2_finish_59 rfl rfl rfl ?_
        refine x_goto (pc' := 20) C eX2_finish_62 rfl ?_
        refine x_pick [_, _, _, _, _, _, _, _, _] [7, 1, 2, 5, 6, 3, 4, 0, 8] rfl rfl ?_
        exact (by have h3 := ih (k + 1) (by omega) (by omega); rw [show tyN TL TB (ldD nm) (k + 1) = un (tyN TL TB (ldD nm) k) (TL k) (bType (tyN TL TB (ldD nm) k (TL k)) (TB k) 0) by show un _ _ (bType _ _ (tyN TL TB (ldD nm) k (-1) 1)) = _; rw [tyN_h hT k h0 (-1) (by decide), eL 1 (by decide), hD.2.1 1 (by decide) (by decide)]] at h3; exact h3)
  refine x_aload_n C eX2_finish_0 rfl ?_
  refine x_getR 0 C f_RX2_30 eX2_finish_1 rfl rfl ?_
  refine x_aload_n C eX2_finish_4 rfl ?_
  refine x_getR 0 C f_RX2_30 eX2_finish_5 rfl rfl ?_
  refine x_iconst C eX2_finish_8 ?_
  refine yV1r [_, _, _, _, _, _, _] [_, _, _, _, _, _, _, _, _] C (s_X6_lineAt hK (by decide)) v_X6_lineAt vv_X6_lineAt s_RX2_74 eX2_finish_9 (fun _ _ h => WF_pick [5, 6, 0, 1, 2, 3, 4, 7, 8] rfl rfl h) (rcv 5 rfl) rfl (nle rfl) (nle rfl) (nle rfl) (nle rfl) rfl ?_
  refine x_gL 7 C f_RX2_78 eX2_finish_12 rfl (by omega) rfl ?_
  try simp only [lnI_1, lnI_2, lnI_3, lnI_4, lnI_5, lnI_10, lnI_11, lnI_12, lnI_13, lnI_14, lnI_15]
  refine x_putI [_, _, _, _, _, _, _, _, _] 0 C f_RX2_83 eX2_finish_15 rfl rfl rfl ?_
  refine x_iconst C eX2_finish_18 ?_
  refine x_istore_n [_, _] C eX2_finish_19 rfl rfl (nlt rfl) ?_
  refine x_ws [ob pa 4 (paS tk tr qb ql) (P), ob qb 5 [some (.ref bb), none] (fun _ => tz), ar G 0 bb 60 (tz).toNat (fB), ob ql 5 [some (.ref bl), none] (fun _ => tz), ar G 0 bl 60 (tz).toNat (fL), ob tr 8 (tkS al lg) (tkI (ldD nm)), arR G 5 al 6 (fun j => some (L (j : Int))), LF G M L (ldD nm), LOG G lg (ldD nm)] (fun cf0 c hw => ?_) (loop 62 0 (by omega) (by omega))
  refine PW.wf (PW_cons (fun _ h => h) (PW_cons (fun _ h => h) (PW_cons (fun _ h => h) (PW_cons (fun _ h => h) (PW_cons (fun _ h => h) (PW_cons (tkOb ?_ ?_ ?_ ?_ ?_ ?_ ?_) (PW_cons (fun _ h => h) (PW_cons (fun d h => ?_) (PW_cons (fun d h => LOG_z (hr.2.1 7 (by decide) (by decide) (by decide)) (by rw [eL 7 (by decide)]; exact hD.2.1 7 (by decide) (by decide)) h) PW_nil))))))))) (WF_pick [2, 3, 4, 5, 6, 0, 1, 7, 8] rfl rfl hw)
  · rw [eL 0 (by decide)]; exact hr.1
  · rw [eL 1 (by decide), hD.2.1 1 (by decide) (by decide)]; exact hr.2.1 1 (by decide) (by decide) (by decide)
  · rw [eL 2 (by decide), hD.2.1 2 (by decide) (by decide)]; exact hr.2.1 2 (by decide) (by decide) (by decide)
  · show _ = un nm (-1) _ (-1) 3
    rw [un_s, ub_s]
    rfl
  · rw [eL 6 (by decide), hD.2.1 6 (by decide) (by decide)]; exact hr.2.1 6 (by decide) (by decide) (by decide)
  · rw [eL 4 (by decide), hD.2.1 4 (by decide) (by decide)]; exact hr.2.1 4 (by decide) (by decide) (by decide)
  · rw [eL 5 (by decide), hD.2.1 5 (by decide) (by decide)]; exact hr.2.1 5 (by decide) (by decide) (by decide)
  · rw [LF_eq (n := nm) (n' := ldD nm) (eL 0 (by decide)) (fun l u v => by unfold ldD; rw [un_n (by omega)])]
    exact h
