/-! The states that undo goes back to. -/

set_option maxHeartbeats 4000000 in
set_option maxRecDepth 100000 in
theorem s_X7_forgetEarliest {G : Gm} {l : Launch} (hK : KG G) {e ip op t tr ps pa sl : Nat} {J : Nat → Int} {M : Pool} {N : Nat → Net}  : MD G l yX7_forgetEarliest cX7_forgetEarliest 3 none 1 0 0 [.ref e] [ob e 9 (ecS ip op t tr ps pa sl) J, PS G M pa 6 N] none [ob e 9 (ecS ip op t tr ps pa sl) (up J 6 5), PS G M pa 5 (shN N)] := by
  refine MX_of (lv := [some (.ref e), none, none]) hK (by decide +kernel) rfl (nle rfl) (fun X C F => ?_)
  have C : OKc G X l RX7 "forgetEarliest" cX7_forgetEarliest 3 none 1 0 0 := C
  have loop : ∀ (P : Nat → Option Nat) (Lp : Nat → Int → Nat) (T9 : Nat → Nat), (∀ j : Nat, j < 6 → P j = some (T9 j)) → ∀ (f k : Nat), 1 ≤ k → k ≤ 6 → 6 < k + f → WX G X 0 0 [ob e 9 (ecS ip op t tr ps pa sl) J, arR G 6 pa 6 (fun j => if j + 1 < k then P (j + 1) else P j), fam6 (pQ G M P Lp 6 N)] 9 [some (.ref e), some (.ref (T9 0)), some (.int (zI (k : Int)))] [] := by
    intro P Lp T9 hT f
    induction f with
    | zero => intro k h0 h1 h2; exfalso; omega
    | succ f ih =>
      intro k h0 h1 h2
      refine x_iload_n C eX7_forgetEarliest_9 rfl ?_
      refine x_aload_n C eX7_forgetEarliest_10 rfl ?_
      refine x_getR 0 C f_RX7_38 eX7_forgetEarliest_11 rfl rfl ?_
      refine x_alen 1 C eX7_forgetEarliest_14 rfl (by decide) arR_al ?_
      refine x_icmp_ge 38 C eX7_forgetEarliest_15 rfl (by omega) (by omega) (fun h15 => ?_) (fun h15 => ?_)
      · refine x_aload_n C eX7_forgetEarliest_38 rfl ?_
        refine x_getR 0 C f_RX7_38 eX7_forgetEarliest_39 rfl rfl ?_
        refine x_aload_n C eX7_forgetEarliest_42 rfl ?_
        refine x_getR 0 C f_RX7_38 eX7_forgetEarliest_43 rfl rfl ?_
        refine x_alen 1 C eX7_forgetEarliest_46 rfl (by decide) arR_al ?_
        refine x_iconst C eX7_forgetEarliest_47 ?_
        refine x_isub C eX7_forgetEarliest_48 ?_
        refine x_aload_n C eX7_forgetEarliest_49 rfl ?_
        refine x_aast [_, _, _] 1 2 C eX7_forgetEarliest_50 rfl (Or.inr ⟨rfl, rfl⟩) (by decide) (by omega) rfl (pQ_obj (i := 0) (by decide) (hT 0 (by decide))) rfl ?_
        refine x_aload_n C eX7_forgetEarliest_51 rfl ?_
        refine x_aload_n C eX7_forgetEarliest_52 rfl ?_
        refine x_getR 0 C f_RX7_38 eX7_forgetEarliest_53 rfl rfl ?_
        refine x_alen 1 C eX7_forgetEarliest_56 rfl (by decide) arR_al ?_
        refine x_iconst C eX7_forgetEarliest_57 ?_
        refine x_isub C eX7_forgetEarliest_58 ?_
        refine x_putI [_, _, _] 0 C f_RX7_280 eX7_forgetEarliest_59 rfl rfl rfl ?_
        refine x_vret C F eX7_forgetEarliest_62 () rfl trivial (fun cf c h => ?_) (nle rfl) (nle rfl)
        obtain rfl : k = 6 := by omega
        refine WF_pick [1, 0] rfl rfl (PS_shift (P := P) (Lp := Lp) (N := N) (R := [ob e 9 (ecS ip op t tr ps pa sl) (up J 6 5)]) (fun j hj => by rw [hT j hj]; simp) ?_ ?_ (WF_pick [1, 2, 0] rfl rfl h))
        · intro j hj
          rw [if_neg (by omega), if_pos (by omega)]
        · rw [if_pos (by decide)]
          exact (hT 0 (by decide)).symm
      · refine x_aload_n C eX7_forgetEarliest_18 rfl ?_
        refine x_getR 0 C f_RX7_38 eX7_forgetEarliest_19 rfl rfl ?_
        refine x_iload_n C eX7_forgetEarliest_22 rfl ?_
        refine x_iconst C eX7_forgetEarliest_23 ?_
        refine x_isub C eX7_forgetEarliest_24 ?_
        refine x_aload_n C eX7_forgetEarliest_25 rfl ?_
        refine x_getR 0 C f_RX7_38 eX7_forgetEarliest_26 rfl rfl ?_
        refine x_iload_n C eX7_forgetEarliest_29 rfl ?_
        refine x_aald (v := .ref (T9 k)) 1 C eX7_forgetEarliest_30 rfl (Or.inr rfl) (by decide) (by omega) (by rw [Int.toNat_natCast, if_neg (by omega), hT k (by omega)]; rfl) ?_
        refine x_aast [_, _, _] 1 2 C eX7_forgetEarliest_31 rfl (Or.inr ⟨rfl, rfl⟩) (by decide) (by omega) rfl (pQ_obj (i := k) (by omega) (hT k (by omega))) rfl ?_
        refine x_iinc [_, _, _] C eX7_forgetEarliest_32 rfl rfl rfl ?_
        refine x_goto (pc' := 9) C eX7_forgetEarliest_35 rfl ?_
        refine x_ws [ob e 9 (ecS ip op t tr ps pa sl) J, arR G 6 pa 6 (fun j => if j + 1 < k + 1 then P (j + 1) else P j), fam6 (pQ G M P Lp 6 N)] (fun cf0 c hw => PW.wf (PW_cons (fun _ h => h) (PW_cons (fun _ h => arR_congr (fun j hj => ?_) h) PW_rf)) (WF_pick [0, 1, 2] rfl rfl hw)) ?_
        · by_cases c1 : j = ((k : Int) - 1).toNat
          · rw [if_pos c1, if_pos (by omega), show j + 1 = k by omega, hT k (by omega)]
          · rw [if_neg c1]
            by_cases c2 : j + 1 < k
            · rw [if_pos c2, if_pos (by omega)]
            · rw [if_neg c2, if_neg (by omega)]
        · exact ih (k + 1) (by omega) (by omega) (by omega)
  refine x_oPS (M := M) (pa := pa) (c := 6) (N := N) (R := [_]) (fun _ _ hw => WF_pick [1, 0] rfl rfl hw) (fun P Lp hP => ?_)
  obtain ⟨T9, hT⟩ : ∃ T : Nat → Nat, ∀ j : Nat, j < 6 → P j = some (T j) := ⟨fun j => (P j).getD 0, fun j hj => by
    cases h : P j with
    | none => exact absurd h (hP j (by omega) hj)
    | some t => show _ = some ((P j).getD 0); rw [h]; rfl⟩
  refine x_aload_n C eX7_forgetEarliest_0 rfl ?_
  refine x_getR 2 C f_RX7_38 eX7_forgetEarliest_1 rfl rfl ?_
  refine x_iconst C eX7_forgetEarliest_4 ?_
  refine x_aald (v := .ref (T9 0)) 0 C eX7_forgetEarliest_5 rfl (Or.inr rfl) (by decide) (by omega) (by rw [show (0 : Int).toNat = 0 from rfl, hT 0 (by decide)]; rfl) ?_
  refine x_astore_n [_, _, _] C eX7_forgetEarliest_6 rfl rfl (nlt rfl) ?_
  refine x_iconst C eX7_forgetEarliest_7 ?_
  refine x_istore_n [_, _, _] C eX7_forgetEarliest_8 rfl rfl (nlt rfl) ?_
  refine x_ws [ob e 9 (ecS ip op t tr ps pa sl) J, arR G 6 pa 6 (fun j => if j + 1 < 1 then P (j + 1) else P j), fam6 (pQ G M P Lp 6 N)] (fun cf0 c hw => PW.wf (PW_cons (fun _ h => h) (PW_cons (fun _ h => arR_congr (fun j hj => ?_) h) PW_rf)) (WF_pick [2, 0, 1] rfl rfl hw)) ?_
  · rw [if_neg (by omega)]
  · exact loop P Lp T9 hT 10 1 (by decide) (by decide) (by decide)

set_option maxHeartbeats 4000000 in
set_option maxRecDepth 100000 in
theorem s_X7_remember {G : Gm} {l : Launch} (hK : KG G) {e ip op t tr ps pa sl al lg : Nat} {J : Nat → Int} {M : Pool} {L : Int → Nat} {n : Net} {N : Nat → Net} {b : Int} (hN : NetOk b n) (hb : b ≤ 900000000) (h6 : 0 ≤ J 6 ∧ J 6 ≤ 6) (hS : KS G) : MD G l yX7_remember cX7_remember 2 none 8 64 1900 [.ref e] [ob e 9 (ecS ip op t tr ps pa sl) J, ob t 8 (tkS al lg) (tkI (n)), arR G 5 al 6 (fun j => some (L (j : Int))), LF G M L (n), LOG G lg (n), PS G M pa (J 6) N] none [ob e 9 (ecS ip op t tr ps pa sl) (up J 6 (rmR (J 6))), ob t 8 (tkS al lg) (tkI (n)), arR G 5 al 6 (fun j => some (L (j : Int))), LF G M L (n), LOG G lg (n), PS G M pa (rmR (J 6)) (rmP (J 6) N n)] := by
  refine MX_of (lv := [some (.ref e), none]) hK (by decide +kernel) rfl (by first | exact nle rfl | omega) (fun X C F => ?_)
  have C : OKc G X l RX7 "remember" cX7_remember 2 none 8 64 1900 := C
  have hH := hN.1
  unfold HeadOk at hH
  refine x_aload_n C eX7_remember_0 rfl ?_
  refine x_getI 0 C f_RX7_280 eX7_remember_1 rfl rfl ?_
  try simp (disch := decide) only [up_s, up_n, tkI_2, tkI_3, tkI_4, tkI_5, tkI_6, tkI_7, tkI_8, lnI_1, lnI_2, lnI_3, lnI_4, lnI_5, lnI_10, lnI_11, lnI_12, lnI_13, lnI_14, lnI_15]
  refine x_aload_n C eX7_remember_4 rfl ?_
  refine x_getR 0 C f_RX7_38 eX7_remember_5 rfl rfl ?_
  refine x_alen 5 C eX7_remember_8 rfl (by decide) PS_al ?_
  refine x_icmp_lt 16 C eX7_remember_9 rfl (by omega) (by omega) (fun h9 => ?_) (fun h9 => ?_)
  · have eR : rmR (J 6) = J 6 + 1 := if_neg (by omega)
    have eP : rmP (J 6) N n = uN N (J 6).toNat n := if_neg (by omega)
    refine x_aload_n C eX7_remember_16 rfl ?_
    refine x_getI 0 C f_RX7_280 eX7_remember_17 rfl rfl ?_
    try simp (disch := decide) only [up_s, up_n, tkI_2, tkI_3, tkI_4, tkI_5, tkI_6, tkI_7, tkI_8, lnI_1, lnI_2, lnI_3, lnI_4, lnI_5, lnI_10, lnI_11, lnI_12, lnI_13, lnI_14, lnI_15]
    refine x_if_lt 35 C eX7_remember_20 rfl (by omega) (fun h20 => ?_) (fun h20 => ?_)
    · exfalso; omega
    · refine x_aload_n C eX7_remember_23 rfl ?_
      refine x_getI 0 C f_RX7_280 eX7_remember_24 rfl rfl ?_
      try simp (disch := decide) only [up_s, up_n, tkI_2, tkI_3, tkI_4, tkI_5, tkI_6, tkI_7, tkI_8, lnI_1, lnI_2, lnI_3, lnI_4, lnI_5, lnI_10, lnI_11, lnI_12, lnI_13, lnI_14, lnI_15]
      refine x_aload_n C eX7_remember_27 rfl ?_
      refine x_getR 0 C f_RX7_38 eX7_remember_28 rfl rfl ?_
      refine x_alen 5 C eX7_remember_31 rfl (by decide) PS_al ?_
      refine x_icmp_lt 36 C eX7_remember_32 rfl (by omega) (by omega) (fun h32 => ?_) (fun h32 => ?_)
      · refine x_oPS (M := M) (pa := pa) (c := J 6) (N := N) (R := [_, _, _, _, _]) (fun _ _ hw => WF_pick [5, 0, 1, 2, 3, 4] rfl rfl hw) (fun P Lp hP => ?_)
        refine x_aload_n C eX7_remember_36 rfl ?_
        refine x_getR 2 C f_RX7_38 eX7_remember_37 rfl rfl ?_
        refine x_aload_n C eX7_remember_40 rfl ?_
        refine x_getI 2 C f_RX7_280 eX7_remember_41 rfl rfl ?_
        try simp (disch := decide) only [up_s, up_n, tkI_2, tkI_3, tkI_4, tkI_5, tkI_6, tkI_7, tkI_8, lnI_1, lnI_2, lnI_3, lnI_4, lnI_5, lnI_10, lnI_11, lnI_12, lnI_13, lnI_14, lnI_15]
        cases hrow : P (J 6 : Int).toNat with
        | none =>
          refine x_aald (v := .null) 0 C eX7_remember_44 rfl (Or.inr rfl) (by decide) (by omega) (by rw [hrow]; rfl) ?_
          refine x_oR (R := [_, _, _, _, _, _]) (J 6 : Int).toNat (by omega) (fun _ _ hw => WF_pick [1, 0, 2, 3, 4, 5, 6] rfl rfl hw) (pQ_none hrow) ?_
          refine x_astoreN_n [_, _] C eX7_remember_45 rfl rfl (nlt rfl) ?_
          refine x_aloadN_n C eX7_remember_46 rfl ?_
          refine x_ifnonnullN C eX7_remember_47 ?_
          refine x_new C n_RX7_19 eX7_remember_50 (by first | exact nle rfl | omega) (by first | exact nle rfl | omega) (fun t1 => ?_)
          refine x_dup C eX7_remember_53 rfl ?_
          refine yI0x (ret' := none) [_, _, _, _, _, _, _, _] C (s_X6_init hK (M := M) hS) v_X6_init vi_X6_init rfl s_RX7_21 eX7_remember_54 (fun _ _ h => WF_pick [0, 1, 2, 3, 4, 5, 6, 7, 8] rfl rfl h) rfl (by first | exact nle rfl | omega) (by first | exact nle rfl | omega) (by first | exact nle rfl | omega) (by first | exact nle rfl | omega) (fun x54 hx54 => ?_)
          refine x_astore_n [_, _] C eX7_remember_57 rfl rfl (nlt rfl) ?_
          refine x_aload_n C eX7_remember_58 rfl ?_
          refine x_getR 4 C f_RX7_38 eX7_remember_59 rfl rfl ?_
          refine x_aload_n C eX7_remember_62 rfl ?_
          refine x_getI 4 C f_RX7_280 eX7_remember_63 rfl rfl ?_
          try simp (disch := decide) only [up_s, up_n, tkI_2, tkI_3, tkI_4, tkI_5, tkI_6, tkI_7, tkI_8, lnI_1, lnI_2, lnI_3, lnI_4, lnI_5, lnI_10, lnI_11, lnI_12, lnI_13, lnI_14, lnI_15]
          refine x_aload_n C eX7_remember_66 rfl ?_
          refine x_aast [_, _, _, _, _, _, _, _, _] 3 0 C eX7_remember_67 rfl (Or.inr ⟨rfl, rfl⟩) (by decide) (by omega) rfl (fun _ h => TG_obj (TG_of h)) rfl ?_
          refine x_oTG (t := t1) (L := x54) (R := [_, _, _, _, _, _, _, _]) (fun _ _ hw => PW.wf (PW_cons (fun _ h => TG_of h) PW_rf) (WF_pick [0, 1, 2, 3, 4, 5, 6, 7, 8] rfl rfl hw)) (fun al3 lg3 J3 => ?_)
          refine x_aload_n C eX7_remember_68 rfl ?_
          refine x_aload_n C eX7_remember_69 rfl ?_
          refine x_getR 7 C f_RX7_22 eX7_remember_70 rfl rfl ?_
          refine yV1v [_, _, _, _] [_, _, _, _, _, _, _, _, _, _, _, _] C (s_X6_copyFrom hK hN (by omega)) v_X6_copyFrom vv_X6_copyFrom s_RX7_87 eX7_remember_73 (fun _ _ h => WF_pick [0, 1, 2, 3, 8, 9, 10, 11, 4, 5, 6, 7] rfl rfl h) (rcv 0 rfl) rfl (by first | exact nle rfl | omega) (by first | exact nle rfl | omega) (by first | exact nle rfl | omega) (by first | exact nle rfl | omega) rfl ?_
          refine x_aload_n C eX7_remember_76 rfl ?_
          refine x_dup C eX7_remember_77 rfl ?_
          refine x_getI 11 C f_RX7_280 eX7_remember_78 rfl rfl ?_
          try simp (disch := decide) only [up_s, up_n, tkI_2, tkI_3, tkI_4, tkI_5, tkI_6, tkI_7, tkI_8, lnI_1, lnI_2, lnI_3, lnI_4, lnI_5, lnI_10, lnI_11, lnI_12, lnI_13, lnI_14, lnI_15]
          refine x_iconst C eX7_remember_81 ?_
          refine x_iadd C eX7_remember_82 ?_
          refine x_putI [_, _, _, _, _, _, _, _, _, _, _, _] 11 C f_RX7_280 eX7_remember_83 rfl rfl rfl ?_
          refine x_vret C F eX7_remember_86 () rfl trivial (fun cf c h => ?_) (by first | exact nle rfl | omega) (by first | exact nle rfl | omega)
          rw [eR, eP]
          skip
          have ei : (J 6 : Int).toNat = (J 6).toNat := rfl
          have eq : pQ G M (fun j => if j = (J 6 : Int).toNat then some t1 else P j) (fun j => if j = (J 6 : Int).toNat then x54 else Lp j) (J 6 + 1) (uN N (J 6).toNat n) (J 6 : Int).toNat = TO G M t1 x54 n := by
            rw [pQ_told (t := t1) (if_pos rfl) (by omega)]
            rw [show (uN N (J 6).toNat n) (J 6 : Int).toNat = n from if_pos rfl]
            show TO G M t1 (if (J 6 : Int).toNat = (J 6 : Int).toNat then x54 else Lp (J 6 : Int).toNat) n = _; rw [if_pos rfl]
          have h9 := WF_cTO (t := t1) (L := x54) (m := n) (R := [_, _, _, _, _, _, _]) (WF_pick [0, 1, 2, 3, 10, 9, 4, 5, 6, 7, 11] rfl rfl h)
          rw [← eq] at h9
          have h8 := WF_cPS (M := M) (pa := pa) (P := P) (P' := (fun j => if j = (J 6 : Int).toNat then some t1 else P j)) (Lp := Lp) (Lp' := (fun j => if j = (J 6 : Int).toNat then x54 else Lp j)) (c := J 6) (c' := J 6 + 1) (N := N) (N' := (uN N (J 6).toNat n)) (R := [_, _, _, _, _]) (J 6 : Int).toNat (by omega) (fun j hj hji => pQ_eq (if_neg hji) (if_neg hji) (by omega) (fun _ => if_neg (by omega))) (fun j hj hj6 => ?_) (WF_pick [1, 0, 2, 3, 4, 5, 6, 7] rfl rfl h9)
          · exact WF_pick [5, 1, 2, 3, 4, 0] rfl rfl h8
          · by_cases q : j = (J 6 : Int).toNat
            · rw [if_pos q]; simp
            · rw [if_neg q]; exact hP j (by omega) hj6
        | some t1 =>
          refine x_aald (v := .ref t1) 0 C eX7_remember_44 rfl (Or.inr rfl) (by decide) (by omega) (by rw [hrow]; rfl) ?_
          refine x_oR (R := [_, _, _, _, _, _]) (J 6 : Int).toNat (by omega) (fun _ _ hw => WF_pick [1, 0, 2, 3, 4, 5, 6] rfl rfl hw) (pQ_not hrow (by omega)) ?_
          refine x_astore_n [_, _] C eX7_remember_45 rfl rfl (nlt rfl) ?_
          refine x_aload_n C eX7_remember_46 rfl ?_
          refine x_ifnonnull (pc' := 68) C eX7_remember_47 rfl ?_
          refine x_oTG (t := t1) (L := (Lp (J 6 : Int).toNat)) (R := [_, _, _, _, _, _, _]) (fun _ _ hw => WF_pick [0, 1, 2, 3, 4, 5, 6, 7] rfl rfl hw) (fun al3 lg3 J3 => ?_)
          refine x_aload_n C eX7_remember_68 rfl ?_
          refine x_aload_n C eX7_remember_69 rfl ?_
          refine x_getR 6 C f_RX7_22 eX7_remember_70 rfl rfl ?_
          refine yV1v [_, _, _] [_, _, _, _, _, _, _, _, _, _, _] C (s_X6_copyFrom hK hN (by omega)) v_X6_copyFrom vv_X6_copyFrom s_RX7_87 eX7_remember_73 (fun _ _ h => WF_pick [0, 1, 2, 3, 7, 8, 9, 10, 4, 5, 6] rfl rfl h) (rcv 0 rfl) rfl (by first | exact nle rfl | omega) (by first | exact nle rfl | omega) (by first | exact nle rfl | omega) (by first | exact nle rfl | omega) rfl ?_
          refine x_aload_n C eX7_remember_76 rfl ?_
          refine x_dup C eX7_remember_77 rfl ?_
          refine x_getI 10 C f_RX7_280 eX7_remember_78 rfl rfl ?_
          try simp (disch := decide) only [up_s, up_n, tkI_2, tkI_3, tkI_4, tkI_5, tkI_6, tkI_7, tkI_8, lnI_1, lnI_2, lnI_3, lnI_4, lnI_5, lnI_10, lnI_11, lnI_12, lnI_13, lnI_14, lnI_15]
          refine x_iconst C eX7_remember_81 ?_
          refine x_iadd C eX7_remember_82 ?_
          refine x_putI [_, _, _, _, _, _, _, _, _, _, _] 10 C f_RX7_280 eX7_remember_83 rfl rfl rfl ?_
          refine x_vret C F eX7_remember_86 () rfl trivial (fun cf c h => ?_) (by first | exact nle rfl | omega) (by first | exact nle rfl | omega)
          rw [eR, eP]
          skip
          have ei : (J 6 : Int).toNat = (J 6).toNat := rfl
          have eq : pQ G M P Lp (J 6 + 1) (uN N (J 6).toNat n) (J 6 : Int).toNat = TO G M t1 (Lp (J 6 : Int).toNat) n := by
            rw [pQ_told (t := t1) (hrow) (by omega)]
            rw [show (uN N (J 6).toNat n) (J 6 : Int).toNat = n from if_pos rfl]
            skip
          have h9 := WF_cTO (t := t1) (L := (Lp (J 6 : Int).toNat)) (m := n) (R := [_, _, _, _, _, _, _]) (WF_pick [0, 1, 2, 3, 9, 8, 4, 5, 6, 7, 10] rfl rfl h)
          rw [← eq] at h9
          have h8 := WF_cPS (M := M) (pa := pa) (P := P) (P' := P) (Lp := Lp) (Lp' := Lp) (c := J 6) (c' := J 6 + 1) (N := N) (N' := (uN N (J 6).toNat n)) (R := [_, _, _, _, _]) (J 6 : Int).toNat (by omega) (fun j hj hji => pQ_eq (rfl) (rfl) (by omega) (fun _ => if_neg (by omega))) (fun j hj hj6 => ?_) (WF_pick [1, 0, 2, 3, 4, 5, 6, 7] rfl rfl h9)
          · exact WF_pick [5, 1, 2, 3, 4, 0] rfl rfl h8
          · by_cases q : j = (J 6 : Int).toNat
            · rw [q, hrow]; simp
            · exact hP j (by omega) hj6
        done
      · exfalso; omega
  · have eR : rmR (J 6) = 6 := if_pos (by omega)
    have eP : rmP (J 6) N n = uN (shN N) 5 n := if_pos (by omega)
    rw [show J 6 = 6 by omega]
    skip
    refine x_aload_n C eX7_remember_12 rfl ?_
    refine yV0v [_, _, _, _] [_, _, _, _, _, _] C (s_X7_forgetEarliest hK ) v_X7_forgetEarliest vv_X7_forgetEarliest s_RX7_285 eX7_remember_13 (fun _ _ h => WF_pick [0, 5, 1, 2, 3, 4] rfl rfl h) (rcv 0 rfl) rfl (by first | exact nle rfl | omega) (by first | exact nle rfl | omega) (by first | exact nle rfl | omega) (by first | exact nle rfl | omega) rfl ?_
    refine x_aload_n C eX7_remember_16 rfl ?_
    refine x_getI 0 C f_RX7_280 eX7_remember_17 rfl rfl ?_
    try simp (disch := decide) only [up_s, up_n, tkI_2, tkI_3, tkI_4, tkI_5, tkI_6, tkI_7, tkI_8, lnI_1, lnI_2, lnI_3, lnI_4, lnI_5, lnI_10, lnI_11, lnI_12, lnI_13, lnI_14, lnI_15]
    refine x_if_lt 35 C eX7_remember_20 rfl (by omega) (fun h20 => ?_) (fun h20 => ?_)
    · exfalso; omega
    · refine x_aload_n C eX7_remember_23 rfl ?_
      refine x_getI 0 C f_RX7_280 eX7_remember_24 rfl rfl ?_
      try simp (disch := decide) only [up_s, up_n, tkI_2, tkI_3, tkI_4, tkI_5, tkI_6, tkI_7, tkI_8, lnI_1, lnI_2, lnI_3, lnI_4, lnI_5, lnI_10, lnI_11, lnI_12, lnI_13, lnI_14, lnI_15]
      refine x_aload_n C eX7_remember_27 rfl ?_
      refine x_getR 0 C f_RX7_38 eX7_remember_28 rfl rfl ?_
      refine x_alen 1 C eX7_remember_31 rfl (by decide) PS_al ?_
      refine x_icmp_lt 36 C eX7_remember_32 rfl (by omega) (by omega) (fun h32 => ?_) (fun h32 => ?_)
      · refine x_oPS (M := M) (pa := pa) (c := 5) (N := (shN N)) (R := [_, _, _, _, _]) (fun _ _ hw => WF_pick [1, 0, 2, 3, 4, 5] rfl rfl hw) (fun P Lp hP => ?_)
        refine x_aload_n C eX7_remember_36 rfl ?_
        refine x_getR 2 C f_RX7_38 eX7_remember_37 rfl rfl ?_
        refine x_aload_n C eX7_remember_40 rfl ?_
        refine x_getI 2 C f_RX7_280 eX7_remember_41 rfl rfl ?_
        try simp (disch := decide) only [up_s, up_n, tkI_2, tkI_3, tkI_4, tkI_5, tkI_6, tkI_7, tkI_8, lnI_1, lnI_2, lnI_3, lnI_4, lnI_5, lnI_10, lnI_11, lnI_12, lnI_13, lnI_14, lnI_15]
        cases hrow : P (5 : Int).toNat with
        | none =>
          refine x_aald (v := .null) 0 C eX7_remember_44 rfl (Or.inr rfl) (by decide) (by omega) (by rw [hrow]; rfl) ?_
          refine x_oR (R := [_, _, _, _, _, _]) (5 : Int).toNat (by omega) (fun _ _ hw => WF_pick [1, 0, 2, 3, 4, 5, 6] rfl rfl hw) (pQ_none hrow) ?_
          refine x_astoreN_n [_, _] C eX7_remember_45 rfl rfl (nlt rfl) ?_
          refine x_aloadN_n C eX7_remember_46 rfl ?_
          refine x_ifnonnullN C eX7_remember_47 ?_
          refine x_new C n_RX7_19 eX7_remember_50 (by first | exact nle rfl | omega) (by first | exact nle rfl | omega) (fun t1 => ?_)
          refine x_dup C eX7_remember_53 rfl ?_
          refine yI0x (ret' := none) [_, _, _, _, _, _, _, _] C (s_X6_init hK (M := M) hS) v_X6_init vi_X6_init rfl s_RX7_21 eX7_remember_54 (fun _ _ h => WF_pick [0, 1, 2, 3, 4, 5, 6, 7, 8] rfl rfl h) rfl (by first | exact nle rfl | omega) (by first | exact nle rfl | omega) (by first | exact nle rfl | omega) (by first | exact nle rfl | omega) (fun x54 hx54 => ?_)
          refine x_astore_n [_, _] C eX7_remember_57 rfl rfl (nlt rfl) ?_
          refine x_aload_n C eX7_remember_58 rfl ?_
          refine x_getR 4 C f_RX7_38 eX7_remember_59 rfl rfl ?_
          refine x_aload_n C eX7_remember_62 rfl ?_
          refine x_getI 4 C f_RX7_280 eX7_remember_63 rfl rfl ?_
          try simp (disch := decide) only [up_s, up_n, tkI_2, tkI_3, tkI_4, tkI_5, tkI_6, tkI_7, tkI_8, lnI_1, lnI_2, lnI_3, lnI_4, lnI_5, lnI_10, lnI_11, lnI_12, lnI_13, lnI_14, lnI_15]
          refine x_aload_n C eX7_remember_66 rfl ?_
          refine x_aast [_, _, _, _, _, _, _, _, _] 3 0 C eX7_remember_67 rfl (Or.inr ⟨rfl, rfl⟩) (by decide) (by omega) rfl (fun _ h => TG_obj (TG_of h)) rfl ?_
          refine x_oTG (t := t1) (L := x54) (R := [_, _, _, _, _, _, _, _]) (fun _ _ hw => PW.wf (PW_cons (fun _ h => TG_of h) PW_rf) (WF_pick [0, 1, 2, 3, 4, 5, 6, 7, 8] rfl rfl hw)) (fun al3 lg3 J3 => ?_)
          refine x_aload_n C eX7_remember_68 rfl ?_
          refine x_aload_n C eX7_remember_69 rfl ?_
          refine x_getR 7 C f_RX7_22 eX7_remember_70 rfl rfl ?_
          refine yV1v [_, _, _, _] [_, _, _, _, _, _, _, _, _, _, _, _] C (s_X6_copyFrom hK hN (by omega)) v_X6_copyFrom vv_X6_copyFrom s_RX7_87 eX7_remember_73 (fun _ _ h => WF_pick [0, 1, 2, 3, 8, 9, 10, 11, 4, 5, 6, 7] rfl rfl h) (rcv 0 rfl) rfl (by first | exact nle rfl | omega) (by first | exact nle rfl | omega) (by first | exact nle rfl | omega) (by first | exact nle rfl | omega) rfl ?_
          refine x_aload_n C eX7_remember_76 rfl ?_
          refine x_dup C eX7_remember_77 rfl ?_
          refine x_getI 11 C f_RX7_280 eX7_remember_78 rfl rfl ?_
          try simp (disch := decide) only [up_s, up_n, tkI_2, tkI_3, tkI_4, tkI_5, tkI_6, tkI_7, tkI_8, lnI_1, lnI_2, lnI_3, lnI_4, lnI_5, lnI_10, lnI_11, lnI_12, lnI_13, lnI_14, lnI_15]
          refine x_iconst C eX7_remember_81 ?_
          refine x_iadd C eX7_remember_82 ?_
          refine x_putI [_, _, _, _, _, _, _, _, _, _, _, _] 11 C f_RX7_280 eX7_remember_83 rfl rfl rfl ?_
          refine x_vret C F eX7_remember_86 () rfl trivial (fun cf c h => ?_) (by first | exact nle rfl | omega) (by first | exact nle rfl | omega)
          rw [eR, eP]
          rw [show up J 6 6 = up (up J 6 5) 6 (5 + 1) from by funext j; unfold up; by_cases q : j = 6; (rw [if_pos q, if_pos q]; rfl); rw [if_neg q, if_neg q, if_neg q]]
          have ei : (5 : Int).toNat = 5 := rfl
          have eq : pQ G M (fun j => if j = (5 : Int).toNat then some t1 else P j) (fun j => if j = (5 : Int).toNat then x54 else Lp j) (6) (uN (shN N) 5 n) (5 : Int).toNat = TO G M t1 x54 n := by
            rw [pQ_told (t := t1) (if_pos rfl) (by omega)]
            rw [show (uN (shN N) 5 n) (5 : Int).toNat = n from if_pos rfl]
            show TO G M t1 (if (5 : Int).toNat = (5 : Int).toNat then x54 else Lp (5 : Int).toNat) n = _; rw [if_pos rfl]
          have h9 := WF_cTO (t := t1) (L := x54) (m := n) (R := [_, _, _, _, _, _, _]) (WF_pick [0, 1, 2, 3, 10, 9, 4, 5, 6, 7, 11] rfl rfl h)
          rw [← eq] at h9
          have h8 := WF_cPS (M := M) (pa := pa) (P := P) (P' := (fun j => if j = (5 : Int).toNat then some t1 else P j)) (Lp := Lp) (Lp' := (fun j => if j = (5 : Int).toNat then x54 else Lp j)) (c := 5) (c' := 6) (N := (shN N)) (N' := (uN (shN N) 5 n)) (R := [_, _, _, _, _]) (5 : Int).toNat (by omega) (fun j hj hji => pQ_eq (if_neg hji) (if_neg hji) (by omega) (fun _ => if_neg (by omega))) (fun j hj hj6 => ?_) (WF_pick [1, 0, 2, 3, 4, 5, 6, 7] rfl rfl h9)
          · exact WF_pick [5, 1, 2, 3, 4, 0] rfl rfl h8
          · by_cases q : j = (5 : Int).toNat
            · rw [if_pos q]; simp
            · rw [if_neg q]; exact hP j (by omega) hj6
        | some t1 =>
          refine x_aald (v := .ref t1) 0 C eX7_remember_44 rfl (Or.inr rfl) (by decide) (by omega) (by rw [hrow]; rfl) ?_
          refine x_oR (R := [_, _, _, _, _, _]) (5 : Int).toNat (by omega) (fun _ _ hw => WF_pick [1, 0, 2, 3, 4, 5, 6] rfl rfl hw) (pQ_not hrow (by omega)) ?_
          refine x_astore_n [_, _] C eX7_remember_45 rfl rfl (nlt rfl) ?_
          refine x_aload_n C eX7_remember_46 rfl ?_
          refine x_ifnonnull (pc' := 68) C eX7_remember_47 rfl ?_
          refine x_oTG (t := t1) (L := (Lp (5 : Int).toNat)) (R := [_, _, _, _, _, _, _]) (fun _ _ hw => WF_pick [0, 1, 2, 3, 4, 5, 6, 7] rfl rfl hw) (fun al3 lg3 J3 => ?_)
          refine x_aload_n C eX7_remember_68 rfl ?_
          refine x_aload_n C eX7_remember_69 rfl ?_
          refine x_getR 6 C f_RX7_22 eX7_remember_70 rfl rfl ?_
          refine yV1v [_, _, _] [_, _, _, _, _, _, _, _, _, _, _] C (s_X6_copyFrom hK hN (by omega)) v_X6_copyFrom vv_X6_copyFrom s_RX7_87 eX7_remember_73 (fun _ _ h => WF_pick [0, 1, 2, 3, 7, 8, 9, 10, 4, 5, 6] rfl rfl h) (rcv 0 rfl) rfl (by first | exact nle rfl | omega) (by first | exact nle rfl | omega) (by first | exact nle rfl | omega) (by first | exact nle rfl | omega) rfl ?_
          refine x_aload_n C eX7_remember_76 rfl ?_
          refine x_dup C eX7_remember_77 rfl ?_
          refine x_getI 10 C f_RX7_280 eX7_remember_78 rfl rfl ?_
          try simp (disch := decide) only [up_s, up_n, tkI_2, tkI_3, tkI_4, tkI_5, tkI_6, tkI_7, tkI_8, lnI_1, lnI_2, lnI_3, lnI_4, lnI_5, lnI_10, lnI_11, lnI_12, lnI_13, lnI_14, lnI_15]
          refine x_iconst C eX7_remember_81 ?_
          refine x_iadd C eX7_remember_82 ?_
          refine x_putI [_, _, _, _, _, _, _, _, _, _, _] 10 C f_RX7_280 eX7_remember_83 rfl rfl rfl ?_
          refine x_vret C F eX7_remember_86 () rfl trivial (fun cf c h => ?_) (by first | exact nle rfl | omega) (by first | exact nle rfl | omega)
          rw [eR, eP]
          rw [show up J 6 6 = up (up J 6 5) 6 (5 + 1) from by funext j; unfold up; by_cases q : j = 6; (rw [if_pos q, if_pos q]; rfl); rw [if_neg q, if_neg q, if_neg q]]
          have ei : (5 : Int).toNat = 5 := rfl
          have eq : pQ G M P Lp (6) (uN (shN N) 5 n) (5 : Int).toNat = TO G M t1 (Lp (5 : Int).toNat) n := by
            rw [pQ_told (t := t1) (hrow) (by omega)]
            rw [show (uN (shN N) 5 n) (5 : Int).toNat = n from if_pos rfl]
            skip
          have h9 := WF_cTO (t := t1) (L := (Lp (5 : Int).toNat)) (m := n) (R := [_, _, _, _, _, _, _]) (WF_pick [0, 1, 2, 3, 9, 8, 4, 5, 6, 7, 10] rfl rfl h)
          rw [← eq] at h9
          have h8 := WF_cPS (M := M) (pa := pa) (P := P) (P' := P) (Lp := Lp) (Lp' := Lp) (c := 5) (c' := 6) (N := (shN N)) (N' := (uN (shN N) 5 n)) (R := [_, _, _, _, _]) (5 : Int).toNat (by omega) (fun j hj hji => pQ_eq (rfl) (rfl) (by omega) (fun _ => if_neg (by omega))) (fun j hj hj6 => ?_) (WF_pick [1, 0, 2, 3, 4, 5, 6, 7] rfl rfl h9)
          · exact WF_pick [5, 1, 2, 3, 4, 0] rfl rfl h8
          · by_cases q : j = (5 : Int).toNat
            · rw [q, hrow]; simp
            · exact hP j (by omega) hj6
        done
      · exfalso; omega
