set_option maxHeartbeats 4000000 in
set_option maxRecDepth 100000 in
theorem s_X0_acceptOffered {G : Gm} {l : Launch} (hK : KG G) {a nm qi bi qa ba qo bo qw bw cn : Nat} {B : Blk} {v9 : Int} (hB : (0 ≤ B 9 ∧ B 9 ≤ 100) ∧ (0 ≤ B 7 ∧ B 7 ≤ B 1) ∧ B 1 ≤ 60 ∧ (0 ≤ B 6 ∧ B 6 ≤ 60) ∧ (0 ≤ B 8 ∧ B 8 ≤ 60)) : MD G l yX0_acceptOffered cX0_acceptOffered 2 (some .boolean) 2 0 0 [.ref a, .int (zI v9)] [ob a 2 (lnS nm qi qa qo qw cn ((B) 15)) (lnI (B)), ob qi 5 [some (.ref bi), none] (fun _ => (B) 6), ar G 0 bi 60 ((B) 6).toNat (fun j => (B) (28 + (j : Int))), ob qa 5 [some (.ref ba), none] (fun _ => (B) 6), ar G 0 ba 60 ((B) 6).toNat (fun j => (B) (88 + (j : Int))), ob qo 5 [some (.ref bo), none] (fun _ => (B) 7), ar G 0 bo 60 ((B) 7).toNat (fun j => (B) (148 + (j : Int))), ob qw 5 [some (.ref bw), none] (fun _ => (B) 8), ar G 0 bw 60 ((B) 8).toNat (fun j => (B) (208 + (j : Int))), ar G 0 cn 12 12 (fun j => (B) (16 + (j : Int)))] (some (.int (zI (bz (¬ (0 < B 9 ∨ B 7 = B 1)))))) [ob a 2 (lnS nm qi qa qo qw cn ((bOffer B v9) 15)) (lnI (bOffer B v9)), ob qi 5 [some (.ref bi), none] (fun _ => (bOffer B v9) 6), ar G 0 bi 60 ((bOffer B v9) 6).toNat (fun j => (bOffer B v9) (28 + (j : Int))), ob qa 5 [some (.ref ba), none] (fun _ => (bOffer B v9) 6), ar G 0 ba 60 ((bOffer B v9) 6).toNat (fun j => (bOffer B v9) (88 + (j : Int))), ob qo 5 [some (.ref bo), none] (fun _ => (bOffer B v9) 7), ar G 0 bo 60 ((bOffer B v9) 7).toNat (fun j => (bOffer B v9) (148 + (j : Int))), ob qw 5 [some (.ref bw), none] (fun _ => (bOffer B v9) 8), ar G 0 bw 60 ((bOffer B v9) 8).toNat (fun j => (bOffer B v9) (208 + (j : Int))), ar G 0 cn 12 12 (fun j => (bOffer B v9) (16 + (j : Int)))] := by
  refine MX_of (lv := [some (.ref a), some (.int (zI v9))]) hK (by decide +kernel) rfl (nle rfl) (fun X C F => ?_)
  have C : OKc G X l RX0 "acceptOffered" cX0_acceptOffered 2 (some .boolean) 2 0 0 := C
  refine x_aload_n C eX0_acceptOffered_0 rfl ?_
  refine x_iconst C eX0_acceptOffered_1 ?_
  refine x_iconst C eX0_acceptOffered_2 ?_
  refine yV2v [_, _, _, _, _, _, _, _] [_, _, _, _, _, _, _, _, _, _] C (s_X0_addToCount hK (by omega)) v_X0_addToCount vv_X0_addToCount s_RX0_62 eX0_acceptOffered_3 (fun _ _ h => WF_pick [0, 9, 1, 2, 3, 4, 5, 6, 7, 8] rfl rfl h) (rcv 0 rfl) rfl (nle rfl) (nle rfl) (nle rfl) (nle rfl) rfl ?_
  try rw [show (4 : Int).toNat = 4 from rfl]
  refine x_aload_n C eX0_acceptOffered_6 rfl ?_
  refine x_getI 0 C f_RX0_66 eX0_acceptOffered_7 rfl rfl ?_
  try simp (disch := decide) only [up_s, up_n, lnI_1, lnI_2, lnI_3, lnI_4, lnI_5, lnI_10, lnI_11, lnI_12, lnI_13, lnI_14, lnI_15]
  refine x_if_gt 27 C eX0_acceptOffered_10 rfl (by omega) (fun h10 => ?_) (fun h10 => ?_)
  · refine x_aload_n C eX0_acceptOffered_27 rfl ?_
    refine x_bipush C eX0_acceptOffered_28 rfl ?_
    refine x_iconst C eX0_acceptOffered_30 ?_
    refine yV2v [_, _, _, _, _, _, _, _] [_, _, _, _, _, _, _, _, _, _] C (s_X0_addToCount hK (by omega)) v_X0_addToCount vv_X0_addToCount s_RX0_62 eX0_acceptOffered_31 (fun _ _ h => WF_pick [0, 1, 2, 3, 4, 5, 6, 7, 8, 9] rfl rfl h) (rcv 0 rfl) rfl (nle rfl) (nle rfl) (nle rfl) (nle rfl) rfl ?_
    try rw [show (6 : Int).toNat = 6 from rfl]
    refine x_iconst C eX0_acceptOffered_34 ?_
    refine x_iret (narZ (by omega)).1 C F eX0_acceptOffered_35 () ?_ trivial (fun cf c h => ?_) (nle rfl) (nle rfl)
    · first | rw [bz_t (by omega)] | rw [bz_f (by omega)]
    · first
        | (rw [show bOffer B v9 = inc (inc B 20) 22 from if_pos (by omega)]
           refine LRcv ?_ ?_ ?_ ?_ ?_ ?_ ?_ ?_ ?_ ?_ ?_ ?_ ?_ ?_ ?_ ?_ ?_ ?_ ?_ ?_ ?_ (WF_pick [0, 2, 3, 4, 5, 6, 7, 8, 9, 1] rfl rfl h)
           all_goals (try intro j hj)
           all_goals (try simp (disch := omega) only [inc, lnTo, lnI_1, lnI_2, lnI_3, lnI_4, lnI_5, lnI_10, lnI_11, lnI_12, lnI_13, lnI_14, lnI_15, ub_n, ub_s, up_n, up_s, if_true])
           all_goals (try simp only [up_lit, ub_lit])
           all_goals (repeat' split)
           all_goals first | rfl | omega | (congr 1 <;> omega) | (exfalso; omega))
        | (rw [show bOffer B v9 = ub (ub (inc B 20) (148 + B 7) v9) 7 (B 7 + 1) from if_neg (by omega)]
           refine LRcv ?_ ?_ ?_ ?_ ?_ ?_ ?_ ?_ ?_ ?_ ?_ ?_ ?_ ?_ ?_ ?_ ?_ ?_ ?_ ?_ ?_ (WF_pick [0, 2, 3, 4, 5, 6, 7, 8, 9, 1] rfl rfl h)
           all_goals (try intro j hj)
           all_goals (try simp (disch := omega) only [inc, lnTo, lnI_1, lnI_2, lnI_3, lnI_4, lnI_5, lnI_10, lnI_11, lnI_12, lnI_13, lnI_14, lnI_15, ub_n, ub_s, up_n, up_s, if_true])
           all_goals (try simp only [up_lit, ub_lit])
           all_goals (repeat' split)
           all_goals first | rfl | omega | (congr 1 <;> omega) | (exfalso; omega))
  · refine x_aload_n C eX0_acceptOffered_13 rfl ?_
    refine x_getR 0 C f_RX0_43 eX0_acceptOffered_14 rfl rfl ?_
    refine x_getI 6 C f_RX0_59 eX0_acceptOffered_17 rfl rfl ?_
    try simp (disch := decide) only [up_s, up_n, lnI_1, lnI_2, lnI_3, lnI_4, lnI_5, lnI_10, lnI_11, lnI_12, lnI_13, lnI_14, lnI_15]
    refine x_aload_n C eX0_acceptOffered_20 rfl ?_
    refine x_getI 0 C f_RX0_17 eX0_acceptOffered_21 rfl rfl ?_
    try simp (disch := decide) only [up_s, up_n, lnI_1, lnI_2, lnI_3, lnI_4, lnI_5, lnI_10, lnI_11, lnI_12, lnI_13, lnI_14, lnI_15]
    refine x_icmp_lt 36 C eX0_acceptOffered_24 rfl (by omega) (by omega) (fun h24 => ?_) (fun h24 => ?_)
    · refine x_aload_n C eX0_acceptOffered_36 rfl ?_
      refine x_getR 0 C f_RX0_43 eX0_acceptOffered_37 rfl rfl ?_
      refine x_iload_n C eX0_acceptOffered_40 rfl ?_
      refine yV1v [_, _, _, _, _, _, _, _] [_, _, _, _, _, _, _, _, _, _] C (s_X3_add hK (by omega) (by omega)) v_X3_add vv_X3_add s_RX0_69 eX0_acceptOffered_41 (fun _ _ h => WF_pick [6, 7, 0, 1, 2, 3, 4, 5, 8, 9] rfl rfl h) (rcv 6 rfl) rfl (nle rfl) (nle rfl) (nle rfl) (nle rfl) rfl ?_
      refine x_iconst C eX0_acceptOffered_44 ?_
      refine x_iret (narZ (by omega)).1 C F eX0_acceptOffered_45 () ?_ trivial (fun cf c h => ?_) (nle rfl) (nle rfl)
      · first | rw [bz_t (by omega)] | rw [bz_f (by omega)]
      · first
          | (rw [show bOffer B v9 = inc (inc B 20) 22 from if_pos (by omega)]
             refine LRcv ?_ ?_ ?_ ?_ ?_ ?_ ?_ ?_ ?_ ?_ ?_ ?_ ?_ ?_ ?_ ?_ ?_ ?_ ?_ ?_ ?_ (WF_pick [2, 4, 5, 6, 7, 0, 1, 8, 9, 3] rfl rfl h)
             all_goals (try intro j hj)
             all_goals (try simp (disch := omega) only [inc, lnTo, lnI_1, lnI_2, lnI_3, lnI_4, lnI_5, lnI_10, lnI_11, lnI_12, lnI_13, lnI_14, lnI_15, ub_n, ub_s, up_n, up_s, if_true])
             all_goals (try simp only [up_lit, ub_lit])
             all_goals (repeat' split)
             all_goals first | rfl | omega | (congr 1 <;> omega) | (exfalso; omega))
          | (rw [show bOffer B v9 = ub (ub (inc B 20) (148 + B 7) v9) 7 (B 7 + 1) from if_neg (by omega)]
             refine LRcv ?_ ?_ ?_ ?_ ?_ ?_ ?_ ?_ ?_ ?_ ?_ ?_ ?_ ?_ ?_ ?_ ?_ ?_ ?_ ?_ ?_ (WF_pick [2, 4, 5, 6, 7, 0, 1, 8, 9, 3] rfl rfl h)
             all_goals (try intro j hj)
             all_goals (try simp (disch := omega) only [inc, lnTo, lnI_1, lnI_2, lnI_3, lnI_4, lnI_5, lnI_10, lnI_11, lnI_12, lnI_13, lnI_14, lnI_15, ub_n, ub_s, up_n, up_s, if_true])
             all_goals (try simp only [up_lit, ub_lit])
             all_goals (repeat' split)
             all_goals first | rfl | omega | (congr 1 <;> omega) | (exfalso; omega))
    · refine x_aload_n C eX0_acceptOffered_27 rfl ?_
      refine x_bipush C eX0_acceptOffered_28 rfl ?_
      refine x_iconst C eX0_acceptOffered_30 ?_
      refine yV2v [_, _, _, _, _, _, _, _] [_, _, _, _, _, _, _, _, _, _] C (s_X0_addToCount hK (by omega)) v_X0_addToCount vv_X0_addToCount s_RX0_62 eX0_acceptOffered_31 (fun _ _ h => WF_pick [0, 1, 2, 3, 4, 5, 6, 7, 8, 9] rfl rfl h) (rcv 0 rfl) rfl (nle rfl) (nle rfl) (nle rfl) (nle rfl) rfl ?_
      try rw [show (6 : Int).toNat = 6 from rfl]
      refine x_iconst C eX0_acceptOffered_34 ?_
      refine x_iret (narZ (by omega)).1 C F eX0_acceptOffered_35 () ?_ trivial (fun cf c h => ?_) (nle rfl) (nle rfl)
      · first | rw [bz_t (by omega)] | rw [bz_f (by omega)]
      · first
          | (rw [show bOffer B v9 = inc (inc B 20) 22 from if_pos (by omega)]
             refine LRcv ?_ ?_ ?_ ?_ ?_ ?_ ?_ ?_ ?_ ?_ ?_ ?_ ?_ ?_ ?_ ?_ ?_ ?_ ?_ ?_ ?_ (WF_pick [0, 2, 3, 4, 5, 6, 7, 8, 9, 1] rfl rfl h)
             all_goals (try intro j hj)
             all_goals (try simp (disch := omega) only [inc, lnTo, lnI_1, lnI_2, lnI_3, lnI_4, lnI_5, lnI_10, lnI_11, lnI_12, lnI_13, lnI_14, lnI_15, ub_n, ub_s, up_n, up_s, if_true])
             all_goals (try simp only [up_lit, ub_lit])
             all_goals (repeat' split)
             all_goals first | rfl | omega | (congr 1 <;> omega) | (exfalso; omega))
          | (rw [show bOffer B v9 = ub (ub (inc B 20) (148 + B 7) v9) 7 (B 7 + 1) from if_neg (by omega)]
             refine LRcv ?_ ?_ ?_ ?_ ?_ ?_ ?_ ?_ ?_ ?_ ?_ ?_ ?_ ?_ ?_ ?_ ?_ ?_ ?_ ?_ ?_ (WF_pick [0, 2, 3, 4, 5, 6, 7, 8, 9, 1] rfl rfl h)
             all_goals (try intro j hj)
             all_goals (try simp (disch := omega) only [inc, lnTo, lnI_1, lnI_2, lnI_3, lnI_4, lnI_5, lnI_10, lnI_11, lnI_12, lnI_13, lnI_14, lnI_15, ub_n, ub_s, up_n, up_s, if_true])
             all_goals (try simp only [up_lit, ub_lit])
             all_goals (repeat' split)
             all_goals first | rfl | omega | (congr 1 <;> omega) | (exfalso; omega))

set_option maxHeartbeats 4000000 in
set_option maxRecDepth 100000 in
theorem s_X0_offerWhole {G : Gm} {l : Launch} (hK : KG G) {a nm qi bi qa ba qo bo qw bw cn : Nat} {B : Blk} (hB : (0 ≤ B 9 ∧ B 9 ≤ 100) ∧ (0 ≤ B 7 ∧ B 7 ≤ B 1) ∧ B 1 ≤ 60 ∧ (0 ≤ B 6 ∧ B 6 ≤ 60) ∧ (0 ≤ B 8 ∧ B 8 ≤ 60)) (h8 : 0 ≤ B 8 ∧ B 8 ≤ 60) : MD G l yX0_offerWhole cX0_offerWhole 2 none 3 0 0 [.ref a] [ob a 2 (lnS nm qi qa qo qw cn ((B) 15)) (lnI (B)), ob qi 5 [some (.ref bi), none] (fun _ => (B) 6), ar G 0 bi 60 ((B) 6).toNat (fun j => (B) (28 + (j : Int))), ob qa 5 [some (.ref ba), none] (fun _ => (B) 6), ar G 0 ba 60 ((B) 6).toNat (fun j => (B) (88 + (j : Int))), ob qo 5 [some (.ref bo), none] (fun _ => (B) 7), ar G 0 bo 60 ((B) 7).toNat (fun j => (B) (148 + (j : Int))), ob qw 5 [some (.ref bw), none] (fun _ => (B) 8), ar G 0 bw 60 ((B) 8).toNat (fun j => (B) (208 + (j : Int))), ar G 0 cn 12 12 (fun j => (B) (16 + (j : Int)))] none [ob a 2 (lnS nm qi qa qo qw cn ((ub (bOffers (fun k => B (208 + k)) (B 8).toNat B) 8 0) 15)) (lnI (ub (bOffers (fun k => B (208 + k)) (B 8).toNat B) 8 0)), ob qi 5 [some (.ref bi), none] (fun _ => (ub (bOffers (fun k => B (208 + k)) (B 8).toNat B) 8 0) 6), ar G 0 bi 60 ((ub (bOffers (fun k => B (208 + k)) (B 8).toNat B) 8 0) 6).toNat (fun j => (ub (bOffers (fun k => B (208 + k)) (B 8).toNat B) 8 0) (28 + (j : Int))), ob qa 5 [some (.ref ba), none] (fun _ => (ub (bOffers (fun k => B (208 + k)) (B 8).toNat B) 8 0) 6), ar G 0 ba 60 ((ub (bOffers (fun k => B (208 + k)) (B 8).toNat B) 8 0) 6).toNat (fun j => (ub (bOffers (fun k => B (208 + k)) (B 8).toNat B) 8 0) (88 + (j : Int))), ob qo 5 [some (.ref bo), none] (fun _ => (ub (bOffers (fun k => B (208 + k)) (B 8).toNat B) 8 0) 7), ar G 0 bo 60 ((ub (bOffers (fun k => B (208 + k)) (B 8).toNat B) 8 0) 7).toNat (fun j => (ub (bOffers (fun k => B (208 + k)) (B 8).toNat B) 8 0) (148 + (j : Int))), ob qw 5 [some (.ref bw), none] (fun _ => (ub (bOffers (fun k => B (208 + k)) (B 8).toNat B) 8 0) 8), ar G 0 bw 60 ((ub (bOffers (fun k => B (208 + k)) (B 8).toNat B) 8 0) 8).toNat (fun j => (ub (bOffers (fun k => B (208 + k)) (B 8).toNat B) 8 0) (208 + (j : Int))), ar G 0 cn 12 12 (fun j => (ub (bOffers (fun k => B (208 + k)) (B 8).toNat B) 8 0) (16 + (j : Int)))] := by
  refine MX_of (lv := [some (.ref a), none]) hK (by decide +kernel) rfl (nle rfl) (fun X C F => ?_)
  have C : OKc G X l RX0 "offerWhole" cX0_offerWhole 2 none 3 0 0 := C
  have hinv := fun k => bOffers_inv (f := (fun k => B (208 + k))) (B := B) ⟨by omega, by omega, by omega⟩ k
  have loop : ∀ (f k : Nat), (k : Int) ≤ B 8 → B 8 < k + f → WX G X 0 0 [ob a 2 (lnS nm qi qa qo qw cn ((bOffers (fun k => B (208 + k)) k B) 15)) (lnI (bOffers (fun k => B (208 + k)) k B)), ob qi 5 [some (.ref bi), none] (fun _ => (bOffers (fun k => B (208 + k)) k B) 6), ar G 0 bi 60 ((bOffers (fun k => B (208 + k)) k B) 6).toNat (fun j => (bOffers (fun k => B (208 + k)) k B) (28 + (j : Int))), ob qa 5 [some (.ref ba), none] (fun _ => (bOffers (fun k => B (208 + k)) k B) 6), ar G 0 ba 60 ((bOffers (fun k => B (208 + k)) k B) 6).toNat (fun j => (bOffers (fun k => B (208 + k)) k B) (88 + (j : Int))), ob qo 5 [some (.ref bo), none] (fun _ => (bOffers (fun k => B (208 + k)) k B) 7), ar G 0 bo 60 ((bOffers (fun k => B (208 + k)) k B) 7).toNat (fun j => (bOffers (fun k => B (208 + k)) k B) (148 + (j : Int))), ob qw 5 [some (.ref bw), none] (fun _ => (bOffers (fun k => B (208 + k)) k B) 8), ar G 0 bw 60 ((bOffers (fun k => B (208 + k)) k B) 8).toNat (fun j => (bOffers (fun k => B (208 + k)) k B) (208 + (j : Int))), ar G 0 cn 12 12 (fun j => (bOffers (fun k => B (208 + k)) k B) (16 + (j : Int)))] 2 [some (.ref a), some (.int (zI (k : Int)))] [] := by
    intro f
    induction f with
    | zero => intro k g0 g1; exfalso; omega
    | succ f ih =>
      intro k g0 g1
      have i7 := (hinv k).1
      have i8 := (hinv k).2 8 (by unfold okW; omega)
      have i9 := (hinv k).2 9 (by unfold okW; omega)
      have i6 := (hinv k).2 6 (by unfold okW; omega)
      have i1 := (hinv k).2 1 (by unfold okW; omega)
      have ik := (hinv k).2 (208 + k) (by unfold okW; omega)
      refine x_iload_n C eX0_offerWhole_2 rfl ?_
      refine x_aload_n C eX0_offerWhole_3 rfl ?_
      refine x_getR 0 C f_RX0_46 eX0_offerWhole_4 rfl rfl ?_
      refine x_getI 7 C f_RX0_59 eX0_offerWhole_7 rfl rfl ?_
      try simp (disch := decide) only [up_s, up_n, lnI_1, lnI_2, lnI_3, lnI_4, lnI_5, lnI_10, lnI_11, lnI_12, lnI_13, lnI_14, lnI_15]
      refine x_icmp_ge 32 C eX0_offerWhole_10 rfl (by omega) (by omega) (fun h10 => ?_) (fun h10 => ?_)
      · refine x_aload_n C eX0_offerWhole_32 rfl ?_
        refine x_getR 0 C f_RX0_46 eX0_offerWhole_33 rfl rfl ?_
        refine yV0v [_, _, _, _, _, _, _, _] [_, _, _, _, _, _, _, _, _, _] C (s_X3_clear hK (fun _ => 0) ) v_X3_clear vv_X3_clear s_RX0_90 eX0_offerWhole_36 (fun _ _ h => WF_pick [7, 8, 0, 1, 2, 3, 4, 5, 6, 9] rfl rfl h) (rcv 7 rfl) rfl (nle rfl) (nle rfl) (nle rfl) (nle rfl) rfl ?_
        refine x_vret C F eX0_offerWhole_39 () rfl trivial (fun cf c h => ?_) (nle rfl) (nle rfl)
        rw [show (B 8).toNat = k by omega]
        refine LRcv ?_ ?_ ?_ ?_ ?_ ?_ ?_ ?_ ?_ ?_ ?_ ?_ ?_ ?_ ?_ ?_ ?_ ?_ ?_ ?_ ?_ (WF_pick [2, 3, 4, 5, 6, 7, 8, 0, 1, 9] rfl rfl h)
        all_goals (try intro j hj)
        all_goals (try simp (disch := omega) only [inc, lnTo, lnI_1, lnI_2, lnI_3, lnI_4, lnI_5, lnI_10, lnI_11, lnI_12, lnI_13, lnI_14, lnI_15, ub_n, ub_s, up_n, up_s, if_true])
        all_goals (try simp only [up_lit, ub_lit])
        all_goals (repeat' split)
        all_goals first | rfl | omega | (congr 1 <;> omega) | (exfalso; omega)
      · refine x_aload_n C eX0_offerWhole_13 rfl ?_
        refine x_aload_n C eX0_offerWhole_14 rfl ?_
        refine x_getR 0 C f_RX0_46 eX0_offerWhole_15 rfl rfl ?_
        refine x_iload_n C eX0_offerWhole_18 rfl ?_
        refine yV1r [_, _, _, _, _, _, _, _] [_, _, _, _, _, _, _, _, _, _] C (s_X3_at hK (by omega) (by omega)) v_X3_at vv_X3_at s_RX0_86 eX0_offerWhole_19 (fun _ _ h => WF_pick [7, 8, 0, 1, 2, 3, 4, 5, 6, 9] rfl rfl h) (rcv 7 rfl) rfl (nle rfl) (nle rfl) (nle rfl) (nle rfl) rfl ?_
        try dsimp only
        rw [Int.toNat_natCast, ik]
        refine yV1r [] [_, _, _, _, _, _, _, _, _, _] C (s_X0_acceptOffered hK (by omega)) v_X0_acceptOffered vv_X0_acceptOffered s_RX0_79 eX0_offerWhole_22 (fun _ _ h => WF_pick [2, 3, 4, 5, 6, 7, 8, 0, 1, 9] rfl rfl h) (rcv 2 rfl) rfl (nle rfl) (nle rfl) (nle rfl) (nle rfl) rfl ?_
        rw [show bOffer (bOffers (fun k => B (208 + k)) k B) (B (208 + (k : Int))) = bOffers (fun k => B (208 + k)) (k + 1) B from rfl]
        refine x_pop C eX0_offerWhole_25 rfl ?_
        refine x_iinc [_, _] C eX0_offerWhole_26 rfl rfl rfl ?_
        refine x_goto (pc' := 2) C eX0_offerWhole_29 rfl ?_
        exact x_pick [_, _, _, _, _, _, _, _, _, _] [0, 1, 2, 3, 4, 5, 6, 7, 8, 9] rfl rfl (ih (k + 1) (by omega) (by omega))
  refine x_iconst C eX0_offerWhole_0 ?_
  refine x_istore_n [_, _] C eX0_offerWhole_1 rfl rfl (nlt rfl) ?_
  exact loop 100 0 (by omega) (by omega)

set_option maxHeartbeats 4000000 in
set_option maxRecDepth 100000 in
theorem s_X0_echoTyped {G : Gm} {l : Launch} (hK : KG G) {a nm qi bi qa ba qo bo qw bw cn : Nat} {B : Blk} {v9 : Int} (hB : (0 ≤ B 9 ∧ B 9 ≤ 100) ∧ (0 ≤ B 7 ∧ B 7 ≤ B 1) ∧ B 1 ≤ 60 ∧ (0 ≤ B 6 ∧ B 6 ≤ 60) ∧ (0 ≤ B 8 ∧ B 8 ≤ 60)) (h8 : 0 ≤ B 8 ∧ B 8 ≤ 60) (hv : 0 ≤ v9 ∧ v9 ≤ 127) (h5 : 0 ≤ B 5 ∧ B 5 ≤ 2) : MD G l yX0_echoTyped cX0_echoTyped 2 none 4 0 0 [.ref a, .int (zI v9)] [ob a 2 (lnS nm qi qa qo qw cn ((B) 15)) (lnI (B)), ob qi 5 [some (.ref bi), none] (fun _ => (B) 6), ar G 0 bi 60 ((B) 6).toNat (fun j => (B) (28 + (j : Int))), ob qa 5 [some (.ref ba), none] (fun _ => (B) 6), ar G 0 ba 60 ((B) 6).toNat (fun j => (B) (88 + (j : Int))), ob qo 5 [some (.ref bo), none] (fun _ => (B) 7), ar G 0 bo 60 ((B) 7).toNat (fun j => (B) (148 + (j : Int))), ob qw 5 [some (.ref bw), none] (fun _ => (B) 8), ar G 0 bw 60 ((B) 8).toNat (fun j => (B) (208 + (j : Int))), ar G 0 cn 12 12 (fun j => (B) (16 + (j : Int)))] none [ob a 2 (lnS nm qi qa qo qw cn ((if (B) 5 = 1 then bOffer (B) v9 else if (B) 5 = 2 then bWhole (B) v9 else B) 15)) (lnI (if (B) 5 = 1 then bOffer (B) v9 else if (B) 5 = 2 then bWhole (B) v9 else B)), ob qi 5 [some (.ref bi), none] (fun _ => (if (B) 5 = 1 then bOffer (B) v9 else if (B) 5 = 2 then bWhole (B) v9 else B) 6), ar G 0 bi 60 ((if (B) 5 = 1 then bOffer (B) v9 else if (B) 5 = 2 then bWhole (B) v9 else B) 6).toNat (fun j => (if (B) 5 = 1 then bOffer (B) v9 else if (B) 5 = 2 then bWhole (B) v9 else B) (28 + (j : Int))), ob qa 5 [some (.ref ba), none] (fun _ => (if (B) 5 = 1 then bOffer (B) v9 else if (B) 5 = 2 then bWhole (B) v9 else B) 6), ar G 0 ba 60 ((if (B) 5 = 1 then bOffer (B) v9 else if (B) 5 = 2 then bWhole (B) v9 else B) 6).toNat (fun j => (if (B) 5 = 1 then bOffer (B) v9 else if (B) 5 = 2 then bWhole (B) v9 else B) (88 + (j : Int))), ob qo 5 [some (.ref bo), none] (fun _ => (if (B) 5 = 1 then bOffer (B) v9 else if (B) 5 = 2 then bWhole (B) v9 else B) 7), ar G 0 bo 60 ((if (B) 5 = 1 then bOffer (B) v9 else if (B) 5 = 2 then bWhole (B) v9 else B) 7).toNat (fun j => (if (B) 5 = 1 then bOffer (B) v9 else if (B) 5 = 2 then bWhole (B) v9 else B) (148 + (j : Int))), ob qw 5 [some (.ref bw), none] (fun _ => (if (B) 5 = 1 then bOffer (B) v9 else if (B) 5 = 2 then bWhole (B) v9 else B) 8), ar G 0 bw 60 ((if (B) 5 = 1 then bOffer (B) v9 else if (B) 5 = 2 then bWhole (B) v9 else B) 8).toNat (fun j => (if (B) 5 = 1 then bOffer (B) v9 else if (B) 5 = 2 then bWhole (B) v9 else B) (208 + (j : Int))), ar G 0 cn 12 12 (fun j => (if (B) 5 = 1 then bOffer (B) v9 else if (B) 5 = 2 then bWhole (B) v9 else B) (16 + (j : Int)))] := by
  refine MX_of (lv := [some (.ref a), some (.int (zI v9))]) hK (by decide +kernel) rfl (nle rfl) (fun X C F => ?_)
  have C : OKc G X l RX0 "echoTyped" cX0_echoTyped 2 none 4 0 0 := C
  have w1n : ∀ w, w < 8 ∨ 8 < w ∧ w < 208 → bWhole1 B v9 w = B w := fun w h => bWhole1_n h8 h
  have w7 := w1n 7 (by omega)
  have w1 := w1n 1 (by omega)
  have w9 := w1n 9 (by omega)
  have w8 : 0 ≤ bWhole1 B v9 8 ∧ bWhole1 B v9 8 ≤ 60 := by unfold bWhole1; split <;> (try simp (disch := omega) only [ub_n, ub_s]) <;> omega
  have w6 := w1n 6 (by omega)
  refine x_aload_n C eX0_echoTyped_0 rfl ?_
  refine x_getI 0 C f_RX0_30 eX0_echoTyped_1 rfl rfl ?_
  try simp (disch := decide) only [up_s, up_n, lnI_1, lnI_2, lnI_3, lnI_4, lnI_5, lnI_10, lnI_11, lnI_12, lnI_13, lnI_14, lnI_15]
  refine x_iconst C eX0_echoTyped_4 ?_
  refine x_icmp_ne 17 C eX0_echoTyped_5 rfl (by omega) (by omega) (fun h5 => ?_) (fun h5 => ?_)
  · refine x_aload_n C eX0_echoTyped_17 rfl ?_
    refine x_getI 0 C f_RX0_30 eX0_echoTyped_18 rfl rfl ?_
    try simp (disch := decide) only [up_s, up_n, lnI_1, lnI_2, lnI_3, lnI_4, lnI_5, lnI_10, lnI_11, lnI_12, lnI_13, lnI_14, lnI_15]
    refine x_iconst C eX0_echoTyped_21 ?_
    refine x_icmp_ne 55 C eX0_echoTyped_22 rfl (by omega) (by omega) (fun h22 => ?_) (fun h22 => ?_)
    · refine x_vret C F eX0_echoTyped_55 () rfl trivial (fun cf c h => ?_) (nle rfl) (nle rfl)
      first
        | (rw [if_pos (by assumption)]
           exact WF_pick [0, 1, 2, 3, 4, 5, 6, 7, 8, 9] rfl rfl h)
        | (rw [if_neg (by omega), if_neg (by omega)]
           exact WF_pick [0, 1, 2, 3, 4, 5, 6, 7, 8, 9] rfl rfl h)
        | (rw [if_neg (by omega), if_pos (by omega), show bWhole B v9 = ub (bOffers (fun k => bWhole1 B v9 (208 + k)) (bWhole1 B v9 8).toNat (bWhole1 B v9)) 8 0 from if_pos (by assumption)]
           exact WF_pick [0, 1, 2, 3, 4, 5, 6, 7, 8, 9] rfl rfl h)
        | (rw [if_neg (by omega), if_pos (by omega), show bWhole B v9 = bWhole1 B v9 from if_neg (by assumption)]
           exact WF_pick [0, 1, 2, 3, 4, 5, 6, 7, 8, 9] rfl rfl h)
    · refine x_aload_n C eX0_echoTyped_25 rfl ?_
      refine x_getR 0 C f_RX0_46 eX0_echoTyped_26 rfl rfl ?_
      refine x_getI 7 C f_RX0_59 eX0_echoTyped_29 rfl rfl ?_
      try simp (disch := decide) only [up_s, up_n, lnI_1, lnI_2, lnI_3, lnI_4, lnI_5, lnI_10, lnI_11, lnI_12, lnI_13, lnI_14, lnI_15]
      refine x_bipush C eX0_echoTyped_32 rfl ?_
      refine x_icmp_ge 45 C eX0_echoTyped_34 rfl (by omega) (by omega) (fun h34 => ?_) (fun h34 => ?_)
      · refine x_ws [ob a 2 (lnS nm qi qa qo qw cn ((bWhole1 B v9) 15)) (lnI (bWhole1 B v9)), ob qi 5 [some (.ref bi), none] (fun _ => (bWhole1 B v9) 6), ar G 0 bi 60 ((bWhole1 B v9) 6).toNat (fun j => (bWhole1 B v9) (28 + (j : Int))), ob qa 5 [some (.ref ba), none] (fun _ => (bWhole1 B v9) 6), ar G 0 ba 60 ((bWhole1 B v9) 6).toNat (fun j => (bWhole1 B v9) (88 + (j : Int))), ob qo 5 [some (.ref bo), none] (fun _ => (bWhole1 B v9) 7), ar G 0 bo 60 ((bWhole1 B v9) 7).toNat (fun j => (bWhole1 B v9) (148 + (j : Int))), ob qw 5 [some (.ref bw), none] (fun _ => (bWhole1 B v9) 8), ar G 0 bw 60 ((bWhole1 B v9) 8).toNat (fun j => (bWhole1 B v9) (208 + (j : Int))), ar G 0 cn 12 12 (fun j => (bWhole1 B v9) (16 + (j : Int)))] (fun cf0 c hw => ?_) ?_
        · first | rw [show bWhole1 B v9 = ub (ub B (208 + B 8) v9) 8 (B 8 + 1) from if_pos (by omega)] | rw [show bWhole1 B v9 = B from if_neg (by omega)]
          refine LRcv ?_ ?_ ?_ ?_ ?_ ?_ ?_ ?_ ?_ ?_ ?_ ?_ ?_ ?_ ?_ ?_ ?_ ?_ ?_ ?_ ?_ (WF_pick [0, 1, 2, 3, 4, 5, 6, 7, 8, 9] rfl rfl hw)
          all_goals (try intro j hj)
          all_goals (try simp (disch := omega) only [inc, lnTo, lnI_1, lnI_2, lnI_3, lnI_4, lnI_5, lnI_10, lnI_11, lnI_12, lnI_13, lnI_14, lnI_15, ub_n, ub_s, up_n, up_s, if_true])
          all_goals (try simp only [up_lit, ub_lit])
          all_goals (repeat' split)
          all_goals first | rfl | omega | (congr 1 <;> omega) | (exfalso; omega)
        refine x_iload_n C eX0_echoTyped_45 rfl ?_
        refine x_bipush C eX0_echoTyped_46 rfl ?_
        refine x_icmp_ne 55 C eX0_echoTyped_48 rfl (by omega) (by omega) (fun h48 => ?_) (fun h48 => ?_)
        · refine x_vret C F eX0_echoTyped_55 () rfl trivial (fun cf c h => ?_) (nle rfl) (nle rfl)
          first
            | (rw [if_pos (by assumption)]
               exact WF_pick [0, 1, 2, 3, 4, 5, 6, 7, 8, 9] rfl rfl h)
            | (rw [if_neg (by omega), if_neg (by omega)]
               exact WF_pick [0, 1, 2, 3, 4, 5, 6, 7, 8, 9] rfl rfl h)
            | (rw [if_neg (by omega), if_pos (by omega), show bWhole B v9 = ub (bOffers (fun k => bWhole1 B v9 (208 + k)) (bWhole1 B v9 8).toNat (bWhole1 B v9)) 8 0 from if_pos (by assumption)]
               exact WF_pick [0, 1, 2, 3, 4, 5, 6, 7, 8, 9] rfl rfl h)
            | (rw [if_neg (by omega), if_pos (by omega), show bWhole B v9 = bWhole1 B v9 from if_neg (by assumption)]
               exact WF_pick [0, 1, 2, 3, 4, 5, 6, 7, 8, 9] rfl rfl h)
        · refine x_aload_n C eX0_echoTyped_51 rfl ?_
          refine yV0v [] [_, _, _, _, _, _, _, _, _, _] C (s_X0_offerWhole hK (by omega) w8) v_X0_offerWhole vv_X0_offerWhole s_RX0_83 eX0_echoTyped_52 (fun _ _ h => WF_pick [0, 1, 2, 3, 4, 5, 6, 7, 8, 9] rfl rfl h) (rcv 0 rfl) rfl (nle rfl) (nle rfl) (nle rfl) (nle rfl) rfl ?_
          skip
          refine x_vret C F eX0_echoTyped_55 () rfl trivial (fun cf c h => ?_) (nle rfl) (nle rfl)
          first
            | (rw [if_pos (by assumption)]
               exact WF_pick [0, 1, 2, 3, 4, 5, 6, 7, 8, 9] rfl rfl h)
            | (rw [if_neg (by omega), if_neg (by omega)]
               exact WF_pick [0, 1, 2, 3, 4, 5, 6, 7, 8, 9] rfl rfl h)
            | (rw [if_neg (by omega), if_pos (by omega), show bWhole B v9 = ub (bOffers (fun k => bWhole1 B v9 (208 + k)) (bWhole1 B v9 8).toNat (bWhole1 B v9)) 8 0 from if_pos (by assumption)]
               exact WF_pick [0, 1, 2, 3, 4, 5, 6, 7, 8, 9] rfl rfl h)
            | (rw [if_neg (by omega), if_pos (by omega), show bWhole B v9 = bWhole1 B v9 from if_neg (by assumption)]
               exact WF_pick [0, 1, 2, 3, 4, 5, 6, 7, 8, 9] rfl rfl h)
      · refine x_aload_n C eX0_echoTyped_37 rfl ?_
        refine x_getR 0 C f_RX0_46 eX0_echoTyped_38 rfl rfl ?_
        refine x_iload_n C eX0_echoTyped_41 rfl ?_
        refine yV1v [_, _, _, _, _, _, _, _] [_, _, _, _, _, _, _, _, _, _] C (s_X3_add hK h8 (by omega)) v_X3_add vv_X3_add s_RX0_69 eX0_echoTyped_42 (fun _ _ h => WF_pick [7, 8, 0, 1, 2, 3, 4, 5, 6, 9] rfl rfl h) (rcv 7 rfl) rfl (nle rfl) (nle rfl) (nle rfl) (nle rfl) rfl ?_
        refine x_ws [ob a 2 (lnS nm qi qa qo qw cn ((bWhole1 B v9) 15)) (lnI (bWhole1 B v9)), ob qi 5 [some (.ref bi), none] (fun _ => (bWhole1 B v9) 6), ar G 0 bi 60 ((bWhole1 B v9) 6).toNat (fun j => (bWhole1 B v9) (28 + (j : Int))), ob qa 5 [some (.ref ba), none] (fun _ => (bWhole1 B v9) 6), ar G 0 ba 60 ((bWhole1 B v9) 6).toNat (fun j => (bWhole1 B v9) (88 + (j : Int))), ob qo 5 [some (.ref bo), none] (fun _ => (bWhole1 B v9) 7), ar G 0 bo 60 ((bWhole1 B v9) 7).toNat (fun j => (bWhole1 B v9) (148 + (j : Int))), ob qw 5 [some (.ref bw), none] (fun _ => (bWhole1 B v9) 8), ar G 0 bw 60 ((bWhole1 B v9) 8).toNat (fun j => (bWhole1 B v9) (208 + (j : Int))), ar G 0 cn 12 12 (fun j => (bWhole1 B v9) (16 + (j : Int)))] (fun cf0 c hw => ?_) ?_
        · first | rw [show bWhole1 B v9 = ub (ub B (208 + B 8) v9) 8 (B 8 + 1) from if_pos (by omega)] | rw [show bWhole1 B v9 = B from if_neg (by omega)]
          refine LRcv ?_ ?_ ?_ ?_ ?_ ?_ ?_ ?_ ?_ ?_ ?_ ?_ ?_ ?_ ?_ ?_ ?_ ?_ ?_ ?_ ?_ (WF_pick [2, 3, 4, 5, 6, 7, 8, 0, 1, 9] rfl rfl hw)
          all_goals (try intro j hj)
          all_goals (try simp (disch := omega) only [inc, lnTo, lnI_1, lnI_2, lnI_3, lnI_4, lnI_5, lnI_10, lnI_11, lnI_12, lnI_13, lnI_14, lnI_15, ub_n, ub_s, up_n, up_s, if_true])
          all_goals (try simp only [up_lit, ub_lit])
          all_goals (repeat' split)
          all_goals first | rfl | omega | (congr 1 <;> omega) | (exfalso; omega)
        refine x_iload_n C eX0_echoTyped_45 rfl ?_
        refine x_bipush C eX0_echoTyped_46 rfl ?_
        refine x_icmp_ne 55 C eX0_echoTyped_48 rfl (by omega) (by omega) (fun h48 => ?_) (fun h48 => ?_)
        · refine x_vret C F eX0_echoTyped_55 () rfl trivial (fun cf c h => ?_) (nle rfl) (nle rfl)
          first
            | (rw [if_pos (by assumption)]
               exact WF_pick [0, 1, 2, 3, 4, 5, 6, 7, 8, 9] rfl rfl h)
            | (rw [if_neg (by omega), if_neg (by omega)]
               exact WF_pick [0, 1, 2, 3, 4, 5, 6, 7, 8, 9] rfl rfl h)
            | (rw [if_neg (by omega), if_pos (by omega), show bWhole B v9 = ub (bOffers (fun k => bWhole1 B v9 (208 + k)) (bWhole1 B v9 8).toNat (bWhole1 B v9)) 8 0 from if_pos (by assumption)]
               exact WF_pick [0, 1, 2, 3, 4, 5, 6, 7, 8, 9] rfl rfl h)
            | (rw [if_neg (by omega), if_pos (by omega), show bWhole B v9 = bWhole1 B v9 from if_neg (by assumption)]
               exact WF_pick [0, 1, 2, 3, 4, 5, 6, 7, 8, 9] rfl rfl h)
        · refine x_aload_n C eX0_echoTyped_51 rfl ?_
          refine yV0v [] [_, _, _, _, _, _, _, _, _, _] C (s_X0_offerWhole hK (by omega) w8) v_X0_offerWhole vv_X0_offerWhole s_RX0_83 eX0_echoTyped_52 (fun _ _ h => WF_pick [0, 1, 2, 3, 4, 5, 6, 7, 8, 9] rfl rfl h) (rcv 0 rfl) rfl (nle rfl) (nle rfl) (nle rfl) (nle rfl) rfl ?_
          skip
          refine x_vret C F eX0_echoTyped_55 () rfl trivial (fun cf c h => ?_) (nle rfl) (nle rfl)
          first
            | (rw [if_pos (by assumption)]
               exact WF_pick [0, 1, 2, 3, 4, 5, 6, 7, 8, 9] rfl rfl h)
            | (rw [if_neg (by omega), if_neg (by omega)]
               exact WF_pick [0, 1, 2, 3, 4, 5, 6, 7, 8, 9] rfl rfl h)
            | (rw [if_neg (by omega), if_pos (by omega), show bWhole B v9 = ub (bOffers (fun k => bWhole1 B v9 (208 + k)) (bWhole1 B v9 8).toNat (bWhole1 B v9)) 8 0 from if_pos (by assumption)]
               exact WF_pick [0, 1, 2, 3, 4, 5, 6, 7, 8, 9] rfl rfl h)
            | (rw [if_neg (by omega), if_pos (by omega), show bWhole B v9 = bWhole1 B v9 from if_neg (by assumption)]
               exact WF_pick [0, 1, 2, 3, 4, 5, 6, 7, 8, 9] rfl rfl h)
  · refine x_aload_n C eX0_echoTyped_8 rfl ?_
    refine x_iload_n C eX0_echoTyped_9 rfl ?_
    refine yV1r [] [_, _, _, _, _, _, _, _, _, _] C (s_X0_acceptOffered hK hB) v_X0_acceptOffered vv_X0_acceptOffered s_RX0_79 eX0_echoTyped_10 (fun _ _ h => WF_pick [0, 1, 2, 3, 4, 5, 6, 7, 8, 9] rfl rfl h) (rcv 0 rfl) rfl (nle rfl) (nle rfl) (nle rfl) (nle rfl) rfl ?_
    skip
    refine x_pop C eX0_echoTyped_13 rfl ?_
    refine x_goto (pc' := 55) C eX0_echoTyped_14 rfl ?_
    refine x_vret C F eX0_echoTyped_55 () rfl trivial (fun cf c h => ?_) (nle rfl) (nle rfl)
    first
      | (rw [if_pos (by assumption)]
         exact WF_pick [0, 1, 2, 3, 4, 5, 6, 7, 8, 9] rfl rfl h)
      | (rw [if_neg (by omega), if_neg (by omega)]
         exact WF_pick [0, 1, 2, 3, 4, 5, 6, 7, 8, 9] rfl rfl h)
      | (rw [if_neg (by omega), if_pos (by omega), show bWhole B v9 = ub (bOffers (fun k => bWhole1 B v9 (208 + k)) (bWhole1 B v9 8).toNat (bWhole1 B v9)) 8 0 from if_pos (by assumption)]
         exact WF_pick [0, 1, 2, 3, 4, 5, 6, 7, 8, 9] rfl rfl h)
      | (rw [if_neg (by omega), if_pos (by omega), show bWhole B v9 = bWhole1 B v9 from if_neg (by assumption)]
         exact WF_pick [0, 1, 2, 3, 4, 5, 6, 7, 8, 9] rfl rfl h)

set_option maxHeartbeats 4000000 in
set_option maxRecDepth 100000 in
theorem s_X0_acceptTyped {G : Gm} {l : Launch} (hK : KG G) {a nm qi bi qa ba qo bo qw bw cn : Nat} {B : Blk} {v9 t9 : Int} (hB : (0 ≤ B 9 ∧ B 9 ≤ 100) ∧ (0 ≤ B 7 ∧ B 7 ≤ B 1) ∧ B 1 ≤ 60 ∧ (0 ≤ B 6 ∧ B 6 ≤ B 1)) (hM : 0 ≤ B 2 ∧ B 2 < B 3 ∧ B 3 ≤ 60 ∧ (B 10 = 0 ∨ B 10 = 1)) (h8 : 0 ≤ B 8 ∧ B 8 ≤ 60) (hv : 0 ≤ v9 ∧ v9 ≤ 127) (h5 : 0 ≤ B 5 ∧ B 5 ≤ 2) : MD G l yX0_acceptTyped cX0_acceptTyped 3 (some .boolean) 5 0 0 [.ref a, .int (zI v9), .int (zI t9)] [ob a 2 (lnS nm qi qa qo qw cn ((B) 15)) (lnI (B)), ob qi 5 [some (.ref bi), none] (fun _ => (B) 6), ar G 0 bi 60 ((B) 6).toNat (fun j => (B) (28 + (j : Int))), ob qa 5 [some (.ref ba), none] (fun _ => (B) 6), ar G 0 ba 60 ((B) 6).toNat (fun j => (B) (88 + (j : Int))), ob qo 5 [some (.ref bo), none] (fun _ => (B) 7), ar G 0 bo 60 ((B) 7).toNat (fun j => (B) (148 + (j : Int))), ob qw 5 [some (.ref bw), none] (fun _ => (B) 8), ar G 0 bw 60 ((B) 8).toNat (fun j => (B) (208 + (j : Int))), ar G 0 cn 12 12 (fun j => (B) (16 + (j : Int)))] (some (.int (zI (bz (¬ (0 < B 9 ∨ B 6 = B 1)))))) [ob a 2 (lnS nm qi qa qo qw cn ((bType B v9 t9) 15)) (lnI (bType B v9 t9)), ob qi 5 [some (.ref bi), none] (fun _ => (bType B v9 t9) 6), ar G 0 bi 60 ((bType B v9 t9) 6).toNat (fun j => (bType B v9 t9) (28 + (j : Int))), ob qa 5 [some (.ref ba), none] (fun _ => (bType B v9 t9) 6), ar G 0 ba 60 ((bType B v9 t9) 6).toNat (fun j => (bType B v9 t9) (88 + (j : Int))), ob qo 5 [some (.ref bo), none] (fun _ => (bType B v9 t9) 7), ar G 0 bo 60 ((bType B v9 t9) 7).toNat (fun j => (bType B v9 t9) (148 + (j : Int))), ob qw 5 [some (.ref bw), none] (fun _ => (bType B v9 t9) 8), ar G 0 bw 60 ((bType B v9 t9) 8).toNat (fun j => (bType B v9 t9) (208 + (j : Int))), ar G 0 cn 12 12 (fun j => (bType B v9 t9) (16 + (j : Int)))] := by
  refine MX_of (lv := [some (.ref a), some (.int (zI v9)), some (.int (zI t9))]) hK (by decide +kernel) rfl (nle rfl) (fun X C F => ?_)
  have C : OKc G X l RX0 "acceptTyped" cX0_acceptTyped 3 (some .boolean) 5 0 0 := C
  refine x_aload_n C eX0_acceptTyped_0 rfl ?_
  refine x_iconst C eX0_acceptTyped_1 ?_
  refine x_iconst C eX0_acceptTyped_2 ?_
  refine yV2v [_, _, _, _, _, _, _, _] [_, _, _, _, _, _, _, _, _, _] C (s_X0_addToCount hK (by omega)) v_X0_addToCount vv_X0_addToCount s_RX0_62 eX0_acceptTyped_3 (fun _ _ h => WF_pick [0, 9, 1, 2, 3, 4, 5, 6, 7, 8] rfl rfl h) (rcv 0 rfl) rfl (nle rfl) (nle rfl) (nle rfl) (nle rfl) rfl ?_
  try rw [show (0 : Int).toNat = 0 from rfl]
  refine x_aload_n C eX0_acceptTyped_6 rfl ?_
  refine x_getI 0 C f_RX0_66 eX0_acceptTyped_7 rfl rfl ?_
  try simp (disch := decide) only [up_s, up_n, lnI_1, lnI_2, lnI_3, lnI_4, lnI_5, lnI_10, lnI_11, lnI_12, lnI_13, lnI_14, lnI_15]
  refine x_if_gt 27 C eX0_acceptTyped_10 rfl (by omega) (fun h10 => ?_) (fun h10 => ?_)
  · refine x_aload_n C eX0_acceptTyped_27 rfl ?_
    refine x_iconst C eX0_acceptTyped_28 ?_
    refine x_iconst C eX0_acceptTyped_29 ?_
    refine yV2v [_, _, _, _, _, _, _, _] [_, _, _, _, _, _, _, _, _, _] C (s_X0_addToCount hK (by omega)) v_X0_addToCount vv_X0_addToCount s_RX0_62 eX0_acceptTyped_30 (fun _ _ h => WF_pick [0, 1, 2, 3, 4, 5, 6, 7, 8, 9] rfl rfl h) (rcv 0 rfl) rfl (nle rfl) (nle rfl) (nle rfl) (nle rfl) rfl ?_
    try rw [show (2 : Int).toNat = 2 from rfl]
    refine x_iconst C eX0_acceptTyped_33 ?_
    refine x_iret (narZ (by omega)).1 C F eX0_acceptTyped_34 () ?_ trivial (fun cf c h => ?_) (nle rfl) (nle rfl)
    · first | rw [bz_t (by omega)] | rw [bz_f (by omega)]
    · first
        | (rw [show bType B v9 t9 = inc (inc B 16) 18 from if_pos (by omega)]
           refine LRcv ?_ ?_ ?_ ?_ ?_ ?_ ?_ ?_ ?_ ?_ ?_ ?_ ?_ ?_ ?_ ?_ ?_ ?_ ?_ ?_ ?_ (WF_pick [0, 2, 3, 4, 5, 6, 7, 8, 9, 1] rfl rfl h)
           all_goals (try intro j hj)
           all_goals (try simp (disch := omega) only [inc, lnTo, lnI_1, lnI_2, lnI_3, lnI_4, lnI_5, lnI_10, lnI_11, lnI_12, lnI_13, lnI_14, lnI_15, ub_n, ub_s, up_n, up_s, if_true])
           all_goals (try simp only [up_lit, ub_lit])
           all_goals (repeat' split)
           all_goals first | rfl | omega | (congr 1 <;> omega) | (exfalso; omega))
        | (rw [show bType B v9 t9 = (if (bStop (bIn B v9 t9)) 5 = 1 then bOffer (bStop (bIn B v9 t9)) v9 else if (bStop (bIn B v9 t9)) 5 = 2 then bWhole (bStop (bIn B v9 t9)) v9 else bStop (bIn B v9 t9)) from by
             rw [show (bStop (bIn B v9 t9)) 5 = B 5 from by simp (disch := omega) only [bStop_n, bIn, inc, ub_n]]
             exact if_neg (by omega)]
           exact WF_pick [0, 2, 3, 4, 5, 6, 7, 8, 9, 1] rfl rfl h)
  · refine x_aload_n C eX0_acceptTyped_13 rfl ?_
    refine x_getR 0 C f_RX0_36 eX0_acceptTyped_14 rfl rfl ?_
    refine x_getI 2 C f_RX0_59 eX0_acceptTyped_17 rfl rfl ?_
    try simp (disch := decide) only [up_s, up_n, lnI_1, lnI_2, lnI_3, lnI_4, lnI_5, lnI_10, lnI_11, lnI_12, lnI_13, lnI_14, lnI_15]
    refine x_aload_n C eX0_acceptTyped_20 rfl ?_
    refine x_getI 0 C f_RX0_17 eX0_acceptTyped_21 rfl rfl ?_
    try simp (disch := decide) only [up_s, up_n, lnI_1, lnI_2, lnI_3, lnI_4, lnI_5, lnI_10, lnI_11, lnI_12, lnI_13, lnI_14, lnI_15]
    refine x_icmp_lt 35 C eX0_acceptTyped_24 rfl (by omega) (by omega) (fun h24 => ?_) (fun h24 => ?_)
    · refine x_aload_n C eX0_acceptTyped_35 rfl ?_
      refine x_getR 0 C f_RX0_36 eX0_acceptTyped_36 rfl rfl ?_
      refine x_iload_n C eX0_acceptTyped_39 rfl ?_
      refine yV1v [_, _, _, _, _, _, _, _] [_, _, _, _, _, _, _, _, _, _] C (s_X3_add hK (by omega) (by omega)) v_X3_add vv_X3_add s_RX0_69 eX0_acceptTyped_40 (fun _ _ h => WF_pick [2, 3, 0, 1, 4, 5, 6, 7, 8, 9] rfl rfl h) (rcv 2 rfl) rfl (nle rfl) (nle rfl) (nle rfl) (nle rfl) rfl ?_
      refine x_aload_n C eX0_acceptTyped_43 rfl ?_
      refine x_getR 2 C f_RX0_40 eX0_acceptTyped_44 rfl rfl ?_
      refine x_iload_n C eX0_acceptTyped_47 rfl ?_
      refine yV1v [_, _, _, _, _, _, _, _] [_, _, _, _, _, _, _, _, _, _] C (s_X3_add hK (by omega) (by omega)) v_X3_add vv_X3_add s_RX0_69 eX0_acceptTyped_48 (fun _ _ h => WF_pick [4, 5, 0, 1, 2, 3, 6, 7, 8, 9] rfl rfl h) (rcv 4 rfl) rfl (nle rfl) (nle rfl) (nle rfl) (nle rfl) rfl ?_
      refine x_ws [ob a 2 (lnS nm qi qa qo qw cn ((bIn B v9 t9) 15)) (lnI (bIn B v9 t9)), ob qi 5 [some (.ref bi), none] (fun _ => (bIn B v9 t9) 6), ar G 0 bi 60 ((bIn B v9 t9) 6).toNat (fun j => (bIn B v9 t9) (28 + (j : Int))), ob qa 5 [some (.ref ba), none] (fun _ => (bIn B v9 t9) 6), ar G 0 ba 60 ((bIn B v9 t9) 6).toNat (fun j => (bIn B v9 t9) (88 + (j : Int))), ob qo 5 [some (.ref bo), none] (fun _ => (bIn B v9 t9) 7), ar G 0 bo 60 ((bIn B v9 t9) 7).toNat (fun j => (bIn B v9 t9) (148 + (j : Int))), ob qw 5 [some (.ref bw), none] (fun _ => (bIn B v9 t9) 8), ar G 0 bw 60 ((bIn B v9 t9) 8).toNat (fun j => (bIn B v9 t9) (208 + (j : Int))), ar G 0 cn 12 12 (fun j => (bIn B v9 t9) (16 + (j : Int)))] (fun cf0 c hw => ?_) ?_
      · refine LRcv ?_ ?_ ?_ ?_ ?_ ?_ ?_ ?_ ?_ ?_ ?_ ?_ ?_ ?_ ?_ ?_ ?_ ?_ ?_ ?_ ?_ (WF_pick [4, 2, 3, 0, 1, 6, 7, 8, 9, 5] rfl rfl hw)
        all_goals (try intro j hj)
        all_goals (try simp (disch := omega) only [inc, lnTo, lnI_1, lnI_2, lnI_3, lnI_4, lnI_5, lnI_10, lnI_11, lnI_12, lnI_13, lnI_14, lnI_15, ub_n, ub_s, up_n, up_s, if_true, bIn])
        all_goals (try simp only [up_lit, ub_lit, bIn])
        all_goals (repeat' split)
        all_goals first | rfl | omega | (congr 1 <;> omega) | (exfalso; omega)
      refine x_aload_n C eX0_acceptTyped_51 rfl ?_
      refine yV0v [] [_, _, _, _, _, _, _, _, _, _] C (s_X0_tellStopping hK (by simp (disch := omega) only [bStop_n, bIn, inc, ub_n, ub_s]; omega)) v_X0_tellStopping vv_X0_tellStopping s_RX0_73 eX0_acceptTyped_52 (fun _ _ h => WF_pick [0, 1, 2, 3, 4, 5, 6, 7, 8, 9] rfl rfl h) (rcv 0 rfl) rfl (nle rfl) (nle rfl) (nle rfl) (nle rfl) rfl ?_
      skip
      refine x_aload_n C eX0_acceptTyped_55 rfl ?_
      refine x_iload_n C eX0_acceptTyped_56 rfl ?_
      refine yV1v [] [_, _, _, _, _, _, _, _, _, _] C (s_X0_echoTyped hK (by simp (disch := omega) only [bStop_n, bIn, inc, ub_n, ub_s]; omega) (by simp (disch := omega) only [bStop_n, bIn, inc, ub_n, ub_s]; omega) hv (by simp (disch := omega) only [bStop_n, bIn, inc, ub_n, ub_s]; omega)) v_X0_echoTyped vv_X0_echoTyped s_RX0_76 eX0_acceptTyped_57 (fun _ _ h => WF_pick [0, 1, 2, 3, 4, 5, 6, 7, 8, 9] rfl rfl h) (rcv 0 rfl) rfl (nle rfl) (nle rfl) (nle rfl) (nle rfl) rfl ?_
      skip
      refine x_iconst C eX0_acceptTyped_60 ?_
      refine x_iret (narZ (by omega)).1 C F eX0_acceptTyped_61 () ?_ trivial (fun cf c h => ?_) (nle rfl) (nle rfl)
      · first | rw [bz_t (by omega)] | rw [bz_f (by omega)]
      · first
          | (rw [show bType B v9 t9 = inc (inc B 16) 18 from if_pos (by omega)]
             refine LRcv ?_ ?_ ?_ ?_ ?_ ?_ ?_ ?_ ?_ ?_ ?_ ?_ ?_ ?_ ?_ ?_ ?_ ?_ ?_ ?_ ?_ (WF_pick [0, 1, 2, 3, 4, 5, 6, 7, 8, 9] rfl rfl h)
             all_goals (try intro j hj)
             all_goals (try simp (disch := omega) only [inc, lnTo, lnI_1, lnI_2, lnI_3, lnI_4, lnI_5, lnI_10, lnI_11, lnI_12, lnI_13, lnI_14, lnI_15, ub_n, ub_s, up_n, up_s, if_true])
             all_goals (try simp only [up_lit, ub_lit])
             all_goals (repeat' split)
             all_goals first | rfl | omega | (congr 1 <;> omega) | (exfalso; omega))
          | (rw [show bType B v9 t9 = (if (bStop (bIn B v9 t9)) 5 = 1 then bOffer (bStop (bIn B v9 t9)) v9 else if (bStop (bIn B v9 t9)) 5 = 2 then bWhole (bStop (bIn B v9 t9)) v9 else bStop (bIn B v9 t9)) from by
               rw [show (bStop (bIn B v9 t9)) 5 = B 5 from by simp (disch := omega) only [bStop_n, bIn, inc, ub_n]]
               exact if_neg (by omega)]
             exact WF_pick [0, 1, 2, 3, 4, 5, 6, 7, 8, 9] rfl rfl h)
    · refine x_aload_n C eX0_acceptTyped_27 rfl ?_
      refine x_iconst C eX0_acceptTyped_28 ?_
      refine x_iconst C eX0_acceptTyped_29 ?_
      refine yV2v [_, _, _, _, _, _, _, _] [_, _, _, _, _, _, _, _, _, _] C (s_X0_addToCount hK (by omega)) v_X0_addToCount vv_X0_addToCount s_RX0_62 eX0_acceptTyped_30 (fun _ _ h => WF_pick [0, 1, 2, 3, 4, 5, 6, 7, 8, 9] rfl rfl h) (rcv 0 rfl) rfl (nle rfl) (nle rfl) (nle rfl) (nle rfl) rfl ?_
      try rw [show (2 : Int).toNat = 2 from rfl]
      refine x_iconst C eX0_acceptTyped_33 ?_
      refine x_iret (narZ (by omega)).1 C F eX0_acceptTyped_34 () ?_ trivial (fun cf c h => ?_) (nle rfl) (nle rfl)
      · first | rw [bz_t (by omega)] | rw [bz_f (by omega)]
      · first
          | (rw [show bType B v9 t9 = inc (inc B 16) 18 from if_pos (by omega)]
             refine LRcv ?_ ?_ ?_ ?_ ?_ ?_ ?_ ?_ ?_ ?_ ?_ ?_ ?_ ?_ ?_ ?_ ?_ ?_ ?_ ?_ ?_ (WF_pick [0, 2, 3, 4, 5, 6, 7, 8, 9, 1] rfl rfl h)
             all_goals (try intro j hj)
             all_goals (try simp (disch := omega) only [inc, lnTo, lnI_1, lnI_2, lnI_3, lnI_4, lnI_5, lnI_10, lnI_11, lnI_12, lnI_13, lnI_14, lnI_15, ub_n, ub_s, up_n, up_s, if_true])
             all_goals (try simp only [up_lit, ub_lit])
             all_goals (repeat' split)
             all_goals first | rfl | omega | (congr 1 <;> omega) | (exfalso; omega))
          | (rw [show bType B v9 t9 = (if (bStop (bIn B v9 t9)) 5 = 1 then bOffer (bStop (bIn B v9 t9)) v9 else if (bStop (bIn B v9 t9)) 5 = 2 then bWhole (bStop (bIn B v9 t9)) v9 else bStop (bIn B v9 t9)) from by
               rw [show (bStop (bIn B v9 t9)) 5 = B 5 from by simp (disch := omega) only [bStop_n, bIn, inc, ub_n]]
               exact if_neg (by omega)]
             exact WF_pick [0, 2, 3, 4, 5, 6, 7, 8, 9, 1] rfl rfl h)
