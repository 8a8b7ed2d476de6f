/-! The parser's methods for one token, the rest. -/

set_option maxHeartbeats 4000000 in
set_option maxRecDepth 100000 in
theorem s_X2_takeStatement {G : Gm} {l : Launch} (hK : KG G) {pa tk tr qb ql q : Nat} {J P : Nat → Int} {al lg : Nat} {n : Net} (hJk : 0 ≤ J 1 ∧ J 1 ≤ 17) (hn6 : 0 ≤ n (-1) 0 ∧ n (-1) 0 ≤ 6) : MD G l yX2_takeStatement cX2_takeStatement 1 (some .int) 2 0 0 [.ref pa] [ob pa 4 (paS tk tr qb ql) (P), ob tk 7 [some (.ref q), none, none, none, none] J, ob tr 8 (tkS al lg) (tkI n)] (some (.int (zI (tsC J n)))) [ob pa 4 (paS tk tr qb ql) (up P 4 (tsA J)), ob tk 7 [some (.ref q), none, none, none, none] J, ob tr 8 (tkS al lg) (tkI n)] := by
  refine MX_of (lv := [some (.ref pa)]) hK (by decide +kernel) rfl (nle rfl) (fun X C F => ?_)
  have C : OKc G X l RX2 "takeStatement" cX2_takeStatement 1 (some .int) 2 0 0 := C
  refine x_aload_n C eX2_takeStatement_0 rfl ?_
  refine x_getR 0 C f_RX2_26 eX2_takeStatement_1 rfl rfl ?_
  refine x_getI 1 C f_RX2_50 eX2_takeStatement_4 rfl rfl ?_
  try simp (disch := decide) only [up_s, up_n, tkI_2, tkI_3, tkI_4, tkI_5, tkI_6, tkI_7, tkI_8]
  refine x_bipush C eX2_takeStatement_7 rfl ?_
  refine x_icmp_ne 35 C eX2_takeStatement_9 rfl (by omega) (by omega) (fun h9 => ?_) (fun h9 => ?_)
  · refine x_aload_n C eX2_takeStatement_35 rfl ?_
    refine x_getR 0 C f_RX2_26 eX2_takeStatement_36 rfl rfl ?_
    refine x_getI 1 C f_RX2_50 eX2_takeStatement_39 rfl rfl ?_
    try simp (disch := decide) only [up_s, up_n, tkI_2, tkI_3, tkI_4, tkI_5, tkI_6, tkI_7, tkI_8]
    refine x_bipush C eX2_takeStatement_42 rfl ?_
    refine x_icmp_ne 58 C eX2_takeStatement_44 rfl (by omega) (by omega) (fun h44 => ?_) (fun h44 => ?_)
    · refine x_aload_n C eX2_takeStatement_58 rfl ?_
      refine x_bipush C eX2_takeStatement_59 rfl ?_
      refine x_bipush C eX2_takeStatement_61 rfl ?_
      refine yV2r [_] [_, _, _] C (s_X2_takeKind hK hJk (by decide)) v_X2_takeKind vv_X2_takeKind s_RX2_97 eX2_takeStatement_63 (fun _ _ h => WF_pick [0, 1, 2] rfl rfl h) (rcv 0 rfl) rfl (nle rfl) (nle rfl) (nle rfl) (nle rfl) rfl ?_
      refine x_iret (by first | rfl | exact (narZ (by omega)).1) C F eX2_takeStatement_66 () ?_ trivial (fun cf c h => ?_) (nle rfl) (nle rfl)
      · first
          | rw [tsC, if_pos (by omega), if_pos (by omega)]
          | rw [tsC, if_pos (by omega), if_neg (by omega)]
          | (rw [tsC, if_neg (by omega), if_pos (by omega)]; try (unfold knC; rw [if_pos (by omega)]))
          | (rw [tsC, if_neg (by omega), if_neg (by omega)])
      · first
          | (rw [show tsA J = 3 from if_pos (by omega)]
             exact WF_pick [0, 1, 2] rfl rfl h)
          | (rw [show tsA J = 14 - 1 by unfold tsA; rw [if_neg (by omega), if_pos (by omega)]; rfl]
             exact WF_pick [0, 1, 2] rfl rfl h)
          | (rw [show tsA J = 18 by unfold tsA; rw [if_neg (by omega), if_neg (by omega)]]
             exact WF_pick [0, 1, 2] rfl rfl h)
    · refine x_aload_n C eX2_takeStatement_47 rfl ?_
      refine x_bipush C eX2_takeStatement_48 rfl ?_
      refine x_bipush C eX2_takeStatement_50 rfl ?_
      refine yV2r [_] [_, _, _] C (s_X2_takeKind hK hJk (by decide)) v_X2_takeKind vv_X2_takeKind s_RX2_97 eX2_takeStatement_52 (fun _ _ h => WF_pick [0, 1, 2] rfl rfl h) (rcv 0 rfl) rfl (nle rfl) (nle rfl) (nle rfl) (nle rfl) rfl ?_
      refine x_goto (pc' := 66) C eX2_takeStatement_55 rfl ?_
      refine x_iret (by first | rfl | exact (narZ (by omega)).1) C F eX2_takeStatement_66 () ?_ trivial (fun cf c h => ?_) (nle rfl) (nle rfl)
      · first
          | rw [tsC, if_pos (by omega), if_pos (by omega)]
          | rw [tsC, if_pos (by omega), if_neg (by omega)]
          | (rw [tsC, if_neg (by omega), if_pos (by omega)]; try (unfold knC; rw [if_pos (by omega)]))
          | (rw [tsC, if_neg (by omega), if_neg (by omega)])
      · first
          | (rw [show tsA J = 3 from if_pos (by omega)]
             exact WF_pick [0, 1, 2] rfl rfl h)
          | (rw [show tsA J = 14 - 1 by unfold tsA; rw [if_neg (by omega), if_pos (by omega)]; rfl]
             exact WF_pick [0, 1, 2] rfl rfl h)
          | (rw [show tsA J = 18 by unfold tsA; rw [if_neg (by omega), if_neg (by omega)]]
             exact WF_pick [0, 1, 2] rfl rfl h)
  · refine x_aload_n C eX2_takeStatement_12 rfl ?_
    refine x_iconst C eX2_takeStatement_13 ?_
    refine x_putI [_, _, _] 0 C f_RX2_42 eX2_takeStatement_14 rfl rfl rfl ?_
    refine x_aload_n C eX2_takeStatement_17 rfl ?_
    refine x_getR 0 C f_RX2_30 eX2_takeStatement_18 rfl rfl ?_
    refine x_getI 2 C f_RX2_140 eX2_takeStatement_21 rfl rfl ?_
    try simp (disch := decide) only [up_s, up_n, tkI_2, tkI_3, tkI_4, tkI_5, tkI_6, tkI_7, tkI_8]
    refine x_bipush C eX2_takeStatement_24 rfl ?_
    refine x_icmp_ge 33 C eX2_takeStatement_26 rfl (by omega) (by omega) (fun h26 => ?_) (fun h26 => ?_)
    · refine x_iconst C eX2_takeStatement_33 ?_
      refine x_iret (by first | rfl | exact (narZ (by omega)).1) C F eX2_takeStatement_34 () ?_ trivial (fun cf c h => ?_) (nle rfl) (nle rfl)
      · first
          | rw [tsC, if_pos (by omega), if_pos (by omega)]
          | rw [tsC, if_pos (by omega), if_neg (by omega)]
          | (rw [tsC, if_neg (by omega), if_pos (by omega)]; try (unfold knC; rw [if_pos (by omega)]))
          | (rw [tsC, if_neg (by omega), if_neg (by omega)])
      · first
          | (rw [show tsA J = 3 from if_pos (by omega)]
             exact WF_pick [0, 1, 2] rfl rfl h)
          | (rw [show tsA J = 14 - 1 by unfold tsA; rw [if_neg (by omega), if_pos (by omega)]; rfl]
             exact WF_pick [0, 1, 2] rfl rfl h)
          | (rw [show tsA J = 18 by unfold tsA; rw [if_neg (by omega), if_neg (by omega)]]
             exact WF_pick [0, 1, 2] rfl rfl h)
    · refine x_iconst C eX2_takeStatement_29 ?_
      refine x_goto (pc' := 34) C eX2_takeStatement_30 rfl ?_
      refine x_iret (by first | rfl | exact (narZ (by omega)).1) C F eX2_takeStatement_34 () ?_ trivial (fun cf c h => ?_) (nle rfl) (nle rfl)
      · first
          | rw [tsC, if_pos (by omega), if_pos (by omega)]
          | rw [tsC, if_pos (by omega), if_neg (by omega)]
          | (rw [tsC, if_neg (by omega), if_pos (by omega)]; try (unfold knC; rw [if_pos (by omega)]))
          | (rw [tsC, if_neg (by omega), if_neg (by omega)])
      · first
          | (rw [show tsA J = 3 from if_pos (by omega)]
             exact WF_pick [0, 1, 2] rfl rfl h)
          | (rw [show tsA J = 14 - 1 by unfold tsA; rw [if_neg (by omega), if_pos (by omega)]; rfl]
             exact WF_pick [0, 1, 2] rfl rfl h)
          | (rw [show tsA J = 18 by unfold tsA; rw [if_neg (by omega), if_neg (by omega)]]
             exact WF_pick [0, 1, 2] rfl rfl h)

set_option maxHeartbeats 4000000 in
set_option maxRecDepth 100000 in
theorem s_X2_takeEcho {G : Gm} {l : Launch} (hK : KG G) {pa tk tr qb ql q : Nat} {J P : Nat → Int} {al lg : Nat} {M : Pool} {L : Int → Nat} {n : Net} (hJk : 0 ≤ J 1 ∧ J 1 ≤ 17) (hn1 : 1 ≤ n (-1) 0 ∧ n (-1) 0 ≤ 6) : MD G l yX2_takeEcho cX2_takeEcho 1 (some .int) 3 0 0 [.ref pa] [ob pa 4 (paS tk tr qb ql) (P), ob tk 7 [some (.ref q), none, none, none, none] J, ob tr 8 (tkS al lg) (tkI n), arR G 5 al 6 (fun j => some (L (j : Int))), LFz G M L (n), LOG G lg n] (some (.int (zI (ecC J)))) [ob pa 4 (paS tk tr qb ql) (up P 4 2), ob tk 7 [some (.ref q), none, none, none, none] J, ob tr 8 (tkS al lg) (tkI n), arR G 5 al 6 (fun j => some (L (j : Int))), LFz G M L (if ecC J = 0 then seL n 5 (J 1 - 11) else n), LOG G lg n] := by
  refine MX_of (lv := [some (.ref pa)]) hK (by decide +kernel) rfl (nle rfl) (fun X C F => ?_)
  have C : OKc G X l RX2 "takeEcho" cX2_takeEcho 1 (some .int) 3 0 0 := C
  refine x_aload_n C eX2_takeEcho_0 rfl ?_
  refine x_iconst C eX2_takeEcho_1 ?_
  refine x_putI [_, _, _, _, _, _] 0 C f_RX2_42 eX2_takeEcho_2 rfl rfl rfl ?_
  refine x_aload_n C eX2_takeEcho_5 rfl ?_
  refine x_getR 0 C f_RX2_26 eX2_takeEcho_6 rfl rfl ?_
  refine x_getI 1 C f_RX2_50 eX2_takeEcho_9 rfl rfl ?_
  try simp (disch := first | decide | omega) only [up_s, up_n, tkI_2, tkI_3, tkI_4, tkI_5, tkI_6, tkI_7, tkI_8, lnI_1, lnI_2, lnI_3, lnI_4, lnI_5, lnI_10, lnI_11, lnI_12, lnI_13, lnI_14, lnI_15, un_s, ub_s, ub_n]
  obtain ⟨a9, ha⟩ : ∃ a9, J 1 = a9 := ⟨_, rfl⟩
  rw [ha]
  have hsw : a9 = 11 ∨ a9 = 12 ∨ a9 = 13 ∨ (a9 < 11 ∨ 13 < a9) := by omega
  rcases hsw with rfl | rfl | rfl | hsw
  · refine x_tabIn 40 C eX2_takeEcho_12 (by decide) (by decide) (by decide) rfl rfl ?_
    refine x_aload_n C eX2_takeEcho_40 rfl ?_
    refine yV0r [_, _, _] [_, _, _, _, _, _] C (s_X2_latestLine hK (by show 1 ≤ n (-1) 0 ∧ n (-1) 0 ≤ 6; exact hn1)) v_X2_latestLine vv_X2_latestLine s_RX2_146 eX2_takeEcho_41 (fun _ _ h => WF_pick [0, 2, 3, 1, 4, 5] rfl rfl h) (rcv 0 rfl) rfl (nle rfl) (nle rfl) (nle rfl) (nle rfl) rfl ?_
    rw [show tkI n 2 - 1 = lst n from rfl]
    have hl9 : 0 ≤ lst n ∧ lst n < n (-1) 0 := by unfold lst; omega
    refine x_oZ (M := M) (L := L) (m := n) (i := lst n) (R := [_, _, _, _, _]) (by (try rw [un_n (by omega)]); omega) (fun _ _ hw => WF_pick [4, 0, 1, 2, 3, 5] rfl rfl hw) (fun A hA => ?_)
    refine x_iconst C eX2_takeEcho_44 ?_
    refine x_putI [_, _, _, _, _, _, _, _, _, _, _, _, _, _, _, _] 0 C f_RX2_173 eX2_takeEcho_45 rfl rfl rfl ?_
    refine x_pick [_, _, _, _, _, _, _, _, _, _, _, _, _, _, _, _] [0, 1, 2, 3, 4, 5, 6, 7, 8, 9, 10, 11, 12, 13, 14, 15] rfl rfl ?_
    refine x_cZ (m := n) (i := lst n) (A := A) (B := ub (n (lst n)) 5 0) (by (try rw [un_n (by omega)]); omega) hA (fun cf c h => ?_) ?_
    · exact ln_this (B := n (lst n)) (by
        refine lnI_ok ?_ ?_ ?_ ?_ ?_ ?_ ?_ ?_ ?_ ?_ ?_
        all_goals (try simp (disch := omega) only [up_s, up_n, lnI_1, lnI_2, lnI_3, lnI_4, lnI_5, lnI_10, lnI_11, lnI_12, lnI_13, lnI_14, lnI_15, lnTo, ub_s, ub_n, bLend])
        all_goals (repeat' split)
        all_goals first | rfl | omega) (by first | rfl | (simp (disch := omega) only [ub_n, bLend])) (by first | rfl | (simp (disch := omega) only [ub_n, bLend])) (by first | rfl | (simp (disch := omega) only [ub_n, bLend])) (by first | rfl | (simp (disch := omega) only [ub_n, bLend])) (fun k hk => by first | rfl | (simp (disch := omega) only [ub_n, bLend])) cf c h rfl
    refine x_iconst C eX2_takeEcho_48 ?_
    refine x_iret (by first | rfl | exact (narZ (by omega)).1) C F eX2_takeEcho_49 () ?_ trivial (fun cf c h => ?_) (nle rfl) (nle rfl)
    · first
        | rw [ecC, if_pos (by omega)]
        | rw [ecC, if_neg (by omega)]
    · first
        | (rw [show (if ecC J = 0 then seL n 5 (J 1 - 11) else n) = seL n 5 0 by rw [if_pos (by unfold ecC; rw [if_pos (by omega)]), show J 1 - 11 = 0 by omega]]
           exact WF_pick [1, 4, 2, 3, 0, 5] rfl rfl h)
        | (rw [show (if ecC J = 0 then seL n 5 (J 1 - 11) else n) = seL n 5 1 by rw [if_pos (by unfold ecC; rw [if_pos (by omega)]), show J 1 - 11 = 1 by omega]]
           exact WF_pick [1, 4, 2, 3, 0, 5] rfl rfl h)
        | (rw [show (if ecC J = 0 then seL n 5 (J 1 - 11) else n) = seL n 5 2 by rw [if_pos (by unfold ecC; rw [if_pos (by omega)]), show J 1 - 11 = 2 by omega]]
           exact WF_pick [1, 4, 2, 3, 0, 5] rfl rfl h)
        | (rw [if_neg (by unfold ecC; rw [if_neg (by omega)]; decide)]
           exact WF_pick [1, 4, 2, 3, 0, 5] rfl rfl h)
  · refine x_tabIn 50 C eX2_takeEcho_12 (by decide) (by decide) (by decide) rfl rfl ?_
    refine x_aload_n C eX2_takeEcho_50 rfl ?_
    refine yV0r [_, _, _] [_, _, _, _, _, _] C (s_X2_latestLine hK (by show 1 ≤ n (-1) 0 ∧ n (-1) 0 ≤ 6; exact hn1)) v_X2_latestLine vv_X2_latestLine s_RX2_146 eX2_takeEcho_51 (fun _ _ h => WF_pick [0, 2, 3, 1, 4, 5] rfl rfl h) (rcv 0 rfl) rfl (nle rfl) (nle rfl) (nle rfl) (nle rfl) rfl ?_
    rw [show tkI n 2 - 1 = lst n from rfl]
    have hl9 : 0 ≤ lst n ∧ lst n < n (-1) 0 := by unfold lst; omega
    refine x_oZ (M := M) (L := L) (m := n) (i := lst n) (R := [_, _, _, _, _]) (by (try rw [un_n (by omega)]); omega) (fun _ _ hw => WF_pick [4, 0, 1, 2, 3, 5] rfl rfl hw) (fun A hA => ?_)
    refine x_iconst C eX2_takeEcho_54 ?_
    refine x_putI [_, _, _, _, _, _, _, _, _, _, _, _, _, _, _, _] 0 C f_RX2_173 eX2_takeEcho_55 rfl rfl rfl ?_
    refine x_pick [_, _, _, _, _, _, _, _, _, _, _, _, _, _, _, _] [0, 1, 2, 3, 4, 5, 6, 7, 8, 9, 10, 11, 12, 13, 14, 15] rfl rfl ?_
    refine x_cZ (m := n) (i := lst n) (A := A) (B := ub (n (lst n)) 5 1) (by (try rw [un_n (by omega)]); omega) hA (fun cf c h => ?_) ?_
    · exact ln_this (B := n (lst n)) (by
        refine lnI_ok ?_ ?_ ?_ ?_ ?_ ?_ ?_ ?_ ?_ ?_ ?_
        all_goals (try simp (disch := omega) only [up_s, up_n, lnI_1, lnI_2, lnI_3, lnI_4, lnI_5, lnI_10, lnI_11, lnI_12, lnI_13, lnI_14, lnI_15, lnTo, ub_s, ub_n, bLend])
        all_goals (repeat' split)
        all_goals first | rfl | omega) (by first | rfl | (simp (disch := omega) only [ub_n, bLend])) (by first | rfl | (simp (disch := omega) only [ub_n, bLend])) (by first | rfl | (simp (disch := omega) only [ub_n, bLend])) (by first | rfl | (simp (disch := omega) only [ub_n, bLend])) (fun k hk => by first | rfl | (simp (disch := omega) only [ub_n, bLend])) cf c h rfl
    refine x_iconst C eX2_takeEcho_58 ?_
    refine x_iret (by first | rfl | exact (narZ (by omega)).1) C F eX2_takeEcho_59 () ?_ trivial (fun cf c h => ?_) (nle rfl) (nle rfl)
    · first
        | rw [ecC, if_pos (by omega)]
        | rw [ecC, if_neg (by omega)]
    · first
        | (rw [show (if ecC J = 0 then seL n 5 (J 1 - 11) else n) = seL n 5 0 by rw [if_pos (by unfold ecC; rw [if_pos (by omega)]), show J 1 - 11 = 0 by omega]]
           exact WF_pick [1, 4, 2, 3, 0, 5] rfl rfl h)
        | (rw [show (if ecC J = 0 then seL n 5 (J 1 - 11) else n) = seL n 5 1 by rw [if_pos (by unfold ecC; rw [if_pos (by omega)]), show J 1 - 11 = 1 by omega]]
           exact WF_pick [1, 4, 2, 3, 0, 5] rfl rfl h)
        | (rw [show (if ecC J = 0 then seL n 5 (J 1 - 11) else n) = seL n 5 2 by rw [if_pos (by unfold ecC; rw [if_pos (by omega)]), show J 1 - 11 = 2 by omega]]
           exact WF_pick [1, 4, 2, 3, 0, 5] rfl rfl h)
        | (rw [if_neg (by unfold ecC; rw [if_neg (by omega)]; decide)]
           exact WF_pick [1, 4, 2, 3, 0, 5] rfl rfl h)
  · refine x_tabIn 60 C eX2_takeEcho_12 (by decide) (by decide) (by decide) rfl rfl ?_
    refine x_aload_n C eX2_takeEcho_60 rfl ?_
    refine yV0r [_, _, _] [_, _, _, _, _, _] C (s_X2_latestLine hK (by show 1 ≤ n (-1) 0 ∧ n (-1) 0 ≤ 6; exact hn1)) v_X2_latestLine vv_X2_latestLine s_RX2_146 eX2_takeEcho_61 (fun _ _ h => WF_pick [0, 2, 3, 1, 4, 5] rfl rfl h) (rcv 0 rfl) rfl (nle rfl) (nle rfl) (nle rfl) (nle rfl) rfl ?_
    rw [show tkI n 2 - 1 = lst n from rfl]
    have hl9 : 0 ≤ lst n ∧ lst n < n (-1) 0 := by unfold lst; omega
    refine x_oZ (M := M) (L := L) (m := n) (i := lst n) (R := [_, _, _, _, _]) (by (try rw [un_n (by omega)]); omega) (fun _ _ hw => WF_pick [4, 0, 1, 2, 3, 5] rfl rfl hw) (fun A hA => ?_)
    refine x_iconst C eX2_takeEcho_64 ?_
    refine x_putI [_, _, _, _, _, _, _, _, _, _, _, _, _, _, _, _] 0 C f_RX2_173 eX2_takeEcho_65 rfl rfl rfl ?_
    refine x_pick [_, _, _, _, _, _, _, _, _, _, _, _, _, _, _, _] [0, 1, 2, 3, 4, 5, 6, 7, 8, 9, 10, 11, 12, 13, 14, 15] rfl rfl ?_
    refine x_cZ (m := n) (i := lst n) (A := A) (B := ub (n (lst n)) 5 2) (by (try rw [un_n (by omega)]); omega) hA (fun cf c h => ?_) ?_
    · exact ln_this (B := n (lst n)) (by
        refine lnI_ok ?_ ?_ ?_ ?_ ?_ ?_ ?_ ?_ ?_ ?_ ?_
        all_goals (try simp (disch := omega) only [up_s, up_n, lnI_1, lnI_2, lnI_3, lnI_4, lnI_5, lnI_10, lnI_11, lnI_12, lnI_13, lnI_14, lnI_15, lnTo, ub_s, ub_n, bLend])
        all_goals (repeat' split)
        all_goals first | rfl | omega) (by first | rfl | (simp (disch := omega) only [ub_n, bLend])) (by first | rfl | (simp (disch := omega) only [ub_n, bLend])) (by first | rfl | (simp (disch := omega) only [ub_n, bLend])) (by first | rfl | (simp (disch := omega) only [ub_n, bLend])) (fun k hk => by first | rfl | (simp (disch := omega) only [ub_n, bLend])) cf c h rfl
    refine x_iconst C eX2_takeEcho_68 ?_
    refine x_iret (by first | rfl | exact (narZ (by omega)).1) C F eX2_takeEcho_69 () ?_ trivial (fun cf c h => ?_) (nle rfl) (nle rfl)
    · first
        | rw [ecC, if_pos (by omega)]
        | rw [ecC, if_neg (by omega)]
    · first
        | (rw [show (if ecC J = 0 then seL n 5 (J 1 - 11) else n) = seL n 5 0 by rw [if_pos (by unfold ecC; rw [if_pos (by omega)]), show J 1 - 11 = 0 by omega]]
           exact WF_pick [1, 4, 2, 3, 0, 5] rfl rfl h)
        | (rw [show (if ecC J = 0 then seL n 5 (J 1 - 11) else n) = seL n 5 1 by rw [if_pos (by unfold ecC; rw [if_pos (by omega)]), show J 1 - 11 = 1 by omega]]
           exact WF_pick [1, 4, 2, 3, 0, 5] rfl rfl h)
        | (rw [show (if ecC J = 0 then seL n 5 (J 1 - 11) else n) = seL n 5 2 by rw [if_pos (by unfold ecC; rw [if_pos (by omega)]), show J 1 - 11 = 2 by omega]]
           exact WF_pick [1, 4, 2, 3, 0, 5] rfl rfl h)
        | (rw [if_neg (by unfold ecC; rw [if_neg (by omega)]; decide)]
           exact WF_pick [1, 4, 2, 3, 0, 5] rfl rfl h)
  · refine x_tabOut 70 C eX2_takeEcho_12 (by omega) hsw rfl ?_
    refine x_iconst C eX2_takeEcho_70 ?_
    refine x_iret (by first | rfl | exact (narZ (by omega)).1) C F eX2_takeEcho_71 () ?_ trivial (fun cf c h => ?_) (nle rfl) (nle rfl)
    · first
        | rw [ecC, if_pos (by omega)]
        | rw [ecC, if_neg (by omega)]
    · first
        | (rw [show (if ecC J = 0 then seL n 5 (J 1 - 11) else n) = seL n 5 0 by rw [if_pos (by unfold ecC; rw [if_pos (by omega)]), show J 1 - 11 = 0 by omega]]
           exact WF_pick [0, 1, 2, 3, 4, 5] rfl rfl h)
        | (rw [show (if ecC J = 0 then seL n 5 (J 1 - 11) else n) = seL n 5 1 by rw [if_pos (by unfold ecC; rw [if_pos (by omega)]), show J 1 - 11 = 1 by omega]]
           exact WF_pick [0, 1, 2, 3, 4, 5] rfl rfl h)
        | (rw [show (if ecC J = 0 then seL n 5 (J 1 - 11) else n) = seL n 5 2 by rw [if_pos (by unfold ecC; rw [if_pos (by omega)]), show J 1 - 11 = 2 by omega]]
           exact WF_pick [0, 1, 2, 3, 4, 5] rfl rfl h)
        | (rw [if_neg (by unfold ecC; rw [if_neg (by omega)]; decide)]
           exact WF_pick [0, 1, 2, 3, 4, 5] rfl rfl h)

set_option maxHeartbeats 4000000 in
set_option maxRecDepth 100000 in
theorem s_X2_takeLender {G : Gm} {l : Launch} (hK : KG G) {pa tk tr qb ql q : Nat} {J P : Nat → Int} {al lg : Nat} {M : Pool} {L : Int → Nat} {n : Net} (hJk : 0 ≤ J 1 ∧ J 1 ≤ 17) (hP5 : -1 ≤ P 5 ∧ P 5 ≤ 5) (hg : -1 ≤ P 5 ∧ P 5 < n (-1) 0) (hn6 : 0 ≤ n (-1) 0 ∧ n (-1) 0 ≤ 6) (hl9 : ∀ i, 0 ≤ i → i < n (-1) 0 → -1 ≤ lnTo (n i) ∧ lnTo (n i) ≤ 100) : MD G l yX2_takeLender cX2_takeLender 2 (some .int) 2 0 0 [.ref pa] [ob pa 4 (paS tk tr qb ql) (P), ob tk 7 [some (.ref q), none, none, none, none] J, ob tr 8 (tkS al lg) (tkI n), arR G 5 al 6 (fun j => some (L (j : Int))), LFz G M L (n), LOG G lg n] (some (.int (zI (leC J P n)))) [ob pa 4 (paS tk tr qb ql) (up (up P 6 (P 5)) 4 14), ob tk 7 [some (.ref q), none, none, none, none] J, ob tr 8 (tkS al lg) (tkI n), arR G 5 al 6 (fun j => some (L (j : Int))), LFz G M L (n), LOG G lg n] := by
  refine MX_of (lv := [some (.ref pa), none]) hK (by decide +kernel) rfl (nle rfl) (fun X C F => ?_)
  have C : OKc G X l RX2 "takeLender" cX2_takeLender 2 (some .int) 2 0 0 := C
  refine x_aload_n C eX2_takeLender_0 rfl ?_
  refine x_aload_n C eX2_takeLender_1 rfl ?_
  refine x_getI 0 C f_RX2_67 eX2_takeLender_2 rfl rfl ?_
  try simp (disch := first | decide | omega) only [up_s, up_n, tkI_2, tkI_3, tkI_4, tkI_5, tkI_6, tkI_7, tkI_8, lnI_1, lnI_2, lnI_3, lnI_4, lnI_5, lnI_10, lnI_11, lnI_12, lnI_13, lnI_14, lnI_15, un_s, ub_s, ub_n]
  refine x_putI [_, _, _, _, _, _] 0 C f_RX2_176 eX2_takeLender_5 rfl rfl rfl ?_
  refine x_aload_n C eX2_takeLender_8 rfl ?_
  refine x_bipush C eX2_takeLender_9 rfl ?_
  refine yV1r [_, _, _, _] [_, _, _, _, _, _] C (s_X2_takeKnownName hK hJk (by simp (disch := decide) only [up_s, up_n]; exact hP5)) v_X2_takeKnownName vv_X2_takeKnownName s_RX2_179 eX2_takeLender_11 (fun _ _ h => WF_pick [0, 1, 2, 3, 4, 5] rfl rfl h) (rcv 0 rfl) rfl (nle rfl) (nle rfl) (nle rfl) (nle rfl) rfl ?_
  rw [show knm J (up P 6 (P 5)) = knm J P by unfold knm; rw [up_n (by decide)]]
  have hk9 : 0 ≤ knm J P ∧ knm J P ≤ 4 := by unfold knm; split <;> (try split) <;> decide
  refine x_istore_n [_, _] C eX2_takeLender_14 rfl rfl (nlt rfl) ?_
  refine x_iload_n C eX2_takeLender_15 rfl ?_
  refine x_if_ne 41 C eX2_takeLender_16 rfl (by omega) (fun h16 => ?_) (fun h16 => ?_)
  · refine x_iload_n C eX2_takeLender_41 rfl ?_
    refine x_iret (by first | rfl | exact (narZ (by omega)).1) C F eX2_takeLender_42 () ?_ trivial (fun cf c h => ?_) (nle rfl) (nle rfl)
    · first
        | (rw [leC, if_pos (by omega), if_pos (by omega)]; try exact congrArg (fun z => some (Value.int (zI z))) (by omega))
        | rw [leC, if_pos (by omega), if_neg (by omega)]
        | rw [leC, if_neg (by omega)]
    · exact WF_pick [0, 1, 2, 3, 4, 5] rfl rfl h
  · have hkn : ¬ P 5 = -1 := fun z9 => by
      have := h16
      unfold knm at this
      rw [if_pos z9] at this
      split at this <;> omega
    have hto9 := hl9 (P 5) (by omega) (by omega)
    refine x_aload_n C eX2_takeLender_19 rfl ?_
    refine x_getR 0 C f_RX2_30 eX2_takeLender_20 rfl rfl ?_
    refine x_aload_n C eX2_takeLender_23 rfl ?_
    refine x_getI 0 C f_RX2_176 eX2_takeLender_24 rfl rfl ?_
    try simp (disch := first | decide | omega) only [up_s, up_n, tkI_2, tkI_3, tkI_4, tkI_5, tkI_6, tkI_7, tkI_8, lnI_1, lnI_2, lnI_3, lnI_4, lnI_5, lnI_10, lnI_11, lnI_12, lnI_13, lnI_14, lnI_15, un_s, ub_s, ub_n]
    refine yV1r [_, _, _, _] [_, _, _, _, _, _] C (s_X6_lineAt hK (by omega)) v_X6_lineAt vv_X6_lineAt s_RX2_74 eX2_takeLender_27 (fun _ _ h => WF_pick [2, 3, 0, 1, 4, 5] rfl rfl h) (rcv 2 rfl) rfl (nle rfl) (nle rfl) (nle rfl) (nle rfl) rfl ?_
    refine x_oZ (M := M) (L := L) (m := n) (i := P 5) (R := [_, _, _, _, _]) (by (try rw [un_n (by omega)]); omega) (fun _ _ hw => WF_pick [4, 0, 1, 2, 3, 5] rfl rfl hw) (fun A hA => ?_)
    refine x_getI 0 C f_RX2_182 eX2_takeLender_30 rfl rfl ?_
    try simp (disch := first | decide | omega) only [up_s, up_n, tkI_2, tkI_3, tkI_4, tkI_5, tkI_6, tkI_7, tkI_8, lnI_1, lnI_2, lnI_3, lnI_4, lnI_5, lnI_10, lnI_11, lnI_12, lnI_13, lnI_14, lnI_15, un_s, ub_s, ub_n]
    refine x_pick [_, _, _, _, _, _, _, _, _, _, _, _, _, _, _, _] [0, 1, 2, 3, 4, 5, 6, 7, 8, 9, 10, 11, 12, 13, 14, 15] rfl rfl ?_
    refine x_cZ (m := n) (i := P 5) (A := A) (B := n (P 5)) (by (try rw [un_n (by omega)]); omega) hA (fun cf c h => ?_) ?_
    · exact h
    rw [un_id]
    refine x_iconst C eX2_takeLender_33 ?_
    refine x_icmp_eq 41 C eX2_takeLender_34 rfl (by omega) (by omega) (fun h34 => ?_) (fun h34 => ?_)
    · refine x_iload_n C eX2_takeLender_41 rfl ?_
      refine x_iret (by first | rfl | exact (narZ (by omega)).1) C F eX2_takeLender_42 () ?_ trivial (fun cf c h => ?_) (nle rfl) (nle rfl)
      · first
          | (rw [leC, if_pos (by omega), if_pos (by omega)]; try exact congrArg (fun z => some (Value.int (zI z))) (by omega))
          | rw [leC, if_pos (by omega), if_neg (by omega)]
          | rw [leC, if_neg (by omega)]
      · exact WF_pick [3, 4, 1, 2, 0, 5] rfl rfl h
    · refine x_iconst C eX2_takeLender_37 ?_
      refine x_goto (pc' := 42) C eX2_takeLender_38 rfl ?_
      refine x_iret (by first | rfl | exact (narZ (by omega)).1) C F eX2_takeLender_42 () ?_ trivial (fun cf c h => ?_) (nle rfl) (nle rfl)
      · first
          | (rw [leC, if_pos (by omega), if_pos (by omega)]; try exact congrArg (fun z => some (Value.int (zI z))) (by omega))
          | rw [leC, if_pos (by omega), if_neg (by omega)]
          | rw [leC, if_neg (by omega)]
      · exact WF_pick [3, 4, 1, 2, 0, 5] rfl rfl h
