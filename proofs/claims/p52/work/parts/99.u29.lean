/-! A token is taken. -/
section Rules
variable {G : Gm} {X : Cx} {k n : Nat} {ws : List SA} {pc : Nat} {lv : List (Option Value)} {st : List Value}
theorem x_cZ0 {M : Pool} {L : Int → Nat} {m : Net} {i : Int} {A : Nat → Nat} {B : Blk} {p0 p1 p2 p3 p4 p5 p6 p7 p8 p9 : SA} {R : List SA} (hi : 0 ≤ i ∧ i = m (-1) 0 ∧ m (-1) 0 < 6) (hN : NQ G M (L (i + 6)) A (B 0)) (hcv : ∀ cf c, WF [p0, p1, p2, p3, p4, p5, p6, p7, p8, p9] cf c → WF (lnA G (L i) A B) cf c) (K : WX G X k n (LFz G M L (un (un m (-1) (ub (m (-1)) 0 (i + 1))) i B) :: R) pc lv st) : WX G X k n (p0 :: p1 :: p2 :: p3 :: p4 :: p5 :: p6 :: p7 :: p8 :: p9 :: hole (lzQ G M L m) i.toNat :: R) pc lv st :=
  x_ws _ (fun cf c h => LFz_close0 (A := A) hi hN (WF_in (P := [p0, p1, p2, p3, p4, p5, p6, p7, p8, p9]) h hcv)) K
end Rules
theorem PLw_cons {M : Pool} {q b : Nat} {w : List Int} (hM : PLw M) (h : w.length ≤ 400 ∧ ∀ c ∈ w, 0 ≤ c ∧ c < 128) : PLw ((q, b, w) :: M) := fun x hx => by
  rcases List.mem_cons.mp hx with rfl | hx
  · exact h
  · exact hM x hx
theorem tW_mem {Fb : Nat → Int} {z s : Int} {m : Nat} {lo hi : Int} (h : ∀ j : Nat, j < m → lo ≤ byt Fb z (s + (j : Int)) ∧ byt Fb z (s + (j : Int)) ≤ hi) : ∀ x ∈ tW Fb z s m, lo ≤ x ∧ x ≤ hi := fun x hx => by
  unfold tW at hx
  obtain ⟨j, hj, rfl⟩ := List.mem_map.mp hx
  exact h j (List.mem_range.mp hj)

set_option maxHeartbeats 4000000 in
set_option maxRecDepth 100000 in
theorem s_X2_takeNewName {G : Gm} {l : Launch} (hK : KG G) {pa tk tr qb ql q : Nat} {J P : Nat → Int} {b : Nat} {z : Int} {Fb : Nat → Int} {al lg : Nat} {M : Pool} {L : Int → Nat} {n : Net} (hS : KS G) (hPM : PLw M) (hJk : 0 ≤ J 1 ∧ J 1 ≤ 17) (hP5 : -1 ≤ P 5 ∧ P 5 ≤ 5) (hz : 0 ≤ z ∧ z ≤ 400) (hF : ∀ j : Nat, -128 ≤ Fb j ∧ Fb j ≤ 127) (hn5 : 0 ≤ n (-1) 0 ∧ n (-1) 0 < 6) (hwd : J 1 = 4 → (0 ≤ J 2 ∧ J 2 ≤ J 3 ∧ J 3 ≤ 400 ∧ J 3 - J 2 ≤ 6) ∧ ∀ j : Nat, J 2 ≤ (j : Int) → (j : Int) < J 3 → 97 ≤ byt Fb z (j : Int) ∧ byt Fb z (j : Int) ≤ 122) : MX G l yX2_takeNewName cX2_takeNewName 1 (some .int) 10 4 30 [.ref pa] [ob pa 4 (paS tk tr qb ql) (P), ob tk 7 [some (.ref q), none, none, none, none] J, ob q 6 [some (.ref b), none] (fun _ => z), ar G 1 b 400 400 (Fb), PL G M, ob tr 8 (tkS al lg) (tkI n), arR G 5 al 6 (fun j => some (L (j : Int))), LFz G M L (n), LOG G lg n] (fun _ : Pool => some (.int (zI (nnC J P)))) (fun M2 => (∀ y ∈ M, y ∈ M2) ∧ PLw M2) (fun M2 => [ob pa 4 (paS tk tr qb ql) (up P 4 4), ob tk 7 [some (.ref q), none, none, none, none] J, ob q 6 [some (.ref b), none] (fun _ => z), ar G 1 b 400 400 (Fb), PL G M2, ob tr 8 (tkS al lg) (tkI (if nnC J P = 0 then nwN n (wnum (tW Fb z (J 2) (J 3 - J 2).toNat)) else n)), arR G 5 al 6 (fun j => some (L (j : Int))), LFz G M2 L (if nnC J P = 0 then nwN n (wnum (tW Fb z (J 2) (J 3 - J 2).toNat)) else n), LOG G lg (if nnC J P = 0 then nwN n (wnum (tW Fb z (J 2) (J 3 - J 2).toNat)) else n)]) := by
  refine MX_of (lv := [some (.ref pa)]) hK (by decide +kernel) rfl (by first | exact nle rfl | omega) (fun X C F => ?_)
  have C : OKc G X l RX2 "takeNewName" cX2_takeNewName 1 (some .int) 10 4 30 := C
  refine x_aload_n C eX2_takeNewName_0 rfl ?_
  refine x_iconst C eX2_takeNewName_1 ?_
  refine x_putI [_, _, _, _, _, _, _, _, _] 0 C f_RX2_42 eX2_takeNewName_2 rfl rfl rfl ?_
  refine x_aload_n C eX2_takeNewName_5 rfl ?_
  refine x_getR 0 C f_RX2_26 eX2_takeNewName_6 rfl rfl ?_
  refine x_getI 1 C f_RX2_50 eX2_takeNewName_9 rfl rfl ?_
  try simp (disch := decide) only [up_s, up_n, tkI_2, tkI_3, tkI_4, tkI_5, tkI_6, tkI_7, tkI_8]
  refine x_iconst C eX2_takeNewName_12 ?_
  refine x_icmp_eq 18 C eX2_takeNewName_13 rfl (by omega) (by omega) (fun h13 => ?_) (fun h13 => ?_)
  · obtain ⟨hwa, hwb⟩ := hwd (by assumption)
    have hbk : ∀ j : Nat, j < (J 3 - J 2).toNat → 97 ≤ byt Fb z (J 2 + (j : Int)) ∧ byt Fb z (J 2 + (j : Int)) ≤ 122 := fun j hj => by
      have := hwb (J 2 + (j : Int)).toNat (by omega) (by omega)
      rw [show (((J 2 + (j : Int)).toNat : Nat) : Int) = J 2 + (j : Int) by omega] at this
      exact this
    refine x_aload_n C eX2_takeNewName_18 rfl ?_
    refine x_getI 0 C f_RX2_67 eX2_takeNewName_19 rfl rfl ?_
    try simp (disch := decide) only [up_s, up_n, tkI_2, tkI_3, tkI_4, tkI_5, tkI_6, tkI_7, tkI_8]
    refine x_iconst C eX2_takeNewName_22 ?_
    refine x_icmp_eq 28 C eX2_takeNewName_23 rfl (by omega) (by omega) (fun h23 => ?_) (fun h23 => ?_)
    · refine x_aload_n C eX2_takeNewName_28 rfl ?_
      refine x_getR 0 C f_RX2_30 eX2_takeNewName_29 rfl rfl ?_
      refine x_dup C eX2_takeNewName_32 rfl ?_
      refine x_getI 5 C f_RX2_140 eX2_takeNewName_33 rfl rfl ?_
      try simp (disch := decide) only [up_s, up_n, tkI_2, tkI_3, tkI_4, tkI_5, tkI_6, tkI_7, tkI_8]
      refine x_iconst C eX2_takeNewName_36 ?_
      refine x_iadd C eX2_takeNewName_37 ?_
      refine x_putI [_, _, _, _, _, _, _, _, _] 5 C f_RX2_140 eX2_takeNewName_38 rfl rfl rfl ?_
      refine x_aload_n C eX2_takeNewName_41 rfl ?_
      refine yV0r [_, _, _, _, _, _] [_, _, _, _, _, _, _, _, _] C (s_X2_latestLine hK (by show 1 ≤ up (tkI n) 2 (n (-1) 0 + 1) 2 ∧ up (tkI n) 2 (n (-1) 0 + 1) 2 ≤ 6; rw [up_s]; omega)) v_X2_latestLine vv_X2_latestLine s_RX2_146 eX2_takeNewName_42 (fun _ _ h => WF_pick [0, 5, 6, 1, 2, 3, 4, 7, 8] rfl rfl h) (rcv 0 rfl) rfl (by first | exact nle rfl | omega) (by first | exact nle rfl | omega) (by first | exact nle rfl | omega) (by first | exact nle rfl | omega) rfl ?_
      rw [show up (tkI n) 2 (n (-1) 0 + 1) 2 - 1 = n (-1) 0 by rw [up_s]; omega]
      refine x_aload_n C eX2_takeNewName_45 rfl ?_
      refine x_getR 0 C f_RX2_26 eX2_takeNewName_46 rfl rfl ?_
      refine x_getR 3 C f_RX2_53 eX2_takeNewName_49 rfl rfl ?_
      refine x_aload_n C eX2_takeNewName_52 rfl ?_
      refine x_getR 0 C f_RX2_26 eX2_takeNewName_53 rfl rfl ?_
      refine x_getI 3 C f_RX2_57 eX2_takeNewName_56 rfl rfl ?_
      try simp (disch := decide) only [up_s, up_n, tkI_2, tkI_3, tkI_4, tkI_5, tkI_6, tkI_7, tkI_8]
      refine x_aload_n C eX2_takeNewName_59 rfl ?_
      refine x_getR 0 C f_RX2_26 eX2_takeNewName_60 rfl rfl ?_
      refine x_getI 3 C f_RX2_60 eX2_takeNewName_63 rfl rfl ?_
      try simp (disch := decide) only [up_s, up_n, tkI_2, tkI_3, tkI_4, tkI_5, tkI_6, tkI_7, tkI_8]
      refine yV2x [_, _, _, _, _, _] C (s_X4_wordBetween hK hS (by omega) (by omega) (by omega) hwb) v_X4_wordBetween vv_X4_wordBetween s_RX2_150 eX2_takeNewName_66 (fun _ _ h => WF_pick [4, 5, 6, 0, 1, 2, 3, 7, 8] rfl rfl h) (rcv 4 rfl) rfl (by first | exact nle rfl | omega) (by first | exact nle rfl | omega) (by first | exact nle rfl | omega) (by first | exact nle rfl | omega) (fun x66 hx66 => ?_)
      refine x_oZ0 (M := (x66.1, x66.2, tW Fb z (J 2) (J 3 - J 2).toNat) :: M) (L := L) (m := n) (i := n (-1) 0) (R := [_, _, _, _, _, _, _, _]) (by omega) (fun _ _ hw => PW.wf (PW_cons (fun _ h => LFz_mono (fun _ hx => List.mem_cons_of_mem _ hx) h) PW_rf) (WF_pick [7, 0, 1, 2, 3, 4, 5, 6, 8] rfl rfl hw)) (fun A hA => ?_)
      refine x_putR [_, _, _, _, _, _, _, _, _, _, _, _, _, _, _, _, _, _] [_, _, _, _, _, _, _, _, _, _, _, _, _, _, _, _, _, _, _] 0 C f_RX2_156 eX2_takeNewName_69 rfl (nlt rfl) rfl rfl rfl rfl ?_
      refine x_pick [_, _, _, _, _, _, _, _, _, _, _, _, _, _, _, _, _, _, _] [0, 1, 2, 3, 4, 5, 6, 7, 8, 9, 10, 11, 12, 13, 14, 15, 16, 17, 18] rfl rfl ?_
      refine x_cZ0 (m := n) (i := n (-1) 0) (A := fun j => if j = 0 then x66.1 else A j) (B := ub (n (n (-1) 0)) 0 (wnum (tW Fb z (J 2) (J 3 - J 2).toNat))) (by omega) ⟨⟨x66.2, _, Or.inl List.mem_cons_self, by rw [tW_len]; omega, tW_mem hbk, by rw [ub_s]⟩, hA⟩ (fun cf c h => ?_) ?_
      · exact ln_this (A := fun j => if j = 0 then x66.1 else A j) (B := n (n (-1) 0)) (B' := ub (n (n (-1) 0)) 0 (wnum (tW Fb z (J 2) (J 3 - J 2).toNat))) (by
          refine lnI_ok ?_ ?_ ?_ ?_ ?_ ?_ ?_ ?_ ?_ ?_ ?_
          all_goals (try simp (disch := omega) only [up_s, up_n, lnI_1, lnI_2, lnI_3, lnI_4, lnI_5, lnI_10, lnI_11, lnI_12, lnI_13, lnI_14, lnI_15, lnTo, ub_s, ub_n, bLend])
          all_goals (repeat' split)
          all_goals first | rfl | omega) (by first | rfl | (simp (disch := omega) only [ub_n])) (by first | rfl | (simp (disch := omega) only [ub_n])) (by first | rfl | (simp (disch := omega) only [ub_n])) (by first | rfl | (simp (disch := omega) only [ub_n])) (fun k hk => by first | rfl | (simp (disch := omega) only [ub_n])) cf c h rfl
      refine x_iconst C eX2_takeNewName_72 ?_
      refine x_iret (by first | rfl | exact (narZ (by omega)).1) C F eX2_takeNewName_73 ((x66.1, x66.2, tW Fb z (J 2) (J 3 - J 2).toNat) :: M) (by rw [nnC, if_pos (by omega), if_pos (by omega)]) ⟨fun _ h => List.mem_cons_of_mem _ h, PLw_cons hPM ⟨by rw [tW_len]; omega, fun c hc => by have := tW_mem hbk c hc; omega⟩⟩ (fun cf c h => ?_) (by first | exact nle rfl | omega) (by first | exact nle rfl | omega)
      rw [show (if nnC J P = 0 then nwN n (wnum (tW Fb z (J 2) (J 3 - J 2).toNat)) else n) = nwN n (wnum (tW Fb z (J 2) (J 3 - J 2).toNat)) from if_pos (by unfold nnC; rw [if_pos (by omega), if_pos (by omega)])]
      have eL : ∀ w, nwN n (wnum (tW Fb z (J 2) (J 3 - J 2).toNat)) (-1) w = ub (n (-1)) 0 (n (-1) 0 + 1) w := fun w => by unfold nwN; rw [un_n (by omega), un_s]
      refine PW.wf (PW_cons (fun _ h => h) (PW_cons (fun _ h => h) (PW_cons (fun _ h => h) (PW_cons (fun _ h => h) (PW_cons (fun _ h => h) (PW_cons (tkOb ?_ ?_ ?_ ?_ ?_ ?_ ?_) (PW_cons (fun _ h => h) (PW_cons (fun _ h => h) (PW_cons (fun d h => ?_) PW_nil))))))))) (WF_pick [4, 7, 1, 2, 3, 5, 6, 0, 8] rfl rfl h)
      · rw [eL]; rfl
      · rw [eL]; rfl
      · rw [eL]; rfl
      · rw [eL]; rfl
      · rw [eL]; rfl
      · rw [eL]; rfl
      · rw [eL]; rfl
      · rw [LOG_eq (n := n) (n' := nwN n (wnum (tW Fb z (J 2) (J 3 - J 2).toNat))) (by rw [eL]; rfl) (by unfold nwN; rw [un_n (by omega), un_n (by omega)])]
        exact h
    · refine x_iconst C eX2_takeNewName_26 ?_
      refine x_iret (by first | rfl | exact (narZ (by omega)).1) C F eX2_takeNewName_27 M (by rw [nnC, if_pos (by omega), if_neg (by omega)]) ⟨fun _ h => h, hPM⟩ (fun cf c h => ?_) (by first | exact nle rfl | omega) (by first | exact nle rfl | omega)
      rw [show (if nnC J P = 0 then nwN n (wnum (tW Fb z (J 2) (J 3 - J 2).toNat)) else n) = n from if_neg (by unfold nnC; first | (rw [if_neg (by omega)]; decide) | (rw [if_pos (by omega), if_neg (by omega)]; decide))]
      exact WF_pick [0, 1, 2, 3, 4, 5, 6, 7, 8] rfl rfl h
  · refine x_iconst C eX2_takeNewName_16 ?_
    refine x_iret (by first | rfl | exact (narZ (by omega)).1) C F eX2_takeNewName_17 M (by rw [nnC, if_neg (by omega)]) ⟨fun _ h => h, hPM⟩ (fun cf c h => ?_) (by first | exact nle rfl | omega) (by first | exact nle rfl | omega)
    rw [show (if nnC J P = 0 then nwN n (wnum (tW Fb z (J 2) (J 3 - J 2).toNat)) else n) = n from if_neg (by unfold nnC; first | (rw [if_neg (by omega)]; decide) | (rw [if_pos (by omega), if_neg (by omega)]; decide))]
    exact WF_pick [0, 1, 2, 3, 4, 5, 6, 7, 8] rfl rfl h

set_option maxHeartbeats 4000000 in
set_option maxRecDepth 100000 in
theorem s_X2_takeTurns {G : Gm} {l : Launch} (hK : KG G) {pa tk tr qb ql q : Nat} {J P : Nat → Int} {al lg : Nat} {M : Pool} {L : Int → Nat} {n : Net} (hJb : 0 ≤ J 4 ∧ J 4 ≤ 1000) (hJk : 0 ≤ J 1 ∧ J 1 ≤ 17) (hP6 : 0 ≤ P 6 ∧ P 6 < n (-1) 0) (hn6 : 0 ≤ n (-1) 0 ∧ n (-1) 0 ≤ 6) : MX G l yX2_takeTurns cX2_takeTurns 1 (some .int) 3 0 0 [.ref pa] [ob pa 4 (paS tk tr qb ql) (P), ob tk 7 [some (.ref q), none, none, none, none] J, ob tr 8 (tkS al lg) (tkI n), arR G 5 al 6 (fun j => some (L (j : Int))), LFz G M L (n), LOG G lg n] (fun _ : Unit => some (.int (zI (tnC J 1 99)))) (fun _ => True) (fun _ => [ob pa 4 (paS tk tr qb ql) (up P 4 2), ob tk 7 [some (.ref q), none, none, none, none] J, TC G M tr L (un n (P 6) (bLend (n (P 6)) (P 7) (J 4))) (tnC J 1 99)]) := by
  refine MX_of (lv := [some (.ref pa)]) hK (by decide +kernel) rfl (nle rfl) (fun X C F => ?_)
  have C : OKc G X l RX2 "takeTurns" cX2_takeTurns 1 (some .int) 3 0 0 := C
  refine x_aload_n C eX2_takeTurns_0 rfl ?_
  refine x_getR 0 C f_RX2_30 eX2_takeTurns_1 rfl rfl ?_
  refine x_aload_n C eX2_takeTurns_4 rfl ?_
  refine x_getI 0 C f_RX2_176 eX2_takeTurns_5 rfl rfl ?_
  try simp (disch := first | decide | omega) only [up_s, up_n, tkI_2, tkI_3, tkI_4, tkI_5, tkI_6, tkI_7, tkI_8, lnI_1, lnI_2, lnI_3, lnI_4, lnI_5, lnI_10, lnI_11, lnI_12, lnI_13, lnI_14, lnI_15, un_s, ub_s, ub_n]
  refine yV1r [_, _, _, _] [_, _, _, _, _, _] C (s_X6_lineAt hK (by omega)) v_X6_lineAt vv_X6_lineAt s_RX2_74 eX2_takeTurns_8 (fun _ _ h => WF_pick [2, 3, 0, 1, 4, 5] rfl rfl h) (rcv 2 rfl) rfl (nle rfl) (nle rfl) (nle rfl) (nle rfl) rfl ?_
  refine x_aload_n C eX2_takeTurns_11 rfl ?_
  refine x_getI 2 C f_RX2_185 eX2_takeTurns_12 rfl rfl ?_
  try simp (disch := first | decide | omega) only [up_s, up_n, tkI_2, tkI_3, tkI_4, tkI_5, tkI_6, tkI_7, tkI_8, lnI_1, lnI_2, lnI_3, lnI_4, lnI_5, lnI_10, lnI_11, lnI_12, lnI_13, lnI_14, lnI_15, un_s, ub_s, ub_n]
  refine x_aload_n C eX2_takeTurns_15 rfl ?_
  refine x_getR 2 C f_RX2_26 eX2_takeTurns_16 rfl rfl ?_
  refine x_getI 3 C f_RX2_143 eX2_takeTurns_19 rfl rfl ?_
  try simp (disch := first | decide | omega) only [up_s, up_n, tkI_2, tkI_3, tkI_4, tkI_5, tkI_6, tkI_7, tkI_8, lnI_1, lnI_2, lnI_3, lnI_4, lnI_5, lnI_10, lnI_11, lnI_12, lnI_13, lnI_14, lnI_15, un_s, ub_s, ub_n]
  refine x_oZ (M := M) (L := L) (m := n) (i := P 6) (R := [_, _, _, _, _]) (by (try rw [un_n (by omega)]); omega) (fun _ _ hw => WF_pick [4, 0, 1, 2, 3, 5] rfl rfl hw) (fun A hA => ?_)
  refine yV2v [_, _, _, _, _, _, _, _, _, _, _, _, _, _, _] [_, _, _, _, _, _, _, _, _, _, _, _, _, _, _, _] C (s_X0_lendTo hK ) v_X0_lendTo vv_X0_lendTo s_RX2_188 eX2_takeTurns_22 (fun _ _ h => WF_pick [0, 1, 2, 3, 4, 5, 6, 7, 8, 9, 10, 11, 12, 13, 14, 15] rfl rfl h) (rcv 0 rfl) rfl (nle rfl) (nle rfl) (nle rfl) (nle rfl) rfl ?_
  by_cases hp9 : 0 < J 4
  · refine x_pick [_, _, _, _, _, _, _, _, _, _, _, _, _, _, _, _] [0, 1, 2, 3, 4, 5, 6, 7, 8, 9, 10, 11, 12, 13, 14, 15] rfl rfl ?_
    refine x_cZ (m := n) (i := P 6) (A := A) (B := bLend (n (P 6)) (P 7) (J 4)) (by (try rw [un_n (by omega)]); omega) hA (fun cf c h => ?_) ?_
    · exact ln_this (B := n (P 6)) (by
        refine lnI_ok ?_ ?_ ?_ ?_ ?_ ?_ ?_ ?_ ?_ ?_ ?_
        all_goals (try simp (disch := omega) only [up_s, up_n, lnI_1, lnI_2, lnI_3, lnI_4, lnI_5, lnI_10, lnI_11, lnI_12, lnI_13, lnI_14, lnI_15, lnTo, ub_s, ub_n, bLend])
        all_goals (repeat' split)
        all_goals first | rfl | omega) (by first | rfl | (simp (disch := omega) only [ub_n, bLend])) (by first | rfl | (simp (disch := omega) only [ub_n, bLend])) (by first | rfl | (simp (disch := omega) only [ub_n, bLend])) (by first | rfl | (simp (disch := omega) only [ub_n, bLend])) (fun k hk => by first | rfl | (simp (disch := omega) only [ub_n, bLend])) cf c h rfl
    refine x_aload_n C eX2_takeTurns_25 rfl ?_
    refine x_iconst C eX2_takeTurns_26 ?_
    refine x_bipush C eX2_takeTurns_27 rfl ?_
    refine x_iconst C eX2_takeTurns_29 ?_
    refine yV3r [_, _, _, _] [_, _, _, _, _, _] C (s_X2_takeNumber hK hJb hJk (by decide)) v_X2_takeNumber vv_X2_takeNumber s_RX2_163 eX2_takeTurns_30 (fun _ _ h => WF_pick [3, 4, 0, 1, 2, 5] rfl rfl h) (rcv 3 rfl) rfl (nle rfl) (nle rfl) (nle rfl) (nle rfl) rfl ?_
    refine x_iret (by first | rfl | exact (narZ (by omega)).1) C F eX2_takeTurns_33 () rfl trivial (fun cf c h => ?_) (nle rfl) (nle rfl)
    exact WF_pick [1, 2, 0] rfl rfl (WF_cTCu (m := n) (i := P 6) (B := bLend (n (P 6)) (P 7) (J 4)) (tnC J 1 99) (by omega) (R := [_, _]) (WF_pick [3, 4, 2, 5, 0, 1] rfl rfl h))
  · refine x_ws (TG G tr L :: [_, _]) (fun cf0 c hw => WF_lostTG (M := M) (m := n) (i := P 6) (A := A) (w := n (P 6) 15) (Jl := up (up (lnI (n (P 6))) 11 (P 7)) 12 (J 4)) (z := fun k => if k = 2 then n (P 6) 7 else if k = 3 then n (P 6) 8 else n (P 6) 6) (f := fun k j => if k = 0 then n (P 6) (28 + (j : Int)) else if k = 1 then n (P 6) (88 + (j : Int)) else if k = 2 then n (P 6) (148 + (j : Int)) else if k = 3 then n (P 6) (208 + (j : Int)) else n (P 6) (16 + (j : Int))) (R := [_, _]) (by omega) hA.2 (WF_pick [0, 1, 2, 3, 4, 5, 6, 7, 8, 9, 10, 11, 12, 15, 13, 14] rfl rfl hw)) ?_
    refine x_aload_n C eX2_takeTurns_25 rfl ?_
    refine x_iconst C eX2_takeTurns_26 ?_
    refine x_bipush C eX2_takeTurns_27 rfl ?_
    refine x_iconst C eX2_takeTurns_29 ?_
    refine yV3r [_] [_, _, _] C (s_X2_takeNumber hK hJb hJk (by decide)) v_X2_takeNumber vv_X2_takeNumber s_RX2_163 eX2_takeTurns_30 (fun _ _ h => WF_pick [1, 2, 0] rfl rfl h) (rcv 1 rfl) rfl (nle rfl) (nle rfl) (nle rfl) (nle rfl) rfl ?_
    refine x_iret (by first | rfl | exact (narZ (by omega)).1) C F eX2_takeTurns_33 () rfl trivial (fun cf c h => ?_) (nle rfl) (nle rfl)
    exact PW.wf (PW_cons (fun _ h => h) (PW_cons (fun _ h => h) (PW_cons (fun d h => TC_TG (by unfold tnC; split <;> (try split) <;> omega) d h) PW_nil))) (WF_pick [0, 1, 2] rfl rfl h)
  
