/-! Lending tried, bytes dropped. -/
theorem aBest_m {n : Net} {l : Int} : ∀ k : Nat, -1 ≤ (aBest n l k).2 := by
  intro k
  induction k with
  | zero => exact Int.le_refl _
  | succ k ih =>
    show -1 ≤ max (aBest n l k).2 _
    omega
theorem aBest_s1 {n : Net} {l : Int} {k : Nat} (h : (k : Int) = l) : aBest n l (k + 1) = aBest n l k := by
  have hm := aBest_m (n := n) (l := l) k
  have e : aBest n l (k + 1) = (if (aBest n l k).2 < (if (k : Int) = l then -1 else aLent n (-1) l k) then (k : Int) else (aBest n l k).1, max (aBest n l k).2 (if (k : Int) = l then -1 else aLent n (-1) l k)) := rfl
  rw [e, if_pos h, if_neg (by omega), show max (aBest n l k).2 (-1) = (aBest n l k).2 by omega]
theorem aBest_s2 {n : Net} {l : Int} {k : Nat} (h : ¬ (k : Int) = l) (hc : (aBest n l k).2 < aLent n (-1) l k) : aBest n l (k + 1) = ((k : Int), aLent n (-1) l k) := by
  have e : aBest n l (k + 1) = (if (aBest n l k).2 < (if (k : Int) = l then -1 else aLent n (-1) l k) then (k : Int) else (aBest n l k).1, max (aBest n l k).2 (if (k : Int) = l then -1 else aLent n (-1) l k)) := rfl
  rw [e, if_neg h, if_pos hc, show max (aBest n l k).2 (aLent n (-1) l k) = aLent n (-1) l k by omega]
theorem aBest_s3 {n : Net} {l : Int} {k : Nat} (h : ¬ (k : Int) = l) (hc : ¬ (aBest n l k).2 < aLent n (-1) l k) : aBest n l (k + 1) = aBest n l k := by
  have e : aBest n l (k + 1) = (if (aBest n l k).2 < (if (k : Int) = l then -1 else aLent n (-1) l k) then (k : Int) else (aBest n l k).1, max (aBest n l k).2 (if (k : Int) = l then -1 else aLent n (-1) l k)) := rfl
  rw [e, if_neg h, if_neg hc, show max (aBest n l k).2 (aLent n (-1) l k) = (aBest n l k).2 by omega]
theorem nTicks_4 {b : Int} {n : Net} (h : NetOk b n) : ∀ k : Nat, n (-1) 4 ≤ nTicks k n (-1) 4 := by
  intro k
  induction k with
  | zero => exact Int.le_refl _
  | succ k ih =>
    have he := nTick_eff (NetOk_ticks h k)
    show n (-1) 4 ≤ nTick (nTicks k n) (-1) 4
    by_cases c : (nLooks (nTicks k n)).2 = -1
    · rw [(he.1 c).1]; exact ih
    · rw [(he.2 c).1]; omega
theorem aLent_own {n : Net} {l o : Int} (h : 0 ≤ l) : aLent n l l o = nTicks 100 (un n l (bLend (n l) o 99)) l 17 - n l 17 := if_neg (by omega)

set_option maxHeartbeats 4000000 in
set_option maxRecDepth 100000 in
theorem s_X7_tryLending {G : Gm} {l : Launch} (hK : KG G) {e ip op t tr ps pa sl al lg : Nat} {J : Nat → Int} {M : Pool} {L : Int → Nat} {n : Net} {L2 : Int → Nat} {b : Int} {l9 o9 : Int} (hN : NetOk b n) (hb : b ≤ 900000000) (hl : 0 ≤ l9 ∧ l9 < n (-1) 0) (ho : 0 ≤ o9 ∧ o9 < n (-1) 0) (hne : ¬ o9 = l9) : MD G l yX7_tryLending cX7_tryLending 3 none 9 0 0 [.ref e, .int (zI l9), .int (zI o9)] [ob e 9 (ecS ip op t tr ps pa sl) J, ob t 8 (tkS al lg) (tkI (n)), arR G 5 al 6 (fun j => some (L (j : Int))), LF G M L (n), LOG G lg (n), TG G tr L2] none [ob e 9 (ecS ip op t tr ps pa sl) J, ob t 8 (tkS al lg) (tkI (n)), arR G 5 al 6 (fun j => some (L (j : Int))), LF G M L (n), LOG G lg (n), TO G M tr L2 (nTicks 100 (un n l9 (bLend (n l9) o9 99)))] := by
  refine MX_of (lv := [some (.ref e), some (.int (zI l9)), some (.int (zI o9))]) hK (by decide +kernel) rfl (nle rfl) (fun X C F => ?_)
  have C : OKc G X l RX7 "tryLending" cX7_tryLending 3 none 9 0 0 := C
  have hH := hN.1
  unfold HeadOk at hH
  have hN2 := NetOk_lend (t := 99) hN hl ho hne (by decide)
  refine x_oTG (t := tr) (L := L2) (R := [_, _, _, _, _]) (fun _ _ hw => WF_pick [5, 0, 1, 2, 3, 4] rfl rfl hw) (fun al2 lg2 J2 => ?_)
  refine x_aload_n C eX7_tryLending_0 rfl ?_
  refine x_getR 4 C f_RX7_26 eX7_tryLending_1 rfl rfl ?_
  refine x_aload_n C eX7_tryLending_4 rfl ?_
  refine x_getR 4 C f_RX7_22 eX7_tryLending_5 rfl rfl ?_
  refine yV1v [_] [_, _, _, _, _, _, _, _, _] C (s_X6_copyFrom hK hN (by omega)) v_X6_copyFrom vv_X6_copyFrom s_RX7_87 eX7_tryLending_8 (fun _ _ h => WF_pick [0, 1, 2, 3, 5, 6, 7, 8, 4] rfl rfl h) (rcv 0 rfl) rfl (nle rfl) (nle rfl) (nle rfl) (nle rfl) rfl ?_
  refine x_aload_n C eX7_tryLending_11 rfl ?_
  refine x_getR 8 C f_RX7_26 eX7_tryLending_12 rfl rfl ?_
  refine x_iload_n C eX7_tryLending_15 rfl ?_
  refine yV1r [_, _, _, _, _, _, _] [_, _, _, _, _, _, _, _, _] C (s_X6_lineAt hK (by omega)) v_X6_lineAt vv_X6_lineAt s_RX7_122 eX7_tryLending_16 (fun _ _ h => WF_pick [0, 1, 2, 3, 4, 5, 6, 7, 8] rfl rfl h) (rcv 0 rfl) rfl (nle rfl) (nle rfl) (nle rfl) (nle rfl) rfl ?_
  refine x_iload_n C eX7_tryLending_19 rfl ?_
  refine x_bipush C eX7_tryLending_20 rfl ?_
  refine yV2v [_, _, _, _, _, _, _, _] [_, _, _, _, _, _, _, _, _] C (s_FL_lendTo hK (by omega) (by omega)) v_X0_lendTo vv_X0_lendTo s_RX7_241 eX7_tryLending_22 (fun _ _ h => WF_pick [2, 0, 1, 3, 4, 5, 6, 7, 8] rfl rfl h) (rcvP 2 rfl (LF_rcv (by omega))) rfl (nle rfl) (nle rfl) (nle rfl) (nle rfl) rfl ?_
  refine x_ws ((ob tr 8 (tkS al2 lg2) (tkI (un n l9 (bLend (n l9) o9 99)))) :: (arR G 5 al2 6 (fun j => some (L2 (j : Int)))) :: (LF G M L2 (un n l9 (bLend (n l9) o9 99))) :: (LOG G lg2 (un n l9 (bLend (n l9) o9 99))) :: [_, _, _, _, _]) (fun cf0 c hw => TKcv (n1 := un n l9 (bLend (n l9) o9 99)) (n2 := n) ?_ ?_ ?_ ?_ ?_ ?_ ?_ ?_ ?_ ?_ ?_ (R := [_, _, _, _, _]) (WF_pick [1, 2, 0, 3, 4, 5, 6, 7, 8] rfl rfl hw)) ?_
  · rw [un_n (by omega)]; rfl
  · rw [un_n (by omega)]; rfl
  · rw [un_n (by omega)]; rfl
  · rw [un_n (by omega)]; rfl
  · rw [un_n (by omega)]; rfl
  · rw [un_n (by omega)]; rfl
  · rw [un_n (by omega)]; rfl
  · rfl
  · exact fun _ _ _ => rfl
  · rw [un_n (by omega)]
  · rw [un_n (by omega)]
  refine x_aload_n C eX7_tryLending_25 rfl ?_
  refine x_getR 8 C f_RX7_26 eX7_tryLending_26 rfl rfl ?_
  refine x_bipush C eX7_tryLending_29 rfl ?_
  refine yV1v [_, _, _, _, _] [_, _, _, _, _, _, _, _, _] C (s_X6_passTicks hK hN2 (by decide) (by omega)) v_X6_passTicks vv_X6_passTicks s_RX7_227 eX7_tryLending_31 (fun _ _ h => WF_pick [0, 1, 2, 3, 4, 5, 6, 7, 8] rfl rfl h) (rcv 0 rfl) rfl (nle rfl) (nle rfl) (nle rfl) (nle rfl) rfl ?_
  rw [show (100 : Int).toNat = 100 from rfl]
  refine x_vret C F eX7_tryLending_34 () rfl trivial (fun cf c h => ?_) (nle rfl) (nle rfl)
  exact WF_pick [5, 1, 2, 3, 4, 0] rfl rfl (WF_cTO (t := tr) (L := L2) (m := nTicks 100 (un n l9 (bLend (n l9) o9 99))) (R := [_, _, _, _, _]) (WF_pick [0, 1, 2, 3, 4, 5, 6, 7, 8] rfl rfl h))

set_option maxHeartbeats 4000000 in
set_option maxRecDepth 100000 in
theorem s_X7_sentIfLent {G : Gm} {l : Launch} (hK : KG G) {e ip op t tr ps pa sl al lg : Nat} {J : Nat → Int} {M : Pool} {L : Int → Nat} {n : Net} {L2 : Int → Nat} {b : Int} {l9 o9 : Int} (hN : NetOk b n) (hb : b ≤ 900000000) (hl : 0 ≤ l9 ∧ l9 < n (-1) 0) (ho : 0 ≤ o9 ∧ o9 < n (-1) 0) (hne : ¬ o9 = l9) : MD G l yX7_sentIfLent cX7_sentIfLent 3 (some .int) 10 0 0 [.ref e, .int (zI l9), .int (zI o9)] [ob e 9 (ecS ip op t tr ps pa sl) J, ob t 8 (tkS al lg) (tkI (n)), arR G 5 al 6 (fun j => some (L (j : Int))), LF G M L (n), LOG G lg (n), TG G tr L2] (some (.int (zI (aLent n l9 l9 o9)))) [ob e 9 (ecS ip op t tr ps pa sl) J, ob t 8 (tkS al lg) (tkI (n)), arR G 5 al 6 (fun j => some (L (j : Int))), LF G M L (n), LOG G lg (n), TG G tr L2] := by
  refine MX_of (lv := [some (.ref e), some (.int (zI l9)), some (.int (zI o9))]) hK (by decide +kernel) rfl (nle rfl) (fun X C F => ?_)
  have C : OKc G X l RX7 "sentIfLent" cX7_sentIfLent 3 (some .int) 10 0 0 := C
  have hH := hN.1
  unfold HeadOk at hH
  have hT := nTicks_lent hN hl ho hne
  refine x_aload_n C eX7_sentIfLent_0 rfl ?_
  refine x_iload_n C eX7_sentIfLent_1 rfl ?_
  refine yV1v [_, _, _, _] [_, _, _, _, _, _] C (s_X7_testLine hK (by omega)) v_X7_testLine vv_X7_testLine s_RX7_145 eX7_sentIfLent_2 (fun _ _ h => WF_pick [0, 1, 2, 3, 4, 5] rfl rfl h) (rcv 0 rfl) rfl (nle rfl) (nle rfl) (nle rfl) (nle rfl) rfl ?_
  refine x_aload_n C eX7_sentIfLent_5 rfl ?_
  refine x_iload_n C eX7_sentIfLent_6 rfl ?_
  refine yV1v [_, _, _, _] [_, _, _, _, _, _] C (s_X7_testLine hK (by omega)) v_X7_testLine vv_X7_testLine s_RX7_145 eX7_sentIfLent_7 (fun _ _ h => WF_pick [0, 1, 2, 3, 4, 5] rfl rfl h) (rcv 0 rfl) rfl (nle rfl) (nle rfl) (nle rfl) (nle rfl) rfl ?_
  refine x_iload_n C eX7_sentIfLent_10 rfl ?_
  refine x_iload_n C eX7_sentIfLent_11 rfl ?_
  refine yS2v [_, _, _, _, _, _] [_, _, _, _, _, _] C (s_X7_testOther hK (by omega)) v_X7_testOther vs_X7_testOther s_RX7_234 eX7_sentIfLent_12 (fun _ _ h => WF_pick [0, 1, 2, 3, 4, 5] rfl rfl h) rfl (nle rfl) (nle rfl) (nle rfl) (nle rfl) rfl ?_
  refine x_aload_n C eX7_sentIfLent_15 rfl ?_
  refine x_iload_n C eX7_sentIfLent_16 rfl ?_
  refine x_iload_n C eX7_sentIfLent_17 rfl ?_
  refine yV2v [] [_, _, _, _, _, _] C (s_X7_tryLending hK hN (by omega) hl ho hne) v_X7_tryLending vv_X7_tryLending s_RX7_238 eX7_sentIfLent_18 (fun _ _ h => WF_pick [0, 1, 2, 3, 4, 5] rfl rfl h) (rcv 0 rfl) rfl (nle rfl) (nle rfl) (nle rfl) (nle rfl) rfl ?_
  refine x_oTO (t := tr) (M := M) (L := L2) (m := nTicks 100 (un n l9 (bLend (n l9) o9 99))) (R := [_, _, _, _, _]) (fun _ _ hw => WF_pick [5, 0, 1, 2, 3, 4] rfl rfl hw) (fun al2 lg2 => ?_)
  refine x_aload_n C eX7_sentIfLent_21 rfl ?_
  refine x_getR 4 C f_RX7_26 eX7_sentIfLent_22 rfl rfl ?_
  refine x_iload_n C eX7_sentIfLent_25 rfl ?_
  refine yV1r [_, _, _, _, _, _, _] [_, _, _, _, _, _, _, _, _] C (s_X6_lineAt hK (by omega)) v_X6_lineAt vv_X6_lineAt s_RX7_122 eX7_sentIfLent_26 (fun _ _ h => WF_pick [0, 1, 2, 3, 4, 5, 6, 7, 8] rfl rfl h) (rcv 0 rfl) rfl (nle rfl) (nle rfl) (nle rfl) (nle rfl) rfl ?_
  refine x_iconst C eX7_sentIfLent_29 ?_
  refine yV1r [_, _, _, _, _, _, _, _] [_, _, _, _, _, _, _, _, _] C (s_FL_counted hK (by omega) (by omega)) v_X0_counted vv_X0_counted s_RX7_184 eX7_sentIfLent_30 (fun _ _ h => WF_pick [2, 0, 1, 3, 4, 5, 6, 7, 8] rfl rfl h) (rcvP 2 rfl (LF_rcv (by omega))) rfl (nle rfl) (nle rfl) (nle rfl) (nle rfl) rfl ?_
  refine x_aload_n C eX7_sentIfLent_33 rfl ?_
  refine x_getR 4 C f_RX7_22 eX7_sentIfLent_34 rfl rfl ?_
  refine x_iload_n C eX7_sentIfLent_37 rfl ?_
  refine yV1r [_, _, _, _, _, _, _] [_, _, _, _, _, _, _, _, _] C (s_X6_lineAt hK (by omega)) v_X6_lineAt vv_X6_lineAt s_RX7_122 eX7_sentIfLent_38 (fun _ _ h => WF_pick [5, 6, 0, 1, 2, 3, 4, 7, 8] rfl rfl h) (rcv 5 rfl) rfl (nle rfl) (nle rfl) (nle rfl) (nle rfl) rfl ?_
  refine x_iconst C eX7_sentIfLent_41 ?_
  refine yV1r [_, _, _, _, _, _, _, _] [_, _, _, _, _, _, _, _, _] C (s_FL_counted hK (by omega) (by omega)) v_X0_counted vv_X0_counted s_RX7_184 eX7_sentIfLent_42 (fun _ _ h => WF_pick [7, 0, 1, 2, 3, 4, 5, 6, 8] rfl rfl h) (rcvP 7 rfl (LF_rcv (by omega))) rfl (nle rfl) (nle rfl) (nle rfl) (nle rfl) rfl ?_
  refine x_isub C eX7_sentIfLent_45 ?_
  refine x_iret (by first | rfl | exact (narZ (by omega)).1) C F eX7_sentIfLent_46 () ?_ trivial (fun cf c h => ?_) (nle rfl) (nle rfl)
  · rw [aLent_own hl.1]
    rfl
  · exact WF_pick [4, 2, 3, 1, 5, 0] rfl rfl (WF_cTG (t := tr) (L := L2) (R := [_, _, _, _, _]) (WF_pick [4, 5, 3, 6, 0, 1, 2, 7, 8] rfl rfl h))

set_option maxHeartbeats 4000000 in
set_option maxRecDepth 100000 in
theorem s_X7_bestBorrower {G : Gm} {l : Launch} (hK : KG G) {e ip op t tr ps pa sl al lg : Nat} {J : Nat → Int} {M : Pool} {L : Int → Nat} {n : Net} {L2 : Int → Nat} {b : Int} {l9 : Int} (hN : NetOk b n) (hb : b ≤ 900000000) (hl : 0 ≤ l9 ∧ l9 < n (-1) 0) : MD G l yX7_bestBorrower cX7_bestBorrower 5 (some .int) 10 0 0 [.ref e, .int (zI l9)] [ob e 9 (ecS ip op t tr ps pa sl) J, ob t 8 (tkS al lg) (tkI (n)), arR G 5 al 6 (fun j => some (L (j : Int))), LF G M L (n), LOG G lg (n), TG G tr L2] (some (.int (zI (aBest n l9 (n (-1) 0).toNat).1))) [ob e 9 (ecS ip op t tr ps pa sl) J, ob t 8 (tkS al lg) (tkI (n)), arR G 5 al 6 (fun j => some (L (j : Int))), LF G M L (n), LOG G lg (n), TG G tr L2] := by
  refine MX_of (lv := [some (.ref e), some (.int (zI l9)), none, none, none]) hK (by decide +kernel) rfl (nle rfl) (fun X C F => ?_)
  have C : OKc G X l RX7 "bestBorrower" cX7_bestBorrower 5 (some .int) 10 0 0 := C
  have hH := hN.1
  unfold HeadOk at hH
  have loop : ∀ (f k : Nat) (s9 : Int), (k : Int) ≤ n (-1) 0 → n (-1) 0 < k + f → (s9 = -1 ∧ (aBest n l9 k).2 = -1 ∨ 0 ≤ s9 ∧ s9 ≤ 950000000 ∧ (aBest n l9 k).2 + n (-1) 4 = s9) → WX G X 0 0 [ob e 9 (ecS ip op t tr ps pa sl) J, ob t 8 (tkS al lg) (tkI (n)), arR G 5 al 6 (fun j => some (L (j : Int))), LF G M L (n), LOG G lg (n), TG G tr L2] 12 [some (.ref e), some (.int (zI l9)), some (.int (zI (aBest n l9 k).1)), some (.int (zI s9)), some (.int (zI (k : Int)))] [] := by
    intro f
    induction f with
    | zero => intro k s9 h0 h1; exfalso; omega
    | succ f ih =>
      intro k s9 h0 h1 h2
      have hm := aBest_m (n := n) (l := l9) k
      have ea : aLent n (-1) l9 k = nTicks 100 (un n l9 (bLend (n l9) (k : Int) 99)) (-1) 4 - n (-1) 4 := if_pos rfl
      refine x_iload C eX7_bestBorrower_12 rfl ?_
      refine x_aload_n C eX7_bestBorrower_14 rfl ?_
      refine x_getR 0 C f_RX7_22 eX7_bestBorrower_15 rfl rfl ?_
      refine x_getI 1 C f_RX7_91 eX7_bestBorrower_18 rfl rfl ?_
      try simp (disch := decide) only [up_s, up_n, tkI_2, tkI_3, tkI_4, tkI_5, tkI_6, tkI_7, tkI_8, lnI_1, lnI_2, lnI_3, lnI_4, lnI_5, lnI_10, lnI_11, lnI_12, lnI_13, lnI_14, lnI_15]
      refine x_icmp_ge 65 C eX7_bestBorrower_21 rfl (by omega) (by omega) (fun h21 => ?_) (fun h21 => ?_)
      · refine x_iload_n C eX7_bestBorrower_65 rfl ?_
        refine x_iret (by first | rfl | exact (narZ (by omega)).1) C F eX7_bestBorrower_66 () ?_ trivial (fun cf c h => ?_) (nle rfl) (nle rfl)
        · rw [show (n (-1) 0).toNat = k by omega]
        · exact WF_pick [0, 1, 2, 3, 4, 5] rfl rfl h
      · refine x_iload C eX7_bestBorrower_24 rfl ?_
        refine x_iload_n C eX7_bestBorrower_26 rfl ?_
        refine x_icmp_eq 59 C eX7_bestBorrower_27 rfl (by omega) (by omega) (fun h27 => ?_) (fun h27 => ?_)
        · refine x_iinc [_, _, _, _, _] C eX7_bestBorrower_59 rfl rfl rfl ?_
          refine x_goto (pc' := 12) C eX7_bestBorrower_62 rfl ?_
          refine x_pick [_, _, _, _, _, _] [0, 1, 2, 3, 4, 5] rfl rfl ?_
          have h3 := ih (k + 1) s9 (by omega) (by omega)
          rw [aBest_s1 (by omega)] at h3
          exact h3 h2
        · refine x_aload_n C eX7_bestBorrower_30 rfl ?_
          refine x_iload_n C eX7_bestBorrower_31 rfl ?_
          refine x_iload C eX7_bestBorrower_32 rfl ?_
          refine yV2v [] [_, _, _, _, _, _] C (s_X7_tryLending hK hN (by omega) hl ⟨by omega, by omega⟩ (by omega)) v_X7_tryLending vv_X7_tryLending s_RX7_238 eX7_bestBorrower_34 (fun _ _ h => WF_pick [0, 1, 2, 3, 4, 5] rfl rfl h) (rcv 0 rfl) rfl (nle rfl) (nle rfl) (nle rfl) (nle rfl) rfl ?_
          have hT := (nTicks_lent (o := (k : Int)) hN hl ⟨by omega, by omega⟩ (by omega)).1.1
          unfold HeadOk at hT
          have h49 := nTicks_4 (NetOk_lend (t := 99) (o := (k : Int)) hN hl ⟨by omega, by omega⟩ (by omega) (by decide)) 100
          rw [un_n (by omega)] at h49
          refine x_oTO (t := tr) (M := M) (L := L2) (m := nTicks 100 (un n l9 (bLend (n l9) (k : Int) 99))) (R := [_, _, _, _, _]) (fun _ _ hw => WF_pick [5, 0, 1, 2, 3, 4] rfl rfl hw) (fun al2 lg2 => ?_)
          refine x_aload_n C eX7_bestBorrower_37 rfl ?_
          refine x_getR 4 C f_RX7_26 eX7_bestBorrower_38 rfl rfl ?_
          refine x_getI 0 C f_RX7_112 eX7_bestBorrower_41 rfl rfl ?_
          try simp (disch := decide) only [up_s, up_n, tkI_2, tkI_3, tkI_4, tkI_5, tkI_6, tkI_7, tkI_8, lnI_1, lnI_2, lnI_3, lnI_4, lnI_5, lnI_10, lnI_11, lnI_12, lnI_13, lnI_14, lnI_15]
          refine x_iload_n C eX7_bestBorrower_44 rfl ?_
          refine x_icmp_le 59 C eX7_bestBorrower_45 rfl (by omega) (by omega) (fun h45 => ?_) (fun h45 => ?_)
          · refine x_iinc [_, _, _, _, _] C eX7_bestBorrower_59 rfl rfl rfl ?_
            refine x_goto (pc' := 12) C eX7_bestBorrower_62 rfl ?_
            refine x_ws (TG G tr L2 :: [_, _, _, _, _]) (fun cf0 c hw => WF_cTG (t := tr) (L := L2) (R := [_, _, _, _, _]) (WF_pick [0, 1, 2, 3, 4, 5, 6, 7, 8] rfl rfl hw)) ?_
            refine x_pick [_, _, _, _, _, _] [1, 2, 3, 4, 5, 0] rfl rfl ?_
            have h3 := ih (k + 1) s9 (by omega) (by omega)
            have hc : ¬ (aBest n l9 k).2 < aLent n (-1) l9 k := by omega
            rw [aBest_s3 (by omega) hc] at h3
            exact h3 h2
          · skip
            refine x_aload_n C eX7_bestBorrower_48 rfl ?_
            refine x_getR 4 C f_RX7_26 eX7_bestBorrower_49 rfl rfl ?_
            refine x_getI 0 C f_RX7_112 eX7_bestBorrower_52 rfl rfl ?_
            try simp (disch := decide) only [up_s, up_n, tkI_2, tkI_3, tkI_4, tkI_5, tkI_6, tkI_7, tkI_8, lnI_1, lnI_2, lnI_3, lnI_4, lnI_5, lnI_10, lnI_11, lnI_12, lnI_13, lnI_14, lnI_15]
            refine x_istore_n [_, _, _, _, _] C eX7_bestBorrower_55 rfl rfl (nlt rfl) ?_
            refine x_iload C eX7_bestBorrower_56 rfl ?_
            refine x_istore_n [_, _, _, _, _] C eX7_bestBorrower_58 rfl rfl (nlt rfl) ?_
            refine x_iinc [_, _, _, _, _] C eX7_bestBorrower_59 rfl rfl rfl ?_
            refine x_goto (pc' := 12) C eX7_bestBorrower_62 rfl ?_
            refine x_ws (TG G tr L2 :: [_, _, _, _, _]) (fun cf0 c hw => WF_cTG (t := tr) (L := L2) (R := [_, _, _, _, _]) (WF_pick [0, 1, 2, 3, 4, 5, 6, 7, 8] rfl rfl hw)) ?_
            refine x_pick [_, _, _, _, _, _] [1, 2, 3, 4, 5, 0] rfl rfl ?_
            have h3 := fun s => ih (k + 1) s (by omega) (by omega)
            have hc : (aBest n l9 k).2 < aLent n (-1) l9 k := by omega
            rw [aBest_s2 (by omega) hc] at h3
            dsimp only at h3
            exact h3 _ (Or.inr (by omega))
  refine x_aload_n C eX7_bestBorrower_0 rfl ?_
  refine x_iload_n C eX7_bestBorrower_1 rfl ?_
  refine yV1v [_, _, _, _] [_, _, _, _, _, _] C (s_X7_testLine hK (by omega)) v_X7_testLine vv_X7_testLine s_RX7_145 eX7_bestBorrower_2 (fun _ _ h => WF_pick [0, 1, 2, 3, 4, 5] rfl rfl h) (rcv 0 rfl) rfl (nle rfl) (nle rfl) (nle rfl) (nle rfl) rfl ?_
  refine x_iconst C eX7_bestBorrower_5 ?_
  refine x_istore_n [_, _, _, _, _] C eX7_bestBorrower_6 rfl rfl (nlt rfl) ?_
  refine x_iconst C eX7_bestBorrower_7 ?_
  refine x_istore_n [_, _, _, _, _] C eX7_bestBorrower_8 rfl rfl (nlt rfl) ?_
  refine x_iconst C eX7_bestBorrower_9 ?_
  refine x_istore [_, _, _, _, _] C eX7_bestBorrower_10 rfl rfl (nlt rfl) ?_
  refine x_pick [_, _, _, _, _, _] [0, 1, 2, 3, 4, 5] rfl rfl ?_
  exact loop 20 0 (-1) (by omega) (by omega) (Or.inl ⟨rfl, rfl⟩)
