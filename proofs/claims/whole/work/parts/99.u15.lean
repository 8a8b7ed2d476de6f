/-! Texts written of counts, log and names. -/
theorem SK.rcv {G : Gm} {P R ws : List SA} {q b : Nat} {w : List Int} (h : SK G P q b w) (hp : ∀ cf c, WF ws cf c → WF (P ++ R) cf c) : ∀ s : State, G.1.WarmedH s.vm → ∀ cf c H, WF ws cf c → HH G c H → va_O "java/lang/String" q nF s H := fun s hs cf c H hw hH => by
  obtain ⟨cf', h1, -⟩ := WF_frame (hp cf c hw)
  exact (h.2 s hs cf' c H h1 hH).1
theorem take_g {u : List Int} {k : Nat} (h : k < u.length) : u.take (k + 1) = u.take k ++ [u.getD k 0] := by
  rw [List.take_succ, List.getD_eq_getElem?_getD, List.getElem?_eq_getElem h]
  rfl
theorem logE_len {b : Int} {n : Net} {k : Int} (hN : NetOk b n) (hk : 0 ≤ k ∧ k < n (-1) 7) : (logE n k).length ≤ 3 := by
  have hG := hN.2.1 k hk.1 hk.2
  have hH := hN.1
  unfold HeadOk at hH
  have h1 := dec_len1 (v := n (-2) (5 * k + 1)) (by omega)
  have h2 := dec_len1 (v := n (-2) (5 * k + 2)) (by omega)
  unfold logE
  split
  · omega
  · rw [List.length_append, List.length_append]
    show _ + 1 + _ ≤ _
    omega
theorem logS_len3 {b : Int} {n : Net} (hN : NetOk b n) : ∀ m : Nat, (m : Int) ≤ n (-1) 7 → (logS n m).length ≤ 3 * m := by
  intro m
  induction m with
  | zero => intro _; exact Nat.zero_le _
  | succ m ih =>
    intro h
    have h1 := ih (by omega)
    have h2 := logE_len hN (k := m) ⟨by omega, by omega⟩
    unfold logS
    rw [List.length_append]
    omega

set_option maxHeartbeats 4000000 in
set_option maxRecDepth 100000 in
theorem s_X7_writeCounts {G : Gm} {l : Launch} (hK : KG G) {e ip op t tr ps pa sl al lg ob9 : Nat} {J : Nat → Int} {M : Pool} {L : Int → Nat} {n : Net} {b : Int} {w : List Int} {l9 : Int} (hN : NetOk b n) (hb : b ≤ 900000000) (hl : 0 ≤ l9 ∧ l9 < n (-1) 0) : MD G l yX7_writeCounts cX7_writeCounts 3 (some .int) 4 0 0 [.ref e, .int (zI l9)] [ob e 9 (ecS ip op t tr ps pa sl) J, ob t 8 (tkS al lg) (tkI (n)), arR G 5 al 6 (fun j => some (L (j : Int))), LF G M L (n), LOG G lg (n), ob op 6 [some (.ref ob9), none] (fun _ => ((w).length : Int)), ar G 1 ob9 400 (w).length (oF (w))] (some (.int (zI (((cntS n l9 8).length : Nat) : Int)))) [ob e 9 (ecS ip op t tr ps pa sl) J, ob t 8 (tkS al lg) (tkI (n)), arR G 5 al 6 (fun j => some (L (j : Int))), LF G M L (n), LOG G lg (n), ob op 6 [some (.ref ob9), none] (fun _ => ((cntS n l9 8).length : Int)), ar G 1 ob9 400 (cntS n l9 8).length (oF (cntS n l9 8))] := by
  refine MX_of (lv := [some (.ref e), some (.int (zI l9)), none]) hK (by decide +kernel) rfl (nle rfl) (fun X C F => ?_)
  have C : OKc G X l RX7 "writeCounts" cX7_writeCounts 3 (some .int) 4 0 0 := C
  have hH := hN.1
  unfold HeadOk at hH
  have hc9 := fun k h0 h1 => LineOk_c (hN.2.2 l9 hl.1 hl.2) (k := k) h0 h1
  have loop : ∀ (f k : Nat), k ≤ 8 → 8 < k + f → WX G X 0 0 [ob e 9 (ecS ip op t tr ps pa sl) J, ob t 8 (tkS al lg) (tkI (n)), arR G 5 al 6 (fun j => some (L (j : Int))), LF G M L (n), LOG G lg (n), ob op 6 [some (.ref ob9), none] (fun _ => ((cntS n l9 k).length : Int)), ar G 1 ob9 400 (cntS n l9 k).length (oF (cntS n l9 k))] 15 [some (.ref e), some (.int (zI l9)), some (.int (zI (k : Int)))] [] := by
    intro f
    induction f with
    | zero => intro k h0 h1; exfalso; omega
    | succ f ih =>
      intro k h0 h1
      refine x_iload_n C eX7_writeCounts_15 rfl ?_
      refine x_bipush C eX7_writeCounts_16 rfl ?_
      refine x_icmp_gt 59 C eX7_writeCounts_18 rfl (by omega) (by omega) (fun h18 => ?_) (fun h18 => ?_)
      · refine x_aload_n C eX7_writeCounts_59 rfl ?_
        refine x_getR 0 C f_RX7_16 eX7_writeCounts_60 rfl rfl ?_
        refine x_getI 5 C f_RX7_49 eX7_writeCounts_63 rfl rfl ?_
        try simp (disch := decide) only [up_s, up_n, tkI_2, tkI_3, tkI_4, tkI_5, tkI_6, tkI_7, tkI_8, lnI_1, lnI_2, lnI_3, lnI_4, lnI_5, lnI_10, lnI_11, lnI_12, lnI_13, lnI_14, lnI_15]
        refine x_iret (by first | rfl | exact (narZ (by omega)).1) C F eX7_writeCounts_66 () ?_ trivial (fun cf c h => ?_) (nle rfl) (nle rfl)
        · obtain rfl : k = 8 := by omega
          rfl
        · obtain rfl : k = 8 := by omega
          exact WF_pick [0, 1, 2, 3, 4, 5, 6] rfl rfl h
      · have hk9 := cntS_len hc9 hb k (by omega)
        have hk1 := cntS_len hc9 hb (k + 1) (by omega)
        have e9 : cntS n l9 (k + 1) = (if 0 < (k : Int) then cntS n l9 k ++ [44] else cntS n l9 k) ++ dec (n l9 (16 + k)) := rfl
        have hcc := hc9 (16 + k) (by omega) (by omega)
        refine x_iload_n C eX7_writeCounts_21 rfl ?_
        refine x_if_le 34 C eX7_writeCounts_22 rfl (by omega) (fun h22 => ?_) (fun h22 => ?_)
        · rw [if_neg (by omega)] at e9
          rw [e9] at hk1
          refine x_aload_n C eX7_writeCounts_34 rfl ?_
          refine x_getR 0 C f_RX7_16 eX7_writeCounts_35 rfl rfl ?_
          refine x_aload_n C eX7_writeCounts_38 rfl ?_
          refine x_getR 0 C f_RX7_22 eX7_writeCounts_39 rfl rfl ?_
          refine x_iload_n C eX7_writeCounts_42 rfl ?_
          refine yV1r [_, _, _, _, _] [_, _, _, _, _, _, _] C (s_X6_lineAt hK (by omega)) v_X6_lineAt vv_X6_lineAt s_RX7_122 eX7_writeCounts_43 (fun _ _ h => WF_pick [1, 2, 0, 3, 4, 5, 6] rfl rfl h) (rcv 1 rfl) rfl (nle rfl) (nle rfl) (nle rfl) (nle rfl) rfl ?_
          refine x_iload_n C eX7_writeCounts_46 rfl ?_
          refine yV1r [_, _, _, _, _, _] [_, _, _, _, _, _, _] C (s_FL_counted hK (by omega) (by omega)) v_X0_counted vv_X0_counted s_RX7_184 eX7_writeCounts_47 (fun _ _ h => WF_pick [3, 0, 1, 2, 4, 5, 6] rfl rfl h) (rcvP 3 rfl (LF_rcv (by omega))) rfl (nle rfl) (nle rfl) (nle rfl) (nle rfl) rfl ?_
          refine yV1v [_, _, _, _, _] [_, _, _, _, _, _, _] C (s_X4_addNumber hK (by omega) (by omega)) v_X4_addNumber vv_X4_addNumber s_RX7_299 eX7_writeCounts_50 (fun _ _ h => WF_pick [5, 6, 0, 1, 2, 3, 4] rfl rfl h) (rcv 5 rfl) rfl (nle rfl) (nle rfl) (nle rfl) (nle rfl) rfl ?_
          refine x_iinc [_, _, _] C eX7_writeCounts_53 rfl rfl rfl ?_
          refine x_goto (pc' := 15) C eX7_writeCounts_56 rfl ?_
          refine x_pick [_, _, _, _, _, _, _] [5, 3, 4, 2, 6, 0, 1] rfl rfl ?_
          have h3 := ih (k + 1) (by omega) (by omega)
          rw [e9] at h3
          exact h3
        · rw [if_pos (by omega)] at e9
          rw [e9] at hk1
          refine x_aload_n C eX7_writeCounts_25 rfl ?_
          refine x_getR 0 C f_RX7_16 eX7_writeCounts_26 rfl rfl ?_
          refine x_bipush C eX7_writeCounts_29 rfl ?_
          refine yV1v [_, _, _, _, _] [_, _, _, _, _, _, _] C (s_X4_addByte hK (by omega) (by decide)) v_X4_addByte vv_X4_addByte s_RX7_63 eX7_writeCounts_31 (fun _ _ h => WF_pick [5, 6, 0, 1, 2, 3, 4] rfl rfl h) (rcv 5 rfl) rfl (nle rfl) (nle rfl) (nle rfl) (nle rfl) rfl ?_
          refine x_aload_n C eX7_writeCounts_34 rfl ?_
          refine x_getR 2 C f_RX7_16 eX7_writeCounts_35 rfl rfl ?_
          refine x_aload_n C eX7_writeCounts_38 rfl ?_
          refine x_getR 2 C f_RX7_22 eX7_writeCounts_39 rfl rfl ?_
          refine x_iload_n C eX7_writeCounts_42 rfl ?_
          refine yV1r [_, _, _, _, _] [_, _, _, _, _, _, _] C (s_X6_lineAt hK (by omega)) v_X6_lineAt vv_X6_lineAt s_RX7_122 eX7_writeCounts_43 (fun _ _ h => WF_pick [3, 4, 0, 1, 2, 5, 6] rfl rfl h) (rcv 3 rfl) rfl (nle rfl) (nle rfl) (nle rfl) (nle rfl) rfl ?_
          refine x_iload_n C eX7_writeCounts_46 rfl ?_
          refine yV1r [_, _, _, _, _, _] [_, _, _, _, _, _, _] C (s_FL_counted hK (by omega) (by omega)) v_X0_counted vv_X0_counted s_RX7_184 eX7_writeCounts_47 (fun _ _ h => WF_pick [5, 0, 1, 2, 3, 4, 6] rfl rfl h) (rcvP 5 rfl (LF_rcv (by omega))) rfl (nle rfl) (nle rfl) (nle rfl) (nle rfl) rfl ?_
          refine yV1v [_, _, _, _, _] [_, _, _, _, _, _, _] C (s_X4_addNumber hK (by omega) (by omega)) v_X4_addNumber vv_X4_addNumber s_RX7_299 eX7_writeCounts_50 (fun _ _ h => WF_pick [3, 4, 0, 1, 2, 5, 6] rfl rfl h) (rcv 3 rfl) rfl (nle rfl) (nle rfl) (nle rfl) (nle rfl) rfl ?_
          refine x_iinc [_, _, _] C eX7_writeCounts_53 rfl rfl rfl ?_
          refine x_goto (pc' := 15) C eX7_writeCounts_56 rfl ?_
          refine x_pick [_, _, _, _, _, _, _] [5, 3, 4, 2, 6, 0, 1] rfl rfl ?_
          have h3 := ih (k + 1) (by omega) (by omega)
          rw [e9] at h3
          exact h3
  refine x_aload_n C eX7_writeCounts_0 rfl ?_
  refine x_iload_n C eX7_writeCounts_1 rfl ?_
  refine yV1v [_, _, _, _, _] [_, _, _, _, _, _, _] C (s_X7_testLine hK (by omega)) v_X7_testLine vv_X7_testLine s_RX7_145 eX7_writeCounts_2 (fun _ _ h => WF_pick [0, 1, 2, 3, 4, 5, 6] rfl rfl h) (rcv 0 rfl) rfl (nle rfl) (nle rfl) (nle rfl) (nle rfl) rfl ?_
  refine x_aload_n C eX7_writeCounts_5 rfl ?_
  refine x_getR 0 C f_RX7_16 eX7_writeCounts_6 rfl rfl ?_
  refine x_iconst C eX7_writeCounts_9 ?_
  refine x_putI [_, _, _, _, _, _, _] 5 C f_RX7_49 eX7_writeCounts_10 rfl rfl rfl ?_
  refine x_ws (ob op 6 [some (.ref ob9), none] (fun _ => ((([] : List Int)).length : Int)) :: ar G 1 ob9 400 (([] : List Int)).length (oF (([] : List Int))) :: [_, _, _, _, _]) (fun cf0 c hw => PW.wf (PW_cons (fun _ h => ob_congr (fun i hi9 => ?_) h) (PW_cons (fun _ h => ar_congr (Nat.zero_le _) (fun j hj => absurd hj (Nat.not_lt_zero j)) h) PW_rf)) (WF_pick [5, 6, 0, 1, 2, 3, 4] rfl rfl hw)) ?_
  · match i with
    | 0 => exact absurd hi9 (by simp)
    | 1 => exact up_s _ _ _
    | (k + 2) => exact absurd hi9 (by simp)
  refine x_iconst C eX7_writeCounts_13 ?_
  refine x_istore_n [_, _, _] C eX7_writeCounts_14 rfl rfl (nlt rfl) ?_
  refine x_pick [_, _, _, _, _, _, _] [2, 3, 4, 5, 6, 0, 1] rfl rfl ?_
  exact loop 10 0 (by decide) (by decide)

set_option maxHeartbeats 4000000 in
set_option maxRecDepth 100000 in
theorem s_X7_writeLog {G : Gm} {l : Launch} (hK : KG G) {e ip op t tr ps pa sl al lg ob9 : Nat} {J : Nat → Int} {M : Pool} {L : Int → Nat} {n : Net} {b : Int} {w : List Int} (hN : NetOk b n) (hb : b ≤ 900000000) : MD G l yX7_writeLog cX7_writeLog 4 (some .int) 3 0 0 [.ref e] [ob e 9 (ecS ip op t tr ps pa sl) J, ob t 8 (tkS al lg) (tkI (n)), arR G 5 al 6 (fun j => some (L (j : Int))), LF G M L (n), LOG G lg (n), ob op 6 [some (.ref ob9), none] (fun _ => ((w).length : Int)), ar G 1 ob9 400 (w).length (oF (w))] (some (.int (zI (((logS n (min 20 (n (-1) 7)).toNat).length : Nat) : Int)))) [ob e 9 (ecS ip op t tr ps pa sl) J, ob t 8 (tkS al lg) (tkI (n)), arR G 5 al 6 (fun j => some (L (j : Int))), LF G M L (n), LOG G lg (n), ob op 6 [some (.ref ob9), none] (fun _ => ((logS n (min 20 (n (-1) 7)).toNat).length : Int)), ar G 1 ob9 400 (logS n (min 20 (n (-1) 7)).toNat).length (oF (logS n (min 20 (n (-1) 7)).toNat))] := by
  refine MX_of (lv := [some (.ref e), none, none, none]) hK (by decide +kernel) rfl (nle rfl) (fun X C F => ?_)
  have C : OKc G X l RX7 "writeLog" cX7_writeLog 4 (some .int) 3 0 0 := C
  have hH := hN.1
  unfold HeadOk at hH
  have hM9 := logS_len3 hN (min 20 (n (-1) 7)).toNat (by omega)
  have loop : ∀ (la : Nat) (x : Int) (f : Nat → Int), 0 ≤ x ∧ x < 40 → LogR f x n → ∀ (f9 m : Nat) (w1 : List Int), (m : Int) ≤ min 20 (n (-1) 7) → m < f9 → w1 ++ logS n m = logS n (min 20 (n (-1) 7)).toNat → WX G X 0 0 [ob e 9 (ecS ip op t tr ps pa sl) J, ob t 8 (tkS al lg) (tkI (n)), arR G 5 al 6 (fun j => some (L (j : Int))), LF G M L (n), ob lg 3 [some (.ref la), none, none] (lgI (n (-1) 7) x), ar G 0 la 200 200 f, ob op 6 [some (.ref ob9), none] (fun _ => ((w1).length : Int)), ar G 1 ob9 400 (w1).length (oF (w1))] 26 [some (.ref e), some (.int (zI ((m : Int) - 1))), none, none] [] := by
    intro la x f hx hf f9
    induction f9 with
    | zero => intro m w1 h0 h1; exfalso; omega
    | succ f9 ih =>
      intro m w1 h0 h1 g2
      refine x_iload_n C eX7_writeLog_26 rfl ?_
      refine x_if_lt 92 C eX7_writeLog_27 rfl (by omega) (fun h27 => ?_) (fun h27 => ?_)
      · obtain rfl : m = 0 := by omega
        obtain rfl : w1 = logS n (min 20 (n (-1) 7)).toNat := by rw [← g2]; exact (List.append_nil _).symm
        refine x_aload_n C eX7_writeLog_92 rfl ?_
        refine x_getR 0 C f_RX7_16 eX7_writeLog_93 rfl rfl ?_
        refine x_getI 6 C f_RX7_49 eX7_writeLog_96 rfl rfl ?_
        try simp (disch := decide) only [up_s, up_n, tkI_2, tkI_3, tkI_4, tkI_5, tkI_6, tkI_7, tkI_8, lnI_1, lnI_2, lnI_3, lnI_4, lnI_5, lnI_10, lnI_11, lnI_12, lnI_13, lnI_14, lnI_15, lgI_1, lgI_2]
        refine x_pick [_, _, _, _, _, _, _, _] [4, 5, 0, 1, 2, 3, 6, 7] rfl rfl ?_
        refine x_cG (m := n) hx rfl hf ?_
        refine x_iret (by first | rfl | exact (narZ (by omega)).1) C F eX7_writeLog_99 () ?_ trivial (fun cf c h => ?_) (nle rfl) (nle rfl)
        · rfl
        · exact WF_pick [1, 2, 3, 4, 0, 5, 6] rfl rfl h
      · obtain ⟨m', rfl⟩ : ∃ m', m = m' + 1 := ⟨m - 1, by omega⟩
        have hGk := hN.2.1 m' (by omega) (by omega)
        rw [show ((m' + 1 : Nat) : Int) - 1 = (m' : Int) by omega]
        have g3 : w1 ++ logE n m' ++ logS n m' = logS n (min 20 (n (-1) 7)).toNat := by rw [← g2, List.append_assoc]; rfl
        have hlen := congrArg List.length g3
        rw [List.length_append, List.length_append] at hlen
        have hd9 := dec_pos (n (-2) (5 * (m' : Int) + 1))
        refine x_aload_n C eX7_writeLog_30 rfl ?_
        refine x_getR 0 C f_RX7_22 eX7_writeLog_31 rfl rfl ?_
        refine x_getR 1 C f_RX7_198 eX7_writeLog_34 rfl rfl ?_
        refine x_iload_n C eX7_writeLog_37 rfl ?_
        refine x_iconst C eX7_writeLog_38 ?_
        refine yV2r [_, _, _, _, _, _] [_, _, _, _, _, _, _, _] C (s_X1_at hK hx (by omega)) v_X1_at vv_X1_at s_RX7_209 eX7_writeLog_39 (fun _ _ h => WF_pick [4, 5, 0, 1, 2, 3, 6, 7] rfl rfl h) (rcv 4 rfl) rfl (nle rfl) (nle rfl) (nle rfl) (nle rfl) rfl ?_
        rw [hf m' 1 (by omega) (by omega) (by omega) (by omega)]
        refine x_istore_n [_, _, _, _] C eX7_writeLog_42 rfl rfl (nlt rfl) ?_
        refine x_aload_n C eX7_writeLog_43 rfl ?_
        refine x_getR 2 C f_RX7_22 eX7_writeLog_44 rfl rfl ?_
        refine x_getR 3 C f_RX7_198 eX7_writeLog_47 rfl rfl ?_
        refine x_iload_n C eX7_writeLog_50 rfl ?_
        refine x_iconst C eX7_writeLog_51 ?_
        refine yV2r [_, _, _, _, _, _] [_, _, _, _, _, _, _, _] C (s_X1_at hK hx (by omega)) v_X1_at vv_X1_at s_RX7_209 eX7_writeLog_52 (fun _ _ h => WF_pick [0, 1, 2, 3, 4, 5, 6, 7] rfl rfl h) (rcv 0 rfl) rfl (nle rfl) (nle rfl) (nle rfl) (nle rfl) rfl ?_
        rw [hf m' 2 (by omega) (by omega) (by omega) (by omega)]
        refine x_istore_n [_, _, _, _] C eX7_writeLog_55 rfl rfl (nlt rfl) ?_
        refine x_aload_n C eX7_writeLog_56 rfl ?_
        refine x_getR 2 C f_RX7_16 eX7_writeLog_57 rfl rfl ?_
        refine x_iload_n C eX7_writeLog_60 rfl ?_
        refine yV1v [_, _, _, _, _, _] [_, _, _, _, _, _, _, _] C (s_X4_addNumber hK (by omega) (by rw [List.length_append]; have h5 := logE_len hN (k := (m' : Int)) ⟨by omega, by omega⟩; have h6 := dec_len1 (v := n (-2) (5 * (m' : Int) + 1)) (by omega); omega)) v_X4_addNumber vv_X4_addNumber s_RX7_299 eX7_writeLog_61 (fun _ _ h => WF_pick [6, 7, 0, 1, 2, 3, 4, 5] rfl rfl h) (rcv 6 rfl) rfl (nle rfl) (nle rfl) (nle rfl) (nle rfl) rfl ?_
        refine x_iload_n C eX7_writeLog_64 rfl ?_
        refine x_iload_n C eX7_writeLog_65 rfl ?_
        refine x_icmp_eq 86 C eX7_writeLog_66 rfl (by omega) (by omega) (fun h66 => ?_) (fun h66 => ?_)
        · have eE : logE n m' = dec (n (-2) (5 * (m' : Int) + 1)) := if_pos (by omega)
          rw [eE] at g3
          refine x_iinc [_, _, _, _] C eX7_writeLog_86 rfl rfl rfl ?_
          refine x_goto (pc' := 26) C eX7_writeLog_89 rfl ?_
          refine x_pick [_, _, _, _, _, _, _, _] [4, 5, 6, 7, 2, 3, 0, 1] rfl rfl ?_
          refine x_lv [_, _, none, none] rfl (lx_drop _ [2, 3] rfl) ?_
          rw [show (m' : Int) + -1 = (m' : Int) - 1 from rfl]
          exact ih m' _ (by omega) (by omega) g3
        · have eE : logE n m' = dec (n (-2) (5 * (m' : Int) + 1)) ++ [94] ++ dec (n (-2) (5 * (m' : Int) + 2)) := if_neg (by omega)
          have hE := congrArg List.length eE
          rw [List.length_append, List.length_append] at hE
          have h94 : ([94] : List Int).length = 1 := rfl
          rw [eE, ← List.append_assoc, ← List.append_assoc] at g3
          refine x_aload_n C eX7_writeLog_69 rfl ?_
          refine x_getR 4 C f_RX7_16 eX7_writeLog_70 rfl rfl ?_
          refine x_bipush C eX7_writeLog_73 rfl ?_
          refine yV1v [_, _, _, _, _, _] [_, _, _, _, _, _, _, _] C (s_X4_addByte hK (by rw [List.length_append]; omega) (by decide)) v_X4_addByte vv_X4_addByte s_RX7_63 eX7_writeLog_75 (fun _ _ h => WF_pick [0, 1, 2, 3, 4, 5, 6, 7] rfl rfl h) (rcv 0 rfl) rfl (nle rfl) (nle rfl) (nle rfl) (nle rfl) rfl ?_
          refine x_aload_n C eX7_writeLog_78 rfl ?_
          refine x_getR 4 C f_RX7_16 eX7_writeLog_79 rfl rfl ?_
          refine x_iload_n C eX7_writeLog_82 rfl ?_
          refine yV1v [_, _, _, _, _, _] [_, _, _, _, _, _, _, _] C (s_X4_addNumber hK (by omega) (by rw [List.length_append, List.length_append, List.length_append]; omega)) v_X4_addNumber vv_X4_addNumber s_RX7_299 eX7_writeLog_83 (fun _ _ h => WF_pick [0, 1, 2, 3, 4, 5, 6, 7] rfl rfl h) (rcv 0 rfl) rfl (nle rfl) (nle rfl) (nle rfl) (nle rfl) rfl ?_
          refine x_iinc [_, _, _, _] C eX7_writeLog_86 rfl rfl rfl ?_
          refine x_goto (pc' := 26) C eX7_writeLog_89 rfl ?_
          refine x_pick [_, _, _, _, _, _, _, _] [4, 5, 6, 7, 2, 3, 0, 1] rfl rfl ?_
          refine x_lv [_, _, none, none] rfl (lx_drop _ [2, 3] rfl) ?_
          rw [show (m' : Int) + -1 = (m' : Int) - 1 from rfl]
          exact ih m' _ (by omega) (by omega) g3
  refine x_aload_n C eX7_writeLog_0 rfl ?_
  refine x_getR 0 C f_RX7_16 eX7_writeLog_1 rfl rfl ?_
  refine x_iconst C eX7_writeLog_4 ?_
  refine x_putI [_, _, _, _, _, _, _] 5 C f_RX7_49 eX7_writeLog_5 rfl rfl rfl ?_
  refine x_ws (ob op 6 [some (.ref ob9), none] (fun _ => ((([] : List Int)).length : Int)) :: ar G 1 ob9 400 (([] : List Int)).length (oF (([] : List Int))) :: [_, _, _, _, _]) (fun cf0 c hw => PW.wf (PW_cons (fun _ h => ob_congr (fun i hi9 => ?_) h) (PW_cons (fun _ h => ar_congr (Nat.zero_le _) (fun j hj => absurd hj (Nat.not_lt_zero j)) h) PW_rf)) (WF_pick [5, 6, 0, 1, 2, 3, 4] rfl rfl hw)) ?_
  · match i with
    | 0 => exact absurd hi9 (by simp)
    | 1 => exact up_s _ _ _
    | (k + 2) => exact absurd hi9 (by simp)
  refine x_oG (m := n) (R := [_, _, _, _, _, _]) (fun _ _ hw => WF_pick [6, 0, 1, 2, 3, 4, 5] rfl rfl hw) (fun la x f hx hf => ?_)
  refine x_aload_n C eX7_writeLog_8 rfl ?_
  refine x_getR 4 C f_RX7_22 eX7_writeLog_9 rfl rfl ?_
  refine x_getR 5 C f_RX7_198 eX7_writeLog_12 rfl rfl ?_
  refine x_getI 0 C f_RX7_202 eX7_writeLog_15 rfl rfl ?_
  try simp (disch := decide) only [up_s, up_n, tkI_2, tkI_3, tkI_4, tkI_5, tkI_6, tkI_7, tkI_8, lnI_1, lnI_2, lnI_3, lnI_4, lnI_5, lnI_10, lnI_11, lnI_12, lnI_13, lnI_14, lnI_15, lgI_1, lgI_2]
  refine x_bipush C eX7_writeLog_18 rfl ?_
  refine x_min C s_RX7_302 s2_min eX7_writeLog_20 rfl (nle rfl) (nle rfl) (nle rfl) (nle rfl) (by omega) (by omega) ?_
  refine x_iconst C eX7_writeLog_23 ?_
  refine x_isub C eX7_writeLog_24 ?_
  refine x_istore_n [_, _, _, _] C eX7_writeLog_25 rfl rfl (nlt rfl) ?_
  refine x_pick [_, _, _, _, _, _, _, _] [4, 5, 6, 7, 0, 1, 2, 3] rfl rfl ?_
  have h3 := loop la x f hx hf 22 (min 20 (n (-1) 7)).toNat [] (by omega) (by omega) rfl
  rw [show (((min 20 (n (-1) 7)).toNat : Nat) : Int) - 1 = min (n (-1) 7) 20 - 1 by omega] at h3
  exact h3
