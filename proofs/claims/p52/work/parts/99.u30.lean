/-! A token is taken: which one it is. -/

set_option maxHeartbeats 4000000 in
set_option maxRecDepth 100000 in
theorem s_X2_takeToken {G : Gm} {l : Launch} (hK : KG G) {pa tk tr qb ql q : Nat} {J P : Nat → Int} {b : Nat} {z : Int} {Fb : Nat → Int} {al lg : Nat} {M : Pool} {L : Int → Nat} {n : Net} {bb bl : Nat} {tz a9 : Int} {fB fL : Nat → Int} (hS : KS G) (hPM : PLw M) (hJb : 0 ≤ J 4 ∧ J 4 ≤ 1000) (hJk : 0 ≤ J 1 ∧ J 1 ≤ 17) (hP5 : -1 ≤ P 5 ∧ P 5 ≤ 5) (hg : -1 ≤ P 5 ∧ P 5 < n (-1) 0) (hP6 : -1 ≤ P 6 ∧ P 6 ≤ 5) (hz : 0 ≤ z ∧ z ≤ 400) (hF : ∀ j : Nat, -128 ≤ Fb j ∧ Fb j ≤ 127) (hn6 : 0 ≤ n (-1) 0 ∧ n (-1) 0 ≤ 6) (hl9 : a9 = 13 → ∀ i, 0 ≤ i → i < n (-1) 0 → -1 ≤ lnTo (n i) ∧ lnTo (n i) ≤ 100) (htz : 0 ≤ tz ∧ tz ≤ 60) (hwd : J 1 = 4 → (0 ≤ J 2 ∧ J 2 ≤ J 3 ∧ J 3 ≤ 400 ∧ J 3 - J 2 ≤ 6) ∧ ∀ j : Nat, J 2 ≤ (j : Int) → (j : Int) < J 3 → 97 ≤ byt Fb z (j : Int) ∧ byt Fb z (j : Int) ≤ 122) (h5 : a9 = 5 ∨ a9 = 7 ∨ a9 = 8 ∨ a9 = 10 ∨ a9 = 12 → 1 ≤ n (-1) 0) (h3 : a9 = 3 → n (-1) 0 < 6) (h17 : a9 = 17 → 0 ≤ P 6 ∧ P 6 < n (-1) 0) (hcap : a9 = 7 ∨ a9 = 8 → -1000 ≤ n (lst n) 1 ∧ n (lst n) 1 ≤ 1000) (hcap2 : a9 = 8 → -1000 ≤ n (lst n) 2 ∧ n (lst n) 2 ≤ 1000) (ha : P 4 = a9) (ha2 : 0 ≤ a9 ∧ a9 ≤ 20) : MX G l yX2_takeToken cX2_takeToken 1 (some .int) 11 4 30 [.ref pa] [ob pa 4 (paS tk tr qb ql) (P), ob tk 7 [some (.ref q), none, none, none, none] J, ob q 6 [some (.ref b), none] (fun _ => z), ar G 1 b 400 400 (Fb), PL G M, ob tr 8 (tkS al lg) (tkI n), arR G 5 al 6 (fun j => some (L (j : Int))), LFz G M L (n), LOG G lg n, ob qb 5 [some (.ref bb), none] (fun _ => tz), ar G 0 bb 60 (tz).toNat (fB), ob ql 5 [some (.ref bl), none] (fun _ => tz), ar G 0 bl 60 (tz).toNat (fL)] (fun _ : Pool => some (.int (zI (stC a9 J P n tz)))) (fun M2 => (∀ y ∈ M, y ∈ M2) ∧ PLw M2) (fun M2 => [ob pa 4 (paS tk tr qb ql) (stP a9 J P), ob tk 7 [some (.ref q), none, none, none, none] J, ob q 6 [some (.ref b), none] (fun _ => z), ar G 1 b 400 400 (Fb), PL G M2, TC G M2 tr L (stN a9 (wnum (tW Fb z (J 2) (J 3 - J 2).toNat)) J P n) (stC a9 J P n tz), ob qb 5 [some (.ref bb), none] (fun _ => adZ (stB a9 J tz) tz), ar G 0 bb 60 (adZ (stB a9 J tz) tz).toNat (adF (stB a9 J tz) tz fB (J 4)), ob ql 5 [some (.ref bl), none] (fun _ => adZ (stB a9 J tz) tz), ar G 0 bl 60 (adZ (stB a9 J tz) tz).toNat (adF (stB a9 J tz) tz fL (P 8))]) := by
  refine MX_of (lv := [some (.ref pa)]) hK (by decide +kernel) rfl (by first | exact nle rfl | omega) (fun X C F => ?_)
  have C : OKc G X l RX2 "takeToken" cX2_takeToken 1 (some .int) 11 4 30 := C
  refine x_aload_n C eX2_takeToken_0 rfl ?_
  refine x_getI 0 C f_RX2_42 eX2_takeToken_1 rfl rfl ?_
  try simp (disch := decide) only [up_s, up_n]
  rw [ha]
  have hsw : a9 = 0 ∨ a9 = 1 ∨ a9 = 2 ∨ a9 = 3 ∨ a9 = 4 ∨ a9 = 5 ∨ a9 = 6 ∨ a9 = 7 ∨ a9 = 8 ∨ a9 = 9 ∨ a9 = 10 ∨ a9 = 11 ∨ a9 = 12 ∨ a9 = 13 ∨ a9 = 14 ∨ a9 = 15 ∨ a9 = 16 ∨ a9 = 17 ∨ a9 = 18 ∨ a9 = 19 ∨ (a9 < 0 ∨ 19 < a9) := by omega
  rcases hsw with rfl | rfl | rfl | rfl | rfl | rfl | rfl | rfl | rfl | rfl | rfl | rfl | rfl | rfl | rfl | rfl | rfl | rfl | rfl | rfl | hsw
  · refine x_tabIn 100 C eX2_takeToken_4 (by decide) (by decide) (by decide) rfl rfl ?_
    refine x_aload_n C eX2_takeToken_100 rfl ?_
    refine x_bipush C eX2_takeToken_101 rfl ?_
    refine x_iconst C eX2_takeToken_103 ?_
    refine yV2r [_, _, _, _, _, _, _, _, _, _, _] [_, _, _, _, _, _, _, _, _, _, _, _, _] C (s_X2_takeKind hK hJk (by decide)) v_X2_takeKind vv_X2_takeKind s_RX2_97 eX2_takeToken_104 (fun _ _ h => WF_pick [0, 1, 2, 3, 4, 5, 6, 7, 8, 9, 10, 11, 12] rfl rfl h) (rcv 0 rfl) rfl (by first | exact nle rfl | omega) (by first | exact nle rfl | omega) (by first | exact nle rfl | omega) (by first | exact nle rfl | omega) rfl ?_
    refine x_iret (by first | rfl | exact (narZ (by omega)).1) C F eX2_takeToken_107 M rfl ⟨fun _ h => h, hPM⟩ (fun cf c h => ?_) (by first | exact nle rfl | omega) (by first | exact nle rfl | omega)
    have h1 := WF_cTC (m := n) (knC J 6) (R := [_, _, _, _, _, _, _, _, _]) (WF_pick [5, 6, 7, 8, 0, 1, 2, 3, 4, 9, 10, 11, 12] rfl rfl h)
    exact WF_pick [1, 2, 3, 4, 5, 0, 6, 7, 8, 9] rfl rfl h1
  · refine x_tabIn 108 C eX2_takeToken_4 (by decide) (by decide) (by decide) rfl rfl ?_
    refine x_aload_n C eX2_takeToken_108 rfl ?_
    refine yV0r [_, _, _, _, _, _, _, _, _, _] [_, _, _, _, _, _, _, _, _, _, _, _, _] C (s_X2_takeStatement hK hJk (by omega)) v_X2_takeStatement vv_X2_takeStatement s_RX2_101 eX2_takeToken_109 (fun _ _ h => WF_pick [0, 1, 5, 2, 3, 4, 6, 7, 8, 9, 10, 11, 12] rfl rfl h) (rcv 0 rfl) rfl (by first | exact nle rfl | omega) (by first | exact nle rfl | omega) (by first | exact nle rfl | omega) (by first | exact nle rfl | omega) rfl ?_
    refine x_iret (by first | rfl | exact (narZ (by omega)).1) C F eX2_takeToken_112 M rfl ⟨fun _ h => h, hPM⟩ (fun cf c h => ?_) (by first | exact nle rfl | omega) (by first | exact nle rfl | omega)
    have h1 := WF_cTC (m := n) (tsC J n) (R := [_, _, _, _, _, _, _, _, _]) (WF_pick [2, 6, 7, 8, 0, 1, 3, 4, 5, 9, 10, 11, 12] rfl rfl h)
    exact WF_pick [1, 2, 3, 4, 5, 0, 6, 7, 8, 9] rfl rfl h1
  · refine x_tabIn 113 C eX2_takeToken_4 (by decide) (by decide) (by decide) rfl rfl ?_
    refine x_aload_n C eX2_takeToken_113 rfl ?_
    refine yV0r [_, _, _, _, _, _, _, _, _, _, _] [_, _, _, _, _, _, _, _, _, _, _, _, _] C (s_X2_takeStatementEnd hK hJk) v_X2_takeStatementEnd vv_X2_takeStatementEnd s_RX2_104 eX2_takeToken_114 (fun _ _ h => WF_pick [0, 1, 2, 3, 4, 5, 6, 7, 8, 9, 10, 11, 12] rfl rfl h) (rcv 0 rfl) rfl (by first | exact nle rfl | omega) (by first | exact nle rfl | omega) (by first | exact nle rfl | omega) (by first | exact nle rfl | omega) rfl ?_
    refine x_iret (by first | rfl | exact (narZ (by omega)).1) C F eX2_takeToken_117 M rfl ⟨fun _ h => h, hPM⟩ (fun cf c h => ?_) (by first | exact nle rfl | omega) (by first | exact nle rfl | omega)
    have h1 := WF_cTC (m := n) (knC J 2) (R := [_, _, _, _, _, _, _, _, _]) (WF_pick [5, 6, 7, 8, 0, 1, 2, 3, 4, 9, 10, 11, 12] rfl rfl h)
    exact WF_pick [1, 2, 3, 4, 5, 0, 6, 7, 8, 9] rfl rfl h1
  · refine x_tabIn 118 C eX2_takeToken_4 (by decide) (by decide) (by decide) rfl rfl ?_
    refine x_aload_n C eX2_takeToken_118 rfl ?_
    refine yV0x [_, _, _, _] C (s_X2_takeNewName hK hS hPM hJk hP5 hz hF ⟨hn6.1, h3 rfl⟩ hwd) v_X2_takeNewName vv_X2_takeNewName s_RX2_107 eX2_takeToken_119 (fun _ _ h => WF_pick [0, 1, 2, 3, 4, 5, 6, 7, 8, 9, 10, 11, 12] rfl rfl h) (rcv 0 rfl) rfl (by first | exact nle rfl | omega) (by first | exact nle rfl | omega) (by first | exact nle rfl | omega) (by first | exact nle rfl | omega) (fun M2 hM2 => ?_)
    refine x_iret (by first | rfl | exact (narZ (by omega)).1) C F eX2_takeToken_122 M2 rfl hM2 (fun cf c h => ?_) (by first | exact nle rfl | omega) (by first | exact nle rfl | omega)
    have h1 := WF_cTC (m := (if nnC J P = 0 then nwN n (wnum (tW Fb z (J 2) (J 3 - J 2).toNat)) else n)) (nnC J P) (R := [_, _, _, _, _, _, _, _, _]) (WF_pick [5, 6, 7, 8, 0, 1, 2, 3, 4, 9, 10, 11, 12] rfl rfl h)
    exact WF_pick [1, 2, 3, 4, 5, 0, 6, 7, 8, 9] rfl rfl h1
  · refine x_tabIn 123 C eX2_takeToken_4 (by decide) (by decide) (by decide) rfl rfl ?_
    refine x_aload_n C eX2_takeToken_123 rfl ?_
    refine x_bipush C eX2_takeToken_124 rfl ?_
    refine x_iconst C eX2_takeToken_126 ?_
    refine yV2r [_, _, _, _, _, _, _, _, _, _, _] [_, _, _, _, _, _, _, _, _, _, _, _, _] C (s_X2_takeKind hK hJk (by decide)) v_X2_takeKind vv_X2_takeKind s_RX2_97 eX2_takeToken_127 (fun _ _ h => WF_pick [0, 1, 2, 3, 4, 5, 6, 7, 8, 9, 10, 11, 12] rfl rfl h) (rcv 0 rfl) rfl (by first | exact nle rfl | omega) (by first | exact nle rfl | omega) (by first | exact nle rfl | omega) (by first | exact nle rfl | omega) rfl ?_
    refine x_iret (by first | rfl | exact (narZ (by omega)).1) C F eX2_takeToken_130 M rfl ⟨fun _ h => h, hPM⟩ (fun cf c h => ?_) (by first | exact nle rfl | omega) (by first | exact nle rfl | omega)
    have h1 := WF_cTC (m := n) (knC J 7) (R := [_, _, _, _, _, _, _, _, _]) (WF_pick [5, 6, 7, 8, 0, 1, 2, 3, 4, 9, 10, 11, 12] rfl rfl h)
    exact WF_pick [1, 2, 3, 4, 5, 0, 6, 7, 8, 9] rfl rfl h1
  · refine x_tabIn 131 C eX2_takeToken_4 (by decide) (by decide) (by decide) rfl rfl ?_
    refine x_aload_n C eX2_takeToken_131 rfl ?_
    refine yV0r [_, _, _, _, _, _, _] [_, _, _, _, _, _, _, _, _, _, _, _, _] C (s_X2_takeCapacity hK hJb hJk ⟨h5 (by omega), hn6.2⟩) v_X2_takeCapacity vv_X2_takeCapacity s_RX2_110 eX2_takeToken_132 (fun _ _ h => WF_pick [0, 1, 5, 6, 7, 8, 2, 3, 4, 9, 10, 11, 12] rfl rfl h) (rcv 0 rfl) rfl (by first | exact nle rfl | omega) (by first | exact nle rfl | omega) (by first | exact nle rfl | omega) (by first | exact nle rfl | omega) rfl ?_
    refine x_iret (by first | rfl | exact (narZ (by omega)).1) C F eX2_takeToken_135 M rfl ⟨fun _ h => h, hPM⟩ (fun cf c h => ?_) (by first | exact nle rfl | omega) (by first | exact nle rfl | omega)
    have hl9 : 0 ≤ lst n := by have := h5 (by omega); unfold lst; omega
    have h1 := WF_cTCu (m := n) (i := lst n) (B := ub (n (lst n)) 1 (J 4)) (tnC J 4 60) (by omega) (R := [_, _, _, _, _, _, _, _, _]) (WF_pick [2, 3, 4, 5, 0, 1, 6, 7, 8, 9, 10, 11, 12] rfl rfl h)
    exact WF_pick [1, 2, 3, 4, 5, 0, 6, 7, 8, 9] rfl rfl h1
  · refine x_tabIn 136 C eX2_takeToken_4 (by decide) (by decide) (by decide) rfl rfl ?_
    refine x_aload_n C eX2_takeToken_136 rfl ?_
    refine x_bipush C eX2_takeToken_137 rfl ?_
    refine x_bipush C eX2_takeToken_139 rfl ?_
    refine yV2r [_, _, _, _, _, _, _, _, _, _, _] [_, _, _, _, _, _, _, _, _, _, _, _, _] C (s_X2_takeKind hK hJk (by decide)) v_X2_takeKind vv_X2_takeKind s_RX2_97 eX2_takeToken_141 (fun _ _ h => WF_pick [0, 1, 2, 3, 4, 5, 6, 7, 8, 9, 10, 11, 12] rfl rfl h) (rcv 0 rfl) rfl (by first | exact nle rfl | omega) (by first | exact nle rfl | omega) (by first | exact nle rfl | omega) (by first | exact nle rfl | omega) rfl ?_
    refine x_iret (by first | rfl | exact (narZ (by omega)).1) C F eX2_takeToken_144 M rfl ⟨fun _ h => h, hPM⟩ (fun cf c h => ?_) (by first | exact nle rfl | omega) (by first | exact nle rfl | omega)
    have h1 := WF_cTC (m := n) (knC J 8) (R := [_, _, _, _, _, _, _, _, _]) (WF_pick [5, 6, 7, 8, 0, 1, 2, 3, 4, 9, 10, 11, 12] rfl rfl h)
    exact WF_pick [1, 2, 3, 4, 5, 0, 6, 7, 8, 9] rfl rfl h1
  · refine x_tabIn 145 C eX2_takeToken_4 (by decide) (by decide) (by decide) rfl rfl ?_
    refine x_aload_n C eX2_takeToken_145 rfl ?_
    refine yV0r [_, _, _, _, _, _, _] [_, _, _, _, _, _, _, _, _, _, _, _, _] C (s_X2_takeLowMark hK hJb hJk ⟨h5 (by omega), hn6.2⟩ (hcap (by omega))) v_X2_takeLowMark vv_X2_takeLowMark s_RX2_113 eX2_takeToken_146 (fun _ _ h => WF_pick [0, 1, 5, 6, 7, 8, 2, 3, 4, 9, 10, 11, 12] rfl rfl h) (rcv 0 rfl) rfl (by first | exact nle rfl | omega) (by first | exact nle rfl | omega) (by first | exact nle rfl | omega) (by first | exact nle rfl | omega) rfl ?_
    refine x_iret (by first | rfl | exact (narZ (by omega)).1) C F eX2_takeToken_149 M rfl ⟨fun _ h => h, hPM⟩ (fun cf c h => ?_) (by first | exact nle rfl | omega) (by first | exact nle rfl | omega)
    have hl9 : 0 ≤ lst n := by have := h5 (by omega); unfold lst; omega
    have h1 := WF_cTCu (m := n) (i := lst n) (B := ub (n (lst n)) 2 (J 4)) (tnC J 0 (n (lst n) 1 - 1)) (by omega) (R := [_, _, _, _, _, _, _, _, _]) (WF_pick [2, 3, 4, 5, 0, 1, 6, 7, 8, 9, 10, 11, 12] rfl rfl h)
    exact WF_pick [1, 2, 3, 4, 5, 0, 6, 7, 8, 9] rfl rfl h1
  · refine x_tabIn 150 C eX2_takeToken_4 (by decide) (by decide) (by decide) rfl rfl ?_
    refine x_aload_n C eX2_takeToken_150 rfl ?_
    refine yV0r [_, _, _, _, _, _, _] [_, _, _, _, _, _, _, _, _, _, _, _, _] C (s_X2_takeHighMark hK hJb hJk ⟨h5 (by omega), hn6.2⟩ (hcap (by omega)) (hcap2 rfl)) v_X2_takeHighMark vv_X2_takeHighMark s_RX2_116 eX2_takeToken_151 (fun _ _ h => WF_pick [0, 1, 5, 6, 7, 8, 2, 3, 4, 9, 10, 11, 12] rfl rfl h) (rcv 0 rfl) rfl (by first | exact nle rfl | omega) (by first | exact nle rfl | omega) (by first | exact nle rfl | omega) (by first | exact nle rfl | omega) rfl ?_
    refine x_iret (by first | rfl | exact (narZ (by omega)).1) C F eX2_takeToken_154 M rfl ⟨fun _ h => h, hPM⟩ (fun cf c h => ?_) (by first | exact nle rfl | omega) (by first | exact nle rfl | omega)
    have hl9 : 0 ≤ lst n := by have := h5 (by omega); unfold lst; omega
    have h1 := WF_cTCu (m := n) (i := lst n) (B := ub (n (lst n)) 3 (J 4)) (tnC J (n (lst n) 2 + 1) (n (lst n) 1)) (by omega) (R := [_, _, _, _, _, _, _, _, _]) (WF_pick [2, 3, 4, 5, 0, 1, 6, 7, 8, 9, 10, 11, 12] rfl rfl h)
    exact WF_pick [1, 2, 3, 4, 5, 0, 6, 7, 8, 9] rfl rfl h1
  · refine x_tabIn 155 C eX2_takeToken_4 (by decide) (by decide) (by decide) rfl rfl ?_
    refine x_aload_n C eX2_takeToken_155 rfl ?_
    refine x_bipush C eX2_takeToken_156 rfl ?_
    refine x_bipush C eX2_takeToken_158 rfl ?_
    refine yV2r [_, _, _, _, _, _, _, _, _, _, _] [_, _, _, _, _, _, _, _, _, _, _, _, _] C (s_X2_takeKind hK hJk (by decide)) v_X2_takeKind vv_X2_takeKind s_RX2_97 eX2_takeToken_160 (fun _ _ h => WF_pick [0, 1, 2, 3, 4, 5, 6, 7, 8, 9, 10, 11, 12] rfl rfl h) (rcv 0 rfl) rfl (by first | exact nle rfl | omega) (by first | exact nle rfl | omega) (by first | exact nle rfl | omega) (by first | exact nle rfl | omega) rfl ?_
    refine x_iret (by first | rfl | exact (narZ (by omega)).1) C F eX2_takeToken_163 M rfl ⟨fun _ h => h, hPM⟩ (fun cf c h => ?_) (by first | exact nle rfl | omega) (by first | exact nle rfl | omega)
    have h1 := WF_cTC (m := n) (knC J 9) (R := [_, _, _, _, _, _, _, _, _]) (WF_pick [5, 6, 7, 8, 0, 1, 2, 3, 4, 9, 10, 11, 12] rfl rfl h)
    exact WF_pick [1, 2, 3, 4, 5, 0, 6, 7, 8, 9] rfl rfl h1
  · refine x_tabIn 164 C eX2_takeToken_4 (by decide) (by decide) (by decide) rfl rfl ?_
    refine x_aload_n C eX2_takeToken_164 rfl ?_
    refine yV0r [_, _, _, _, _, _, _] [_, _, _, _, _, _, _, _, _, _, _, _, _] C (s_X2_takeShare hK hJb hJk ⟨h5 (by omega), hn6.2⟩) v_X2_takeShare vv_X2_takeShare s_RX2_119 eX2_takeToken_165 (fun _ _ h => WF_pick [0, 1, 5, 6, 7, 8, 2, 3, 4, 9, 10, 11, 12] rfl rfl h) (rcv 0 rfl) rfl (by first | exact nle rfl | omega) (by first | exact nle rfl | omega) (by first | exact nle rfl | omega) (by first | exact nle rfl | omega) rfl ?_
    refine x_iret (by first | rfl | exact (narZ (by omega)).1) C F eX2_takeToken_168 M rfl ⟨fun _ h => h, hPM⟩ (fun cf c h => ?_) (by first | exact nle rfl | omega) (by first | exact nle rfl | omega)
    have hl9 : 0 ≤ lst n := by have := h5 (by omega); unfold lst; omega
    have h1 := WF_cTCu (m := n) (i := lst n) (B := ub (n (lst n)) 4 (J 4)) (tnC J 1 9) (by omega) (R := [_, _, _, _, _, _, _, _, _]) (WF_pick [2, 3, 4, 5, 0, 1, 6, 7, 8, 9, 10, 11, 12] rfl rfl h)
    exact WF_pick [1, 2, 3, 4, 5, 0, 6, 7, 8, 9] rfl rfl h1
  · refine x_tabIn 169 C eX2_takeToken_4 (by decide) (by decide) (by decide) rfl rfl ?_
    refine x_aload_n C eX2_takeToken_169 rfl ?_
    refine x_getR 0 C f_RX2_26 eX2_takeToken_170 rfl rfl ?_
    refine x_getI 1 C f_RX2_50 eX2_takeToken_173 rfl rfl ?_
    try simp (disch := decide) only [up_s, up_n]
    refine x_bipush C eX2_takeToken_176 rfl ?_
    refine x_icmp_ne 192 C eX2_takeToken_178 rfl (by omega) (by omega) (fun h178 => ?_) (fun h178 => ?_)
    · refine x_aload_n C eX2_takeToken_192 rfl ?_
      refine yV0r [_, _, _, _, _, _, _, _, _, _, _] [_, _, _, _, _, _, _, _, _, _, _, _, _] C (s_X2_takeStatementEnd hK hJk) v_X2_takeStatementEnd vv_X2_takeStatementEnd s_RX2_104 eX2_takeToken_193 (fun _ _ h => WF_pick [0, 1, 2, 3, 4, 5, 6, 7, 8, 9, 10, 11, 12] rfl rfl h) (rcv 0 rfl) rfl (by first | exact nle rfl | omega) (by first | exact nle rfl | omega) (by first | exact nle rfl | omega) (by first | exact nle rfl | omega) rfl ?_
      refine x_iret (by first | rfl | exact (narZ (by omega)).1) C F eX2_takeToken_196 M (by first | (show _ = some (Value.int (zI (knC J 10))); rw [show stC 11 J P n tz = (if J 1 = 10 then 0 else knC J 2) from rfl, if_pos (by omega), knC, if_pos (by omega)]) | (rw [show stC 11 J P n tz = (if J 1 = 10 then 0 else knC J 2) from rfl, if_neg (by omega)])) ⟨fun _ h => h, hPM⟩ (fun cf c h => ?_) (by first | exact nle rfl | omega) (by first | exact nle rfl | omega)
      first
        | (have eP : stP 11 J P = up P 4 12 := by show up P 4 (if J 1 = 10 then 12 else 1) = _; rw [if_pos (by omega)]
           rw [eP]
           have h1 := WF_cTC (m := n) (stC 11 J P n tz) (R := [_, _, _, _, _, _, _, _, _]) (WF_pick [5, 6, 7, 8, 0, 1, 2, 3, 4, 9, 10, 11, 12] rfl rfl h)
           exact WF_pick [1, 2, 3, 4, 5, 0, 6, 7, 8, 9] rfl rfl h1)
        | (have eP : stP 11 J P = up P 4 1 := by show up P 4 (if J 1 = 10 then 12 else 1) = _; rw [if_neg (by omega)]
           rw [eP]
           have h1 := WF_cTC (m := n) (stC 11 J P n tz) (R := [_, _, _, _, _, _, _, _, _]) (WF_pick [5, 6, 7, 8, 0, 1, 2, 3, 4, 9, 10, 11, 12] rfl rfl h)
           exact WF_pick [1, 2, 3, 4, 5, 0, 6, 7, 8, 9] rfl rfl h1)
    · refine x_aload_n C eX2_takeToken_181 rfl ?_
      refine x_bipush C eX2_takeToken_182 rfl ?_
      refine x_bipush C eX2_takeToken_184 rfl ?_
      refine yV2r [_, _, _, _, _, _, _, _, _, _, _] [_, _, _, _, _, _, _, _, _, _, _, _, _] C (s_X2_takeKind hK hJk (by decide)) v_X2_takeKind vv_X2_takeKind s_RX2_97 eX2_takeToken_186 (fun _ _ h => WF_pick [0, 1, 2, 3, 4, 5, 6, 7, 8, 9, 10, 11, 12] rfl rfl h) (rcv 0 rfl) rfl (by first | exact nle rfl | omega) (by first | exact nle rfl | omega) (by first | exact nle rfl | omega) (by first | exact nle rfl | omega) rfl ?_
      refine x_goto (pc' := 196) C eX2_takeToken_189 rfl ?_
      refine x_iret (by first | rfl | exact (narZ (by omega)).1) C F eX2_takeToken_196 M (by first | (show _ = some (Value.int (zI (knC J 10))); rw [show stC 11 J P n tz = (if J 1 = 10 then 0 else knC J 2) from rfl, if_pos (by omega), knC, if_pos (by omega)]) | (rw [show stC 11 J P n tz = (if J 1 = 10 then 0 else knC J 2) from rfl, if_neg (by omega)])) ⟨fun _ h => h, hPM⟩ (fun cf c h => ?_) (by first | exact nle rfl | omega) (by first | exact nle rfl | omega)
      first
        | (have eP : stP 11 J P = up P 4 12 := by show up P 4 (if J 1 = 10 then 12 else 1) = _; rw [if_pos (by omega)]
           rw [eP]
           have h1 := WF_cTC (m := n) (stC 11 J P n tz) (R := [_, _, _, _, _, _, _, _, _]) (WF_pick [5, 6, 7, 8, 0, 1, 2, 3, 4, 9, 10, 11, 12] rfl rfl h)
           exact WF_pick [1, 2, 3, 4, 5, 0, 6, 7, 8, 9] rfl rfl h1)
        | (have eP : stP 11 J P = up P 4 1 := by show up P 4 (if J 1 = 10 then 12 else 1) = _; rw [if_neg (by omega)]
           rw [eP]
           have h1 := WF_cTC (m := n) (stC 11 J P n tz) (R := [_, _, _, _, _, _, _, _, _]) (WF_pick [5, 6, 7, 8, 0, 1, 2, 3, 4, 9, 10, 11, 12] rfl rfl h)
           exact WF_pick [1, 2, 3, 4, 5, 0, 6, 7, 8, 9] rfl rfl h1)
  · refine x_tabIn 197 C eX2_takeToken_4 (by decide) (by decide) (by decide) rfl rfl ?_
    refine x_aload_n C eX2_takeToken_197 rfl ?_
    refine yV0r [_, _, _, _, _, _, _] [_, _, _, _, _, _, _, _, _, _, _, _, _] C (s_X2_takeEcho hK hJk ⟨h5 (by omega), hn6.2⟩) v_X2_takeEcho vv_X2_takeEcho s_RX2_122 eX2_takeToken_198 (fun _ _ h => WF_pick [0, 1, 5, 6, 7, 8, 2, 3, 4, 9, 10, 11, 12] rfl rfl h) (rcv 0 rfl) rfl (by first | exact nle rfl | omega) (by first | exact nle rfl | omega) (by first | exact nle rfl | omega) (by first | exact nle rfl | omega) rfl ?_
    refine x_iret (by first | rfl | exact (narZ (by omega)).1) C F eX2_takeToken_201 M rfl ⟨fun _ h => h, hPM⟩ (fun cf c h => ?_) (by first | exact nle rfl | omega) (by first | exact nle rfl | omega)
    have hl9 : 0 ≤ lst n := by have := h5 (by omega); unfold lst; omega
    by_cases hec : ecC J = 0
    · rw [if_pos hec] at h
      have eN : stN 12 (wnum (tW Fb z (J 2) (J 3 - J 2).toNat)) J P n = un n (lst n) (ub (n (lst n)) 5 (J 1 - 11)) := if_pos hec
      rw [eN]
      have h1 := WF_cTCu (m := n) (i := lst n) (B := ub (n (lst n)) 5 (J 1 - 11)) (ecC J) (by omega) (R := [_, _, _, _, _, _, _, _, _]) (WF_pick [2, 3, 4, 5, 0, 1, 6, 7, 8, 9, 10, 11, 12] rfl rfl h)
      exact WF_pick [1, 2, 3, 4, 5, 0, 6, 7, 8, 9] rfl rfl h1
    · rw [if_neg hec] at h
      have eN : stN 12 (wnum (tW Fb z (J 2) (J 3 - J 2).toNat)) J P n = n := if_neg hec
      rw [eN]
      have h1 := WF_cTC (m := n) (ecC J) (R := [_, _, _, _, _, _, _, _, _]) (WF_pick [2, 3, 4, 5, 0, 1, 6, 7, 8, 9, 10, 11, 12] rfl rfl h)
      exact WF_pick [1, 2, 3, 4, 5, 0, 6, 7, 8, 9] rfl rfl h1
  · refine x_tabIn 202 C eX2_takeToken_4 (by decide) (by decide) (by decide) rfl rfl ?_
    refine x_aload_n C eX2_takeToken_202 rfl ?_
    refine yV0r [_, _, _, _, _, _, _] [_, _, _, _, _, _, _, _, _, _, _, _, _] C (s_X2_takeLender hK hJk hP5 (by omega) (by omega) (hl9 rfl)) v_X2_takeLender vv_X2_takeLender s_RX2_125 eX2_takeToken_203 (fun _ _ h => WF_pick [0, 1, 5, 6, 7, 8, 2, 3, 4, 9, 10, 11, 12] rfl rfl h) (rcv 0 rfl) rfl (by first | exact nle rfl | omega) (by first | exact nle rfl | omega) (by first | exact nle rfl | omega) (by first | exact nle rfl | omega) rfl ?_
    refine x_iret (by first | rfl | exact (narZ (by omega)).1) C F eX2_takeToken_206 M rfl ⟨fun _ h => h, hPM⟩ (fun cf c h => ?_) (by first | exact nle rfl | omega) (by first | exact nle rfl | omega)
    have h1 := WF_cTC (m := n) (leC J P n) (R := [_, _, _, _, _, _, _, _, _]) (WF_pick [2, 3, 4, 5, 0, 1, 6, 7, 8, 9, 10, 11, 12] rfl rfl h)
    exact WF_pick [1, 2, 3, 4, 5, 0, 6, 7, 8, 9] rfl rfl h1
  · refine x_tabIn 207 C eX2_takeToken_4 (by decide) (by decide) (by decide) rfl rfl ?_
    refine x_aload_n C eX2_takeToken_207 rfl ?_
    refine x_bipush C eX2_takeToken_208 rfl ?_
    refine x_bipush C eX2_takeToken_210 rfl ?_
    refine yV2r [_, _, _, _, _, _, _, _, _, _, _] [_, _, _, _, _, _, _, _, _, _, _, _, _] C (s_X2_takeKind hK hJk (by decide)) v_X2_takeKind vv_X2_takeKind s_RX2_97 eX2_takeToken_212 (fun _ _ h => WF_pick [0, 1, 2, 3, 4, 5, 6, 7, 8, 9, 10, 11, 12] rfl rfl h) (rcv 0 rfl) rfl (by first | exact nle rfl | omega) (by first | exact nle rfl | omega) (by first | exact nle rfl | omega) (by first | exact nle rfl | omega) rfl ?_
    refine x_iret (by first | rfl | exact (narZ (by omega)).1) C F eX2_takeToken_215 M rfl ⟨fun _ h => h, hPM⟩ (fun cf c h => ?_) (by first | exact nle rfl | omega) (by first | exact nle rfl | omega)
    have h1 := WF_cTC (m := n) (knC J 15) (R := [_, _, _, _, _, _, _, _, _]) (WF_pick [5, 6, 7, 8, 0, 1, 2, 3, 4, 9, 10, 11, 12] rfl rfl h)
    exact WF_pick [1, 2, 3, 4, 5, 0, 6, 7, 8, 9] rfl rfl h1
  · refine x_tabIn 216 C eX2_takeToken_4 (by decide) (by decide) (by decide) rfl rfl ?_
    refine x_aload_n C eX2_takeToken_216 rfl ?_
    refine yV0r [_, _, _, _, _, _, _, _, _, _, _] [_, _, _, _, _, _, _, _, _, _, _, _, _] C (s_X2_takeBorrower hK hJk hP5 hP6) v_X2_takeBorrower vv_X2_takeBorrower s_RX2_128 eX2_takeToken_217 (fun _ _ h => WF_pick [0, 1, 2, 3, 4, 5, 6, 7, 8, 9, 10, 11, 12] rfl rfl h) (rcv 0 rfl) rfl (by first | exact nle rfl | omega) (by first | exact nle rfl | omega) (by first | exact nle rfl | omega) (by first | exact nle rfl | omega) rfl ?_
    refine x_iret (by first | rfl | exact (narZ (by omega)).1) C F eX2_takeToken_220 M rfl ⟨fun _ h => h, hPM⟩ (fun cf c h => ?_) (by first | exact nle rfl | omega) (by first | exact nle rfl | omega)
    have h1 := WF_cTC (m := n) (boC J P) (R := [_, _, _, _, _, _, _, _, _]) (WF_pick [5, 6, 7, 8, 0, 1, 2, 3, 4, 9, 10, 11, 12] rfl rfl h)
    exact WF_pick [1, 2, 3, 4, 5, 0, 6, 7, 8, 9] rfl rfl h1
  · refine x_tabIn 221 C eX2_takeToken_4 (by decide) (by decide) (by decide) rfl rfl ?_
    refine x_aload_n C eX2_takeToken_221 rfl ?_
    refine x_bipush C eX2_takeToken_222 rfl ?_
    refine x_bipush C eX2_takeToken_224 rfl ?_
    refine yV2r [_, _, _, _, _, _, _, _, _, _, _] [_, _, _, _, _, _, _, _, _, _, _, _, _] C (s_X2_takeKind hK hJk (by decide)) v_X2_takeKind vv_X2_takeKind s_RX2_97 eX2_takeToken_226 (fun _ _ h => WF_pick [0, 1, 2, 3, 4, 5, 6, 7, 8, 9, 10, 11, 12] rfl rfl h) (rcv 0 rfl) rfl (by first | exact nle rfl | omega) (by first | exact nle rfl | omega) (by first | exact nle rfl | omega) (by first | exact nle rfl | omega) rfl ?_
    refine x_iret (by first | rfl | exact (narZ (by omega)).1) C F eX2_takeToken_229 M rfl ⟨fun _ h => h, hPM⟩ (fun cf c h => ?_) (by first | exact nle rfl | omega) (by first | exact nle rfl | omega)
    have h1 := WF_cTC (m := n) (knC J 16) (R := [_, _, _, _, _, _, _, _, _]) (WF_pick [5, 6, 7, 8, 0, 1, 2, 3, 4, 9, 10, 11, 12] rfl rfl h)
    exact WF_pick [1, 2, 3, 4, 5, 0, 6, 7, 8, 9] rfl rfl h1
  · refine x_tabIn 230 C eX2_takeToken_4 (by decide) (by decide) (by decide) rfl rfl ?_
    refine x_aload_n C eX2_takeToken_230 rfl ?_
    refine yV0x [_, _, _, _, _, _, _] C (s_X2_takeTurns hK hJb hJk (h17 rfl) (by omega)) v_X2_takeTurns vv_X2_takeTurns s_RX2_131 eX2_takeToken_231 (fun _ _ h => WF_pick [0, 1, 5, 6, 7, 8, 2, 3, 4, 9, 10, 11, 12] rfl rfl h) (rcv 0 rfl) rfl (by first | exact nle rfl | omega) (by first | exact nle rfl | omega) (by first | exact nle rfl | omega) (by first | exact nle rfl | omega) (fun u9 hu9 => ?_)
    refine x_iret (by first | rfl | exact (narZ (by omega)).1) C F eX2_takeToken_234 M rfl ⟨fun _ h => h, hPM⟩ (fun cf c h => ?_) (by first | exact nle rfl | omega) (by first | exact nle rfl | omega)
    exact WF_pick [0, 1, 3, 4, 5, 2, 6, 7, 8, 9] rfl rfl h
  · refine x_tabIn 235 C eX2_takeToken_4 (by decide) (by decide) (by decide) rfl rfl ?_
    refine x_aload_n C eX2_takeToken_235 rfl ?_
    refine yV0r [_, _, _, _, _, _, _, _, _, _, _] [_, _, _, _, _, _, _, _, _, _, _, _, _] C (s_X2_takeTypingLine hK hJk hP5) v_X2_takeTypingLine vv_X2_takeTypingLine s_RX2_134 eX2_takeToken_236 (fun _ _ h => WF_pick [0, 1, 2, 3, 4, 5, 6, 7, 8, 9, 10, 11, 12] rfl rfl h) (rcv 0 rfl) rfl (by first | exact nle rfl | omega) (by first | exact nle rfl | omega) (by first | exact nle rfl | omega) (by first | exact nle rfl | omega) rfl ?_
    refine x_iret (by first | rfl | exact (narZ (by omega)).1) C F eX2_takeToken_239 M rfl ⟨fun _ h => h, hPM⟩ (fun cf c h => ?_) (by first | exact nle rfl | omega) (by first | exact nle rfl | omega)
    have h1 := WF_cTC (m := n) (knm J P) (R := [_, _, _, _, _, _, _, _, _]) (WF_pick [5, 6, 7, 8, 0, 1, 2, 3, 4, 9, 10, 11, 12] rfl rfl h)
    exact WF_pick [1, 2, 3, 4, 5, 0, 6, 7, 8, 9] rfl rfl h1
  · refine x_tabIn 240 C eX2_takeToken_4 (by decide) (by decide) (by decide) rfl rfl ?_
    refine x_aload_n C eX2_takeToken_240 rfl ?_
    refine yV0r [_, _, _, _, _, _, _] [_, _, _, _, _, _, _, _, _, _, _, _, _] C (s_X2_takeTypedByte hK hJb hJk (by omega)) v_X2_takeTypedByte vv_X2_takeTypedByte s_RX2_137 eX2_takeToken_241 (fun _ _ h => WF_pick [0, 1, 9, 10, 11, 12, 2, 3, 4, 5, 6, 7, 8] rfl rfl h) (rcv 0 rfl) rfl (by first | exact nle rfl | omega) (by first | exact nle rfl | omega) (by first | exact nle rfl | omega) (by first | exact nle rfl | omega) rfl ?_
    refine x_iret (by first | rfl | exact (narZ (by omega)).1) C F eX2_takeToken_244 M rfl ⟨fun _ h => h, hPM⟩ (fun cf c h => ?_) (by first | exact nle rfl | omega) (by first | exact nle rfl | omega)
    have eB : stB 19 J tz = decide (tbC J tz = 0) := decide_eq_decide.mpr ⟨fun z => z.2, fun z => ⟨Or.inl rfl, z⟩⟩
    rw [eB]
    have h1 := WF_cTC (m := n) (tbC J tz) (R := [_, _, _, _, _, _, _, _, _]) (WF_pick [9, 10, 11, 12, 0, 1, 6, 7, 8, 2, 3, 4, 5] rfl rfl h)
    exact WF_pick [1, 2, 3, 4, 5, 0, 6, 7, 8, 9] rfl rfl h1
  · refine x_tabOut 245 C eX2_takeToken_4 (by omega) hsw rfl ?_
    obtain rfl : a9 = 20 := by omega
    refine x_aload_n C eX2_takeToken_245 rfl ?_
    refine x_getR 0 C f_RX2_26 eX2_takeToken_246 rfl rfl ?_
    refine x_getI 1 C f_RX2_50 eX2_takeToken_249 rfl rfl ?_
    try simp (disch := decide) only [up_s, up_n]
    refine x_iconst C eX2_takeToken_252 ?_
    refine x_icmp_ne 263 C eX2_takeToken_253 rfl (by omega) (by omega) (fun h253 => ?_) (fun h253 => ?_)
    · refine x_aload_n C eX2_takeToken_263 rfl ?_
      refine yV0r [_, _, _, _, _, _, _, _, _, _, _] [_, _, _, _, _, _, _, _, _, _, _, _, _] C (s_X2_takeStatementEnd hK hJk) v_X2_takeStatementEnd vv_X2_takeStatementEnd s_RX2_104 eX2_takeToken_264 (fun _ _ h => WF_pick [0, 1, 2, 3, 4, 5, 6, 7, 8, 9, 10, 11, 12] rfl rfl h) (rcv 0 rfl) rfl (by first | exact nle rfl | omega) (by first | exact nle rfl | omega) (by first | exact nle rfl | omega) (by first | exact nle rfl | omega) rfl ?_
      refine x_iret (by first | rfl | exact (narZ (by omega)).1) C F eX2_takeToken_267 M (by first | (rw [show stC 20 J P n tz = (if J 1 = 1 then tbC J tz else knC J 2) from rfl, if_pos (by omega)]) | (rw [show stC 20 J P n tz = (if J 1 = 1 then tbC J tz else knC J 2) from rfl, if_neg (by omega)])) ⟨fun _ h => h, hPM⟩ (fun cf c h => ?_) (by first | exact nle rfl | omega) (by first | exact nle rfl | omega)
      first
        | (have hJ1 : J 1 = 1 := by omega
           have eP : stP 20 J P = up P 4 20 := by show up P 4 (if J 1 = 1 then 20 else 1) = _; rw [if_pos hJ1]
           have eB : stB 20 J tz = decide (tbC J tz = 0) := decide_eq_decide.mpr ⟨fun z => z.2, fun z => ⟨Or.inr ⟨rfl, hJ1⟩, z⟩⟩
           rw [eP, eB]
           have h1 := WF_cTC (m := n) (stC 20 J P n tz) (R := [_, _, _, _, _, _, _, _, _]) (WF_pick [5, 6, 7, 8, 0, 1, 2, 3, 4, 9, 10, 11, 12] rfl rfl h)
           exact WF_pick [1, 2, 3, 4, 5, 0, 6, 7, 8, 9] rfl rfl h1)
        | (have hJ1 : ¬ J 1 = 1 := by omega
           have eP : stP 20 J P = up P 4 1 := by show up P 4 (if J 1 = 1 then 20 else 1) = _; rw [if_neg hJ1]
           have eB : stB 20 J tz = false := decide_eq_false (fun z => z.1.elim (fun z => absurd z (by decide)) (fun z => hJ1 z.2))
           rw [eP, eB]
           have h1 := WF_cTC (m := n) (stC 20 J P n tz) (R := [_, _, _, _, _, _, _, _, _]) (WF_pick [5, 6, 7, 8, 0, 1, 2, 3, 4, 9, 10, 11, 12] rfl rfl h)
           exact WF_pick [1, 2, 3, 4, 5, 0, 6, 7, 8, 9] rfl rfl h1)
    · refine x_aload_n C eX2_takeToken_256 rfl ?_
      refine yV0r [_, _, _, _, _, _, _] [_, _, _, _, _, _, _, _, _, _, _, _, _] C (s_X2_takeTypedByte hK hJb hJk (by omega)) v_X2_takeTypedByte vv_X2_takeTypedByte s_RX2_137 eX2_takeToken_257 (fun _ _ h => WF_pick [0, 1, 9, 10, 11, 12, 2, 3, 4, 5, 6, 7, 8] rfl rfl h) (rcv 0 rfl) rfl (by first | exact nle rfl | omega) (by first | exact nle rfl | omega) (by first | exact nle rfl | omega) (by first | exact nle rfl | omega) rfl ?_
      refine x_goto (pc' := 267) C eX2_takeToken_260 rfl ?_
      refine x_iret (by first | rfl | exact (narZ (by omega)).1) C F eX2_takeToken_267 M (by first | (rw [show stC 20 J P n tz = (if J 1 = 1 then tbC J tz else knC J 2) from rfl, if_pos (by omega)]) | (rw [show stC 20 J P n tz = (if J 1 = 1 then tbC J tz else knC J 2) from rfl, if_neg (by omega)])) ⟨fun _ h => h, hPM⟩ (fun cf c h => ?_) (by first | exact nle rfl | omega) (by first | exact nle rfl | omega)
      first
        | (have hJ1 : J 1 = 1 := by omega
           have eP : stP 20 J P = up P 4 20 := by show up P 4 (if J 1 = 1 then 20 else 1) = _; rw [if_pos hJ1]
           have eB : stB 20 J tz = decide (tbC J tz = 0) := decide_eq_decide.mpr ⟨fun z => z.2, fun z => ⟨Or.inr ⟨rfl, hJ1⟩, z⟩⟩
           rw [eP, eB]
           have h1 := WF_cTC (m := n) (stC 20 J P n tz) (R := [_, _, _, _, _, _, _, _, _]) (WF_pick [9, 10, 11, 12, 0, 1, 6, 7, 8, 2, 3, 4, 5] rfl rfl h)
           exact WF_pick [1, 2, 3, 4, 5, 0, 6, 7, 8, 9] rfl rfl h1)
        | (have hJ1 : ¬ J 1 = 1 := by omega
           have eP : stP 20 J P = up P 4 1 := by show up P 4 (if J 1 = 1 then 20 else 1) = _; rw [if_neg hJ1]
           have eB : stB 20 J tz = false := decide_eq_false (fun z => z.1.elim (fun z => absurd z (by decide)) (fun z => hJ1 z.2))
           rw [eP, eB]
           have h1 := WF_cTC (m := n) (stC 20 J P n tz) (R := [_, _, _, _, _, _, _, _, _]) (WF_pick [9, 10, 11, 12, 0, 1, 6, 7, 8, 2, 3, 4, 5] rfl rfl h)
           exact WF_pick [1, 2, 3, 4, 5, 0, 6, 7, 8, 9] rfl rfl h1)
