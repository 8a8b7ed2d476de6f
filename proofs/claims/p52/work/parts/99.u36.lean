/-! A text is parsed. -/
section Rules
variable {G : Gm} {X : Cx} {k n : Nat} {ws : List SA} {pc : Nat} {lv : List (Option Value)} {st : List Value}
theorem x_oTC {t : Nat} {M : Pool} {L : Int → Nat} {m : Net} {c9 : Int} {R : List SA} (hc : c9 = 0) (hw : ∀ cf c, WF ws cf c → WF (TC G M t L m c9 :: R) cf c) (K : ∀ (al lg : Nat), WX G X k n (ob t 8 (tkS al lg) (tkI m) :: arR G 5 al 6 (fun j => some (L (j : Int))) :: LFz G M L m :: LOG G lg m :: R) pc lv st) : WX G X k n ws pc lv st := by
  intro H locs ls c h1 h2 h3 h4
  obtain ⟨y, -, h5⟩ := WF_openX (X := Nat × Nat) (Y := fun _ => True) (L := fun y => [ob t 8 (tkS y.1 y.2) (tkI m), arR G 5 y.1 6 (fun j => some (L (j : Int))), LFz G M L m, LOG G y.2 m]) (hw _ _ h1) (fun d hd => by
    unfold TC at hd
    rw [if_pos hc] at hd
    obtain ⟨al, lg, g⟩ := hd
    exact ⟨(al, lg), trivial, g⟩)
  exact K y.1 y.2 H locs ls c h5 h2 h3 h4
end Rules
theorem iq {c : Prop} [Decidable c] {f g : Nat → Int} {v : Int} (hf : f 6 = v) (hg : g 6 = v) : (if c then f else g) 6 = v := by
  split
  · exact hf
  · exact hg
theorem iqn {c : Prop} [Decidable c] {f g : Nat → Int} {v : Int} (h : ¬ c) (hg : g 6 = v) : (if c then f else g) 6 = v := by rw [if_neg h]; exact hg
theorem stP_6 {a : Int} {J P : Nat → Int} (h5 : -1 ≤ P 5 ∧ P 5 ≤ 5) (h6 : -1 ≤ P 6 ∧ P 6 ≤ 5) : -1 ≤ stP a J P 6 ∧ stP a J P 6 ≤ 5 := by
  by_cases h : a = 13
  · subst h
    exact h5
  · have e : stP a J P 6 = P 6 := (iq (up_n (by decide)) (iq (up_n (by decide)) (iq (up_n (by decide)) (iq (up_n (by decide)) (iq (up_n (by decide)) (iq (up_n (by decide)) (iq (up_n (by decide)) (iq (up_n (by decide)) (iq (up_n (by decide)) (iq (up_n (by decide)) (iq (up_n (by decide)) (iq (up_n (by decide)) (iq (up_n (by decide)) (iqn h (iq (up_n (by decide)) (iq ((up_n (by decide)).trans (up_n (by decide))) (iq (up_n (by decide)) (iq (up_n (by decide)) (iq ((up_n (by decide)).trans (up_n (by decide))) (iq (up_n (by decide)) (up_n (by decide))))))))))))))))))))))
    rw [e]
    exact h6
theorem ib {c : Prop} [Decidable c] {x y : Int} (hx : 0 ≤ x ∧ x ≤ 5) (hy : 0 ≤ y ∧ y ≤ 5) : 0 ≤ (if c then x else y) ∧ (if c then x else y) ≤ 5 := by
  split
  · exact hx
  · exact hy
theorem stC_r {a z : Int} {J P : Nat → Int} {n : Net} : 0 ≤ stC a J P n z ∧ stC a J P n z ≤ 5 := by
  have kn : ∀ {k : Int}, 0 ≤ knC J k ∧ knC J k ≤ 5 := ib (by decide) (by decide)
  have tn : ∀ {lo hi : Int}, 0 ≤ tnC J lo hi ∧ tnC J lo hi ≤ 5 := ib (ib (by decide) (by decide)) (by decide)
  have ts : 0 ≤ tsC J n ∧ tsC J n ≤ 5 := ib (ib (by decide) (by decide)) (ib (by decide) kn)
  have nn : 0 ≤ nnC J P ∧ nnC J P ≤ 5 := ib (ib (by decide) (by decide)) (by decide)
  have km : 0 ≤ knm J P ∧ knm J P ≤ 5 := ib (ib (by decide) (by decide)) (by decide)
  have ec : 0 ≤ ecC J ∧ ecC J ≤ 5 := ib (by decide) (by decide)
  have le : 0 ≤ leC J P n ∧ leC J P n ≤ 5 := ib (ib (by decide) (by decide)) km
  have bo : 0 ≤ boC J P ∧ boC J P ≤ 5 := ib (ib (by decide) (by decide)) km
  have tb : 0 ≤ tbC J z ∧ tbC J z ≤ 5 := ib (ib (by decide) (by decide)) tn
  exact (ib kn (ib ts (ib kn (ib nn (ib kn (ib tn (ib kn (ib tn (ib tn (ib kn (ib tn (ib (ib (by decide) kn) (ib ec (ib le (ib kn (ib bo (ib kn (ib tn (ib km (ib tb (ib tb kn)))))))))))))))))))))
theorem adZ_r {a z : Int} {J : Nat → Int} (h : 0 ≤ z ∧ z ≤ 60) : 0 ≤ adZ (stB a J z) z ∧ adZ (stB a J z) z ≤ 60 := by
  unfold adZ
  split
  · next q =>
    unfold stB at q
    have h2 := (of_decide_eq_true q).2
    unfold tbC at h2
    split at h2
    · split at h2 <;> omega
    · contradiction
  · exact h

set_option maxHeartbeats 4000000 in
set_option maxRecDepth 100000 in
theorem s_X6_numberOfNameZ {G : Gm} {l : Launch} (hK : KG G) {M : Pool} {L : Int → Nat} {n : Net} {t al lg q b : Nat} {z s9 e9 : Int} {Fb : Nat → Int} (hn6 : 0 ≤ n (-1) 0 ∧ n (-1) 0 ≤ 6) (hS : KS G) (hPL : PLok G M) (hnam : namOk) (hz : 0 ≤ z ∧ z ≤ 400) (hF : ∀ j : Nat, -128 ≤ Fb j ∧ Fb j ≤ 127) (hr : 0 ≤ s9 ∧ s9 ≤ e9 ∧ e9 ≤ 1000000) : MD G l yX6_numberOfName cX6_numberOfName 5 (some .int) 6 0 0 [.ref t, .ref q, .int (zI s9), .int (zI e9)] [ob t 8 (tkS al lg) (tkI n), arR G 5 al 6 (fun j => some (L (j : Int))), LFz G M L n, ob q 6 [some (.ref b), none] (fun _ => z), ar G 1 b 400 400 (Fb), PL G M] (some (.int (zI (srch (fun k => decide (tW Fb z s9 (e9 - s9).toNat = nam (n k 0))) (n (-1) 0).toNat 0)))) [ob t 8 (tkS al lg) (tkI n), arR G 5 al 6 (fun j => some (L (j : Int))), LFz G M L n, ob q 6 [some (.ref b), none] (fun _ => z), ar G 1 b 400 400 (Fb), PL G M] := by
  refine MX_of (lv := [some (.ref t), some (.ref q), some (.int (zI s9)), some (.int (zI e9)), none]) hK (by decide +kernel) rfl (nle rfl) (fun X C F => ?_)
  have C : OKc G X l RX6 "numberOfName" cX6_numberOfName 5 (some .int) 6 0 0 := C
  have loop : ∀ (f k : Nat), (k : Int) ≤ n (-1) 0 → n (-1) 0 < k + f → srch (fun k => decide (tW Fb z s9 (e9 - s9).toNat = nam (n k 0))) (n (-1) 0).toNat 0 = srch (fun k => decide (tW Fb z s9 (e9 - s9).toNat = nam (n k 0))) ((n (-1) 0).toNat - k) k → WX G X 0 0 [ob t 8 (tkS al lg) (tkI n), arR G 5 al 6 (fun j => some (L (j : Int))), LFz G M L n, ob q 6 [some (.ref b), none] (fun _ => z), ar G 1 b 400 400 (Fb), PL G M] 3 [some (.ref t), some (.ref q), some (.int (zI s9)), some (.int (zI e9)), some (.int (zI (k : Int)))] [] := by
    intro f
    induction f with
    | zero => intro k h0 h1; exfalso; omega
    | succ f ih =>
      intro k h0 h1 h2
      refine x_iload C eX6_numberOfName_3 rfl ?_
      refine x_aload_n C eX6_numberOfName_5 rfl ?_
      refine x_getI 0 C f_RX6_24 eX6_numberOfName_6 rfl rfl ?_
      try simp (disch := decide) only [up_s, up_n, tkI_2, tkI_3, tkI_4, tkI_5, tkI_6, tkI_7, tkI_8, lnI_1, lnI_2, lnI_3, lnI_4, lnI_5, lnI_10, lnI_11, lnI_12, lnI_13, lnI_14, lnI_15]
      refine x_icmp_ge 39 C eX6_numberOfName_9 rfl (by omega) (by omega) (fun h9 => ?_) (fun h9 => ?_)
      · refine x_iconst C eX6_numberOfName_39 ?_
        refine x_iret (by first | rfl | exact (narZ (by omega)).1) C F eX6_numberOfName_40 () ?_ trivial (fun cf c h => ?_) (nle rfl) (nle rfl)
        · rw [h2, show (n (-1) 0).toNat - k = 0 by omega]
          rfl
        · exact WF_pick [0, 1, 2, 3, 4, 5] rfl rfl h
      · refine x_aload_n C eX6_numberOfName_12 rfl ?_
        refine x_iload_n C eX6_numberOfName_13 rfl ?_
        refine x_iload_n C eX6_numberOfName_14 rfl ?_
        refine x_aload_n C eX6_numberOfName_15 rfl ?_
        refine x_iload C eX6_numberOfName_16 rfl ?_
        refine yV1r [_, _, _, _] [_, _, _, _, _, _] C (s_X6_lineAt hK (by omega)) v_X6_lineAt vv_X6_lineAt s_RX6_32 eX6_numberOfName_18 (fun _ _ h => WF_pick [0, 1, 2, 3, 4, 5] rfl rfl h) (rcv 0 rfl) rfl (nle rfl) (nle rfl) (nle rfl) (nle rfl) rfl ?_
        skip
        refine x_oZ (M := M) (L := L) (m := n) (i := k) (R := [_, _, _, _, _]) (by omega) (fun _ _ hw => WF_pick [2, 0, 1, 3, 4, 5] rfl rfl hw) (fun A hA => ?_)
        obtain ⟨b9, u9, hsp, hul, huc, huw⟩ := hA.1
        have hsk := SP_sk hPL hsp
        have hnam9 : nam (n k 0) = u9 := by rw [← huw]; exact hnam u9 hul huc
        have hit : (e9 - s9 = (u9.length : Int) ∧ hwQ Fb z s9 u9 u9.length = true) ↔ tW Fb z s9 (e9 - s9).toNat = nam (n k 0) := by
          rw [hnam9, tW_u]
          constructor
          · rintro ⟨a, b⟩; exact ⟨by omega, b⟩
          · rintro ⟨a, b⟩; exact ⟨by omega, b⟩
        refine x_getR 0 C f_RX6_36 eX6_numberOfName_21 rfl rfl ?_
        refine yV3r [_, _, _, _, _, _, _, _, _, _, _, _, _] [_, _, _, _, _, _, _, _, _, _, _, _, _, _, _, _] C (s_X4_holdsWord hK hS hsk hz hF (by omega)) v_X4_holdsWord vv_X4_holdsWord s_RX6_40 eX6_numberOfName_24 (fun _ _ h => WF_pick [13, 14, 15, 0, 1, 2, 3, 4, 5, 6, 7, 8, 9, 10, 11, 12] rfl rfl h) (rcv 13 rfl) rfl (nle rfl) (nle rfl) (nle rfl) (nle rfl) rfl ?_
        skip
        refine x_pick [_, _, _, _, _, _, _, _, _, _, _, _, _, _, _, _] [3, 4, 5, 6, 7, 8, 9, 10, 11, 12, 13, 0, 1, 2, 14, 15] rfl rfl ?_
        refine x_cZ (m := n) (i := k) (A := A) (B := n k) (by omega) hA (fun cf c h => h) ?_
        rw [un_id]
        refine x_ifb_eq 33 C eX6_numberOfName_27 rfl (fun h27 => ?_) (fun h27 => ?_)
        · refine x_iinc [_, _, _, _, _] C eX6_numberOfName_33 rfl rfl rfl ?_
          refine x_goto (pc' := 3) C eX6_numberOfName_36 rfl ?_
          refine x_pick [_, _, _, _, _, _] [4, 5, 0, 1, 2, 3] rfl rfl ?_
          refine ih (k + 1) (by omega) (by omega) ?_
          rw [h2, show (n (-1) 0).toNat - k = ((n (-1) 0).toNat - (k + 1)) + 1 by omega]
          exact srch_f (p := fun k => decide (tW Fb z s9 (e9 - s9).toNat = nam (n k 0))) (by rw [decide_eq_true_iff]; exact fun z9 => absurd (hit.mpr z9) (by assumption))
        · refine x_iload C eX6_numberOfName_30 rfl ?_
          refine x_iret (by first | rfl | exact (narZ (by omega)).1) C F eX6_numberOfName_32 () ?_ trivial (fun cf c h => ?_) (nle rfl) (nle rfl)
          · rw [h2, show (n (-1) 0).toNat - k = ((n (-1) 0).toNat - (k + 1)) + 1 by omega]
            exact congrArg (fun z => some (Value.int (zI z))) (srch_t (p := fun k => decide (tW Fb z s9 (e9 - s9).toNat = nam (n k 0))) (by rw [decide_eq_true_iff]; exact hit.mp (by assumption)))
          · exact WF_pick [4, 5, 0, 1, 2, 3] rfl rfl h
  refine x_iconst C eX6_numberOfName_0 ?_
  refine x_istore [_, _, _, _, _] C eX6_numberOfName_1 rfl rfl (nlt rfl) ?_
  refine x_pick [_, _, _, _, _, _] [0, 1, 2, 3, 4, 5] rfl rfl ?_
  exact loop 20 0 (by omega) (by omega) rfl

set_option maxHeartbeats 4000000 in
set_option maxRecDepth 100000 in
theorem s_X2_takeToken0 {G : Gm} {l : Launch} (hK : KG G) {pa tk tr qb ql q : Nat} {J P : Nat → Int} {b : Nat} {z : Int} {Fb : Nat → Int} {al lg : Nat} {M : Pool} {L : Int → Nat} {n : Net} {bb bl : Nat} {tz a9 : Int} {fB fL : Nat → Int} (hS : KS G) (hPM : PLw M) (hJb : 0 ≤ J 4 ∧ J 4 ≤ 1000) (hJk : 0 ≤ J 1 ∧ J 1 ≤ 17) (hP5 : -1 ≤ P 5 ∧ P 5 ≤ 5) (hg : -1 ≤ P 5 ∧ P 5 < n (-1) 0) (hP6 : -1 ≤ P 6 ∧ P 6 ≤ 5) (hz : 0 ≤ z ∧ z ≤ 400) (hF : ∀ j : Nat, -128 ≤ Fb j ∧ Fb j ≤ 127) (hn6 : 0 ≤ n (-1) 0 ∧ n (-1) 0 ≤ 6) (hl9 : a9 = 13 → ∀ i, 0 ≤ i → i < n (-1) 0 → -1 ≤ lnTo (n i) ∧ lnTo (n i) ≤ 100) (htz : 0 ≤ tz ∧ tz ≤ 60) (hwd : J 1 = 4 → (0 ≤ J 2 ∧ J 2 ≤ J 3 ∧ J 3 ≤ 400 ∧ J 3 - J 2 ≤ 6) ∧ ∀ j : Nat, J 2 ≤ (j : Int) → (j : Int) < J 3 → 97 ≤ byt Fb z (j : Int) ∧ byt Fb z (j : Int) ≤ 122) (h5 : a9 = 5 ∨ a9 = 7 ∨ a9 = 8 ∨ a9 = 10 ∨ a9 = 12 → 1 ≤ n (-1) 0) (h3 : a9 = 3 → n (-1) 0 < 6) (h17 : a9 = 17 → 0 ≤ P 6 ∧ P 6 < n (-1) 0) (hcap : a9 = 7 ∨ a9 = 8 → -1000 ≤ n (lst n) 1 ∧ n (lst n) 1 ≤ 1000) (hcap2 : a9 = 8 → -1000 ≤ n (lst n) 2 ∧ n (lst n) 2 ≤ 1000) (ha : P 4 = a9) (ha2 : 0 ≤ a9 ∧ a9 ≤ 20) (h3n : ¬ a9 = 3) : MX G l yX2_takeToken cX2_takeToken 1 (some .int) 11 0 0 [.ref pa] [ob pa 4 (paS tk tr qb ql) (P), ob tk 7 [some (.ref q), none, none, none, none] J, ob q 6 [some (.ref b), none] (fun _ => z), ar G 1 b 400 400 (Fb), PL G M, ob tr 8 (tkS al lg) (tkI n), arR G 5 al 6 (fun j => some (L (j : Int))), LFz G M L (n), LOG G lg n, ob qb 5 [some (.ref bb), none] (fun _ => tz), ar G 0 bb 60 (tz).toNat (fB), ob ql 5 [some (.ref bl), none] (fun _ => tz), ar G 0 bl 60 (tz).toNat (fL)] (fun _ : Pool => some (.int (zI (stC a9 J P n tz)))) (fun M2 => (∀ y ∈ M, y ∈ M2) ∧ PLw M2) (fun M2 => [ob pa 4 (paS tk tr qb ql) (stP a9 J P), ob tk 7 [some (.ref q), none, none, none, none] J, ob q 6 [some (.ref b), none] (fun _ => z), ar G 1 b 400 400 (Fb), PL G M2, TC G M2 tr L (stN a9 (wnum (tW Fb z (J 2) (J 3 - J 2).toNat)) J P n) (stC a9 J P n tz), ob qb 5 [some (.ref bb), none] (fun _ => adZ (stB a9 J tz) tz), ar G 0 bb 60 (adZ (stB a9 J tz) tz).toNat (adF (stB a9 J tz) tz fB (J 4)), ob ql 5 [some (.ref bl), none] (fun _ => adZ (stB a9 J tz) tz), ar G 0 bl 60 (adZ (stB a9 J tz) tz).toNat (adF (stB a9 J tz) tz fL (P 8))]) := by
  refine MX_of (lv := [some (.ref pa)]) hK (by decide +kernel) rfl (nle rfl) (fun X C F => ?_)
  have C : OKc G X l RX2 "takeToken" cX2_takeToken 1 (some .int) 11 0 0 := C
  refine x_aload_n C eX2_takeToken_0 rfl ?_
  refine x_getI 0 C f_RX2_42 eX2_takeToken_1 rfl rfl ?_
  try simp (disch := decide) only [up_s, up_n]
  rw [ha]
  have hsw : a9 = 0 ∨ a9 = 1 ∨ a9 = 2 ∨ a9 = 3 ∨ a9 = 4 ∨ a9 = 5 ∨ a9 = 6 ∨ a9 = 7 ∨ a9 = 8 ∨ a9 = 9 ∨ a9 = 10 ∨ a9 = 11 ∨ a9 = 12 ∨ a9 = 13 ∨ a9 = 14 ∨ a9 = 15 ∨ a9 = 16 ∨ a9 = 17 ∨ a9 = 18 ∨ a9 = 19 ∨ (a9 < 0 ∨ 19 < a9) := by omega
  rcases hsw with rfl | rfl | rfl | rfl | rfl | rfl | rfl | rfl | rfl | rfl | rfl | rfl | rfl | rfl | rfl | rfl | rfl | rfl | rfl | rfl | hsw
  · refine x_tabIn 100 C eX2_takeToken_4 (by decide) (by decide) (by decide) rfl rfl ?_
    refine x_aload_n C eX2_takeToken_100 rfl ?_
    refine x_bipush C eX2_takeToken_101 rfl ?_
    refine x_iconst C eX2_takeToken_103 ?_
    refine yV2r [_, _, _, _, _, _, _, _, _, _, _] [_, _, _, _, _, _, _, _, _, _, _, _, _] C (s_X2_takeKind hK hJk (by decide)) v_X2_takeKind vv_X2_takeKind s_RX2_97 eX2_takeToken_104 (fun _ _ h => WF_pick [0, 1, 2, 3, 4, 5, 6, 7, 8, 9, 10, 11, 12] rfl rfl h) (rcv 0 rfl) rfl (nle rfl) (nle rfl) (nle rfl) (nle rfl) rfl ?_
    refine x_iret (by first | rfl | exact (narZ (by omega)).1) C F eX2_takeToken_107 M rfl ⟨fun _ h => h, hPM⟩ (fun cf c h => ?_) (nle rfl) (nle rfl)
    have h1 := WF_cTC (m := n) (knC J 6) (R := [_, _, _, _, _, _, _, _, _]) (WF_pick [5, 6, 7, 8, 0, 1, 2, 3, 4, 9, 10, 11, 12] rfl rfl h)
    exact WF_pick [1, 2, 3, 4, 5, 0, 6, 7, 8, 9] rfl rfl h1
  · refine x_tabIn 108 C eX2_takeToken_4 (by decide) (by decide) (by decide) rfl rfl ?_
    refine x_aload_n C eX2_takeToken_108 rfl ?_
    refine yV0r [_, _, _, _, _, _, _, _, _, _] [_, _, _, _, _, _, _, _, _, _, _, _, _] C (s_X2_takeStatement hK hJk (by omega)) v_X2_takeStatement vv_X2_takeStatement s_RX2_101 eX2_takeToken_109 (fun _ _ h => WF_pick [0, 1, 5, 2, 3, 4, 6, 7, 8, 9, 10, 11, 12] rfl rfl h) (rcv 0 rfl) rfl (nle rfl) (nle rfl) (nle rfl) (nle rfl) rfl ?_
    refine x_iret (by first | rfl | exact (narZ (by omega)).1) C F eX2_takeToken_112 M rfl ⟨fun _ h => h, hPM⟩ (fun cf c h => ?_) (nle rfl) (nle rfl)
    have h1 := WF_cTC (m := n) (tsC J n) (R := [_, _, _, _, _, _, _, _, _]) (WF_pick [2, 6, 7, 8, 0, 1, 3, 4, 5, 9, 10, 11, 12] rfl rfl h)
    exact WF_pick [1, 2, 3, 4, 5, 0, 6, 7, 8, 9] rfl rfl h1
  · refine x_tabIn 113 C eX2_takeToken_4 (by decide) (by decide) (by decide) rfl rfl ?_
    refine x_aload_n C eX2_takeToken_113 rfl ?_
    refine yV0r [_, _, _, _, _, _, _, _, _, _, _] [_, _, _, _, _, _, _, _, _, _, _, _, _] C (s_X2_takeStatementEnd hK hJk) v_X2_takeStatementEnd vv_X2_takeStatementEnd s_RX2_104 eX2_takeToken_114 (fun _ _ h => WF_pick [0, 1, 2, 3, 4, 5, 6, 7, 8, 9, 10, 11, 12] rfl rfl h) (rcv 0 rfl) rfl (nle rfl) (nle rfl) (nle rfl) (nle rfl) rfl ?_
    refine x_iret (by first | rfl | exact (narZ (by omega)).1) C F eX2_takeToken_117 M rfl ⟨fun _ h => h, hPM⟩ (fun cf c h => ?_) (nle rfl) (nle rfl)
    have h1 := WF_cTC (m := n) (knC J 2) (R := [_, _, _, _, _, _, _, _, _]) (WF_pick [5, 6, 7, 8, 0, 1, 2, 3, 4, 9, 10, 11, 12] rfl rfl h)
    exact WF_pick [1, 2, 3, 4, 5, 0, 6, 7, 8, 9] rfl rfl h1
  · refine x_tabIn 118 C eX2_takeToken_4 (by decide) (by decide) (by decide) rfl rfl ?_
    exact absurd rfl h3n
  · refine x_tabIn 123 C eX2_takeToken_4 (by decide) (by decide) (by decide) rfl rfl ?_
    refine x_aload_n C eX2_takeToken_123 rfl ?_
    refine x_bipush C eX2_takeToken_124 rfl ?_
    refine x_iconst C eX2_takeToken_126 ?_
    refine yV2r [_, _, _, _, _, _, _, _, _, _, _] [_, _, _, _, _, _, _, _, _, _, _, _, _] C (s_X2_takeKind hK hJk (by decide)) v_X2_takeKind vv_X2_takeKind s_RX2_97 eX2_takeToken_127 (fun _ _ h => WF_pick [0, 1, 2, 3, 4, 5, 6, 7, 8, 9, 10, 11, 12] rfl rfl h) (rcv 0 rfl) rfl (nle rfl) (nle rfl) (nle rfl) (nle rfl) rfl ?_
    refine x_iret (by first | rfl | exact (narZ (by omega)).1) C F eX2_takeToken_130 M rfl ⟨fun _ h => h, hPM⟩ (fun cf c h => ?_) (nle rfl) (nle rfl)
    have h1 := WF_cTC (m := n) (knC J 7) (R := [_, _, _, _, _, _, _, _, _]) (WF_pick [5, 6, 7, 8, 0, 1, 2, 3, 4, 9, 10, 11, 12] rfl rfl h)
    exact WF_pick [1, 2, 3, 4, 5, 0, 6, 7, 8, 9] rfl rfl h1
  · refine x_tabIn 131 C eX2_takeToken_4 (by decide) (by decide) (by decide) rfl rfl ?_
    refine x_aload_n C eX2_takeToken_131 rfl ?_
    refine yV0r [_, _, _, _, _, _, _] [_, _, _, _, _, _, _, _, _, _, _, _, _] C (s_X2_takeCapacity hK hJb hJk ⟨h5 (by omega), hn6.2⟩) v_X2_takeCapacity vv_X2_takeCapacity s_RX2_110 eX2_takeToken_132 (fun _ _ h => WF_pick [0, 1, 5, 6, 7, 8, 2, 3, 4, 9, 10, 11, 12] rfl rfl h) (rcv 0 rfl) rfl (nle rfl) (nle rfl) (nle rfl) (nle rfl) rfl ?_
    refine x_iret (by first | rfl | exact (narZ (by omega)).1) C F eX2_takeToken_135 M rfl ⟨fun _ h => h, hPM⟩ (fun cf c h => ?_) (nle rfl) (nle rfl)
    have hl9 : 0 ≤ lst n := by have := h5 (by omega); unfold lst; omega
    have h1 := WF_cTCu (m := n) (i := lst n) (B := ub (n (lst n)) 1 (J 4)) (tnC J 4 60) (by omega) (R := [_, _, _, _, _, _, _, _, _]) (WF_pick [2, 3, 4, 5, 0, 1, 6, 7, 8, 9, 10, 11, 12] rfl rfl h)
    exact WF_pick [1, 2, 3, 4, 5, 0, 6, 7, 8, 9] rfl rfl h1
  · refine x_tabIn 136 C eX2_takeToken_4 (by decide) (by decide) (by decide) rfl rfl ?_
    refine x_aload_n C eX2_takeToken_136 rfl ?_
    refine x_bipush C eX2_takeToken_137 rfl ?_
    refine x_bipush C eX2_takeToken_139 rfl ?_
    refine yV2r [_, _, _, _, _, _, _, _, _, _, _] [_, _, _, _, _, _, _, _, _, _, _, _, _] C (s_X2_takeKind hK hJk (by decide)) v_X2_takeKind vv_X2_takeKind s_RX2_97 eX2_takeToken_141 (fun _ _ h => WF_pick [0, 1, 2, 3, 4, 5, 6, 7, 8, 9, 10, 11, 12] rfl rfl h) (rcv 0 rfl) rfl (nle rfl) (nle rfl) (nle rfl) (nle rfl) rfl ?_
    refine x_iret (by first | rfl | exact (narZ (by omega)).1) C F eX2_takeToken_144 M rfl ⟨fun _ h => h, hPM⟩ (fun cf c h => ?_) (nle rfl) (nle rfl)
    have h1 := WF_cTC (m := n) (knC J 8) (R := [_, _, _, _, _, _, _, _, _]) (WF_pick [5, 6, 7, 8, 0, 1, 2, 3, 4, 9, 10, 11, 12] rfl rfl h)
    exact WF_pick [1, 2, 3, 4, 5, 0, 6, 7, 8, 9] rfl rfl h1
  · refine x_tabIn 145 C eX2_takeToken_4 (by decide) (by decide) (by decide) rfl rfl ?_
    refine x_aload_n C eX2_takeToken_145 rfl ?_
    refine yV0r [_, _, _, _, _, _, _] [_, _, _, _, _, _, _, _, _, _, _, _, _] C (s_X2_takeLowMark hK hJb hJk ⟨h5 (by omega), hn6.2⟩ (hcap (by omega))) v_X2_takeLowMark vv_X2_takeLowMark s_RX2_113 eX2_takeToken_146 (fun _ _ h => WF_pick [0, 1, 5, 6, 7, 8, 2, 3, 4, 9, 10, 11, 12] rfl rfl h) (rcv 0 rfl) rfl (nle rfl) (nle rfl) (nle rfl) (nle rfl) rfl ?_
    refine x_iret (by first | rfl | exact (narZ (by omega)).1) C F eX2_takeToken_149 M rfl ⟨fun _ h => h, hPM⟩ (fun cf c h => ?_) (nle rfl) (nle rfl)
    have hl9 : 0 ≤ lst n := by have := h5 (by omega); unfold lst; omega
    have h1 := WF_cTCu (m := n) (i := lst n) (B := ub (n (lst n)) 2 (J 4)) (tnC J 0 (n (lst n) 1 - 1)) (by omega) (R := [_, _, _, _, _, _, _, _, _]) (WF_pick [2, 3, 4, 5, 0, 1, 6, 7, 8, 9, 10, 11, 12] rfl rfl h)
    exact WF_pick [1, 2, 3, 4, 5, 0, 6, 7, 8, 9] rfl rfl h1
  · refine x_tabIn 150 C eX2_takeToken_4 (by decide) (by decide) (by decide) rfl rfl ?_
    refine x_aload_n C eX2_takeToken_150 rfl ?_
    refine yV0r [_, _, _, _, _, _, _] [_, _, _, _, _, _, _, _, _, _, _, _, _] C (s_X2_takeHighMark hK hJb hJk ⟨h5 (by omega), hn6.2⟩ (hcap (by omega)) (hcap2 rfl)) v_X2_takeHighMark vv_X2_takeHighMark s_RX2_116 eX2_takeToken_151 (fun _ _ h => WF_pick [0, 1, 5, 6, 7, 8, 2, 3, 4, 9, 10, 11, 12] rfl rfl h) (rcv 0 rfl) rfl (nle rfl) (nle rfl) (nle rfl) (nle rfl) rfl ?_
    refine x_iret (by first | rfl | exact (narZ (by omega)).1) C F eX2_takeToken_154 M rfl ⟨fun _ h => h, hPM⟩ (fun cf c h => ?_) (nle rfl) (nle rfl)
    have hl9 : 0 ≤ lst n := by have := h5 (by omega); unfold lst; omega
    have h1 := WF_cTCu (m := n) (i := lst n) (B := ub (n (lst n)) 3 (J 4)) (tnC J (n (lst n) 2 + 1) (n (lst n) 1)) (by omega) (R := [_, _, _, _, _, _, _, _, _]) (WF_pick [2, 3, 4, 5, 0, 1, 6, 7, 8, 9, 10, 11, 12] rfl rfl h)
    exact WF_pick [1, 2, 3, 4, 5, 0, 6, 7, 8, 9] rfl rfl h1
  · refine x_tabIn 155 C eX2_takeToken_4 (by decide) (by decide) (by decide) rfl rfl ?_
    refine x_aload_n C eX2_takeToken_155 rfl ?_
    refine x_bipush C eX2_takeToken_156 rfl ?_
    refine x_bipush C eX2_takeToken_158 rfl ?_
    refine yV2r [_, _, _, _, _, _, _, _, _, _, _] [_, _, _, _, _, _, _, _, _, _, _, _, _] C (s_X2_takeKind hK hJk (by decide)) v_X2_takeKind vv_X2_takeKind s_RX2_97 eX2_takeToken_160 (fun _ _ h => WF_pick [0, 1, 2, 3, 4, 5, 6, 7, 8, 9, 10, 11, 12] rfl rfl h) (rcv 0 rfl) rfl (nle rfl) (nle rfl) (nle rfl) (nle rfl) rfl ?_
    refine x_iret (by first | rfl | exact (narZ (by omega)).1) C F eX2_takeToken_163 M rfl ⟨fun _ h => h, hPM⟩ (fun cf c h => ?_) (nle rfl) (nle rfl)
    have h1 := WF_cTC (m := n) (knC J 9) (R := [_, _, _, _, _, _, _, _, _]) (WF_pick [5, 6, 7, 8, 0, 1, 2, 3, 4, 9, 10, 11, 12] rfl rfl h)
    exact WF_pick [1, 2, 3, 4, 5, 0, 6, 7, 8, 9] rfl rfl h1
  · refine x_tabIn 164 C eX2_takeToken_4 (by decide) (by decide) (by decide) rfl rfl ?_
    refine x_aload_n C eX2_takeToken_164 rfl ?_
    refine yV0r [_, _, _, _, _, _, _] [_, _, _, _, _, _, _, _, _, _, _, _, _] C (s_X2_takeShare hK hJb hJk ⟨h5 (by omega), hn6.2⟩) v_X2_takeShare vv_X2_takeShare s_RX2_119 eX2_takeToken_165 (fun _ _ h => WF_pick [0, 1, 5, 6, 7, 8, 2, 3, 4, 9, 10, 11, 12] rfl rfl h) (rcv 0 rfl) rfl (nle rfl) (nle rfl) (nle rfl) (nle rfl) rfl ?_
    refine x_iret (by first | rfl | exact (narZ (by omega)).1) C F eX2_takeToken_168 M rfl ⟨fun _ h => h, hPM⟩ (fun cf c h => ?_) (nle rfl) (nle rfl)
    have hl9 : 0 ≤ lst n := by have := h5 (by omega); unfold lst; omega
    have h1 := WF_cTCu (m := n) (i := lst n) (B := ub (n (lst n)) 4 (J 4)) (tnC J 1 9) (by omega) (R := [_, _, _, _, _, _, _, _, _]) (WF_pick [2, 3, 4, 5, 0, 1, 6, 7, 8, 9, 10, 11, 12] rfl rfl h)
    exact WF_pick [1, 2, 3, 4, 5, 0, 6, 7, 8, 9] rfl rfl h1
  · refine x_tabIn 169 C eX2_takeToken_4 (by decide) (by decide) (by decide) rfl rfl ?_
    refine x_aload_n C eX2_takeToken_169 rfl ?_
    refine x_getR 0 C f_RX2_26 eX2_takeToken_170 rfl rfl ?_
    refine x_getI 1 C f_RX2_50 eX2_takeToken_173 rfl rfl ?_
    try simp (disch := decide) only [up_s, up_n]
    refine x_bipush C eX2_takeToken_176 rfl ?_
    refine x_icmp_ne 192 C eX2_takeToken_178 rfl (by omega) (by omega) (fun h178 => ?_) (fun h178 => ?_)
    · refine x_aload_n C eX2_takeToken_192 rfl ?_
      refine yV0r [_, _, _, _, _, _, _, _, _, _, _] [_, _, _, _, _, _, _, _, _, _, _, _, _] C (s_X2_takeStatementEnd hK hJk) v_X2_takeStatementEnd vv_X2_takeStatementEnd s_RX2_104 eX2_takeToken_193 (fun _ _ h => WF_pick [0, 1, 2, 3, 4, 5, 6, 7, 8, 9, 10, 11, 12] rfl rfl h) (rcv 0 rfl) rfl (nle rfl) (nle rfl) (nle rfl) (nle rfl) rfl ?_
      refine x_iret (by first | rfl | exact (narZ (by omega)).1) C F eX2_takeToken_196 M (by first | (show _ = some (Value.int (zI (knC J 10))); rw [show stC 11 J P n tz = (if J 1 = 10 then 0 else knC J 2) from rfl, if_pos (by omega), knC, if_pos (by omega)]) | (rw [show stC 11 J P n tz = (if J 1 = 10 then 0 else knC J 2) from rfl, if_neg (by omega)])) ⟨fun _ h => h, hPM⟩ (fun cf c h => ?_) (nle rfl) (nle rfl)
      first
        | (have eP : stP 11 J P = up P 4 12 := by show up P 4 (if J 1 = 10 then 12 else 1) = _; rw [if_pos (by omega)]
           rw [eP]
           have h1 := WF_cTC (m := n) (stC 11 J P n tz) (R := [_, _, _, _, _, _, _, _, _]) (WF_pick [5, 6, 7, 8, 0, 1, 2, 3, 4, 9, 10, 11, 12] rfl rfl h)
           exact WF_pick [1, 2, 3, 4, 5, 0, 6, 7, 8, 9] rfl rfl h1)
        | (have eP : stP 11 J P = up P 4 1 := by show up P 4 (if J 1 = 10 then 12 else 1) = _; rw [if_neg (by omega)]
           rw [eP]
           have h1 := WF_cTC (m := n) (stC 11 J P n tz) (R := [_, _, _, _, _, _, _, _, _]) (WF_pick [5, 6, 7, 8, 0, 1, 2, 3, 4, 9, 10, 11, 12] rfl rfl h)
           exact WF_pick [1, 2, 3, 4, 5, 0, 6, 7, 8, 9] rfl rfl h1)
    · refine x_aload_n C eX2_takeToken_181 rfl ?_
      refine x_bipush C eX2_takeToken_182 rfl ?_
      refine x_bipush C eX2_takeToken_184 rfl ?_
      refine yV2r [_, _, _, _, _, _, _, _, _, _, _] [_, _, _, _, _, _, _, _, _, _, _, _, _] C (s_X2_takeKind hK hJk (by decide)) v_X2_takeKind vv_X2_takeKind s_RX2_97 eX2_takeToken_186 (fun _ _ h => WF_pick [0, 1, 2, 3, 4, 5, 6, 7, 8, 9, 10, 11, 12] rfl rfl h) (rcv 0 rfl) rfl (nle rfl) (nle rfl) (nle rfl) (nle rfl) rfl ?_
      refine x_goto (pc' := 196) C eX2_takeToken_189 rfl ?_
      refine x_iret (by first | rfl | exact (narZ (by omega)).1) C F eX2_takeToken_196 M (by first | (show _ = some (Value.int (zI (knC J 10))); rw [show stC 11 J P n tz = (if J 1 = 10 then 0 else knC J 2) from rfl, if_pos (by omega), knC, if_pos (by omega)]) | (rw [show stC 11 J P n tz = (if J 1 = 10 then 0 else knC J 2) from rfl, if_neg (by omega)])) ⟨fun _ h => h, hPM⟩ (fun cf c h => ?_) (nle rfl) (nle rfl)
      first
        | (have eP : stP 11 J P = up P 4 12 := by show up P 4 (if J 1 = 10 then 12 else 1) = _; rw [if_pos (by omega)]
           rw [eP]
           have h1 := WF_cTC (m := n) (stC 11 J P n tz) (R := [_, _, _, _, _, _, _, _, _]) (WF_pick [5, 6, 7, 8, 0, 1, 2, 3, 4, 9, 10, 11, 12] rfl rfl h)
           exact WF_pick [1, 2, 3, 4, 5, 0, 6, 7, 8, 9] rfl rfl h1)
        | (have eP : stP 11 J P = up P 4 1 := by show up P 4 (if J 1 = 10 then 12 else 1) = _; rw [if_neg (by omega)]
           rw [eP]
           have h1 := WF_cTC (m := n) (stC 11 J P n tz) (R := [_, _, _, _, _, _, _, _, _]) (WF_pick [5, 6, 7, 8, 0, 1, 2, 3, 4, 9, 10, 11, 12] rfl rfl h)
           exact WF_pick [1, 2, 3, 4, 5, 0, 6, 7, 8, 9] rfl rfl h1)
  · refine x_tabIn 197 C eX2_takeToken_4 (by decide) (by decide) (by decide) rfl rfl ?_
    refine x_aload_n C eX2_takeToken_197 rfl ?_
    refine yV0r [_, _, _, _, _, _, _] [_, _, _, _, _, _, _, _, _, _, _, _, _] C (s_X2_takeEcho hK hJk ⟨h5 (by omega), hn6.2⟩) v_X2_takeEcho vv_X2_takeEcho s_RX2_122 eX2_takeToken_198 (fun _ _ h => WF_pick [0, 1, 5, 6, 7, 8, 2, 3, 4, 9, 10, 11, 12] rfl rfl h) (rcv 0 rfl) rfl (nle rfl) (nle rfl) (nle rfl) (nle rfl) rfl ?_
    refine x_iret (by first | rfl | exact (narZ (by omega)).1) C F eX2_takeToken_201 M rfl ⟨fun _ h => h, hPM⟩ (fun cf c h => ?_) (nle rfl) (nle rfl)
    have hl9 : 0 ≤ lst n := by have := h5 (by omega); unfold lst; omega
    by_cases hec : ecC J = 0
    · rw [if_pos hec] at h
      have eN : stN 12 (wnum (tW Fb z (J 2) (J 3 - J 2).toNat)) J P n = un n (lst n) (ub (n (lst n)) 5 (J 1 - 11)) := if_pos hec
      rw [eN]
      have h1 := WF_cTCu (m := n) (i := lst n) (B := ub (n (lst n)) 5 (J 1 - 11)) (ecC J) (by omega) (R := [_, _, _, _, _, _, _, _, _]) (WF_pick [2, 3, 4, 5, 0, 1, 6, 7, 8, 9, 10, 11, 12] rfl rfl h)
      exact WF_pick [1, 2, 3, 4, 5, 0, 6, 7, 8, 9] rfl rfl h1
    · rw [if_neg hec] at h
      have eN : stN 12 (wnum (tW Fb z (J 2) (J 3 - J 2).toNat)) J P n = n := if_neg hec
      rw [eN]
      have h1 := WF_cTC (m := n) (ecC J) (R := [_, _, _, _, _, _, _, _, _]) (WF_pick [2, 3, 4, 5, 0, 1, 6, 7, 8, 9, 10, 11, 12] rfl rfl h)
      exact WF_pick [1, 2, 3, 4, 5, 0, 6, 7, 8, 9] rfl rfl h1
  · refine x_tabIn 202 C eX2_takeToken_4 (by decide) (by decide) (by decide) rfl rfl ?_
    refine x_aload_n C eX2_takeToken_202 rfl ?_
    refine yV0r [_, _, _, _, _, _, _] [_, _, _, _, _, _, _, _, _, _, _, _, _] C (s_X2_takeLender hK hJk hP5 (by omega) (by omega) (hl9 rfl)) v_X2_takeLender vv_X2_takeLender s_RX2_125 eX2_takeToken_203 (fun _ _ h => WF_pick [0, 1, 5, 6, 7, 8, 2, 3, 4, 9, 10, 11, 12] rfl rfl h) (rcv 0 rfl) rfl (nle rfl) (nle rfl) (nle rfl) (nle rfl) rfl ?_
    refine x_iret (by first | rfl | exact (narZ (by omega)).1) C F eX2_takeToken_206 M rfl ⟨fun _ h => h, hPM⟩ (fun cf c h => ?_) (nle rfl) (nle rfl)
    have h1 := WF_cTC (m := n) (leC J P n) (R := [_, _, _, _, _, _, _, _, _]) (WF_pick [2, 3, 4, 5, 0, 1, 6, 7, 8, 9, 10, 11, 12] rfl rfl h)
    exact WF_pick [1, 2, 3, 4, 5, 0, 6, 7, 8, 9] rfl rfl h1
  · refine x_tabIn 207 C eX2_takeToken_4 (by decide) (by decide) (by decide) rfl rfl ?_
    refine x_aload_n C eX2_takeToken_207 rfl ?_
    refine x_bipush C eX2_takeToken_208 rfl ?_
    refine x_bipush C eX2_takeToken_210 rfl ?_
    refine yV2r [_, _, _, _, _, _, _, _, _, _, _] [_, _, _, _, _, _, _, _, _, _, _, _, _] C (s_X2_takeKind hK hJk (by decide)) v_X2_takeKind vv_X2_takeKind s_RX2_97 eX2_takeToken_212 (fun _ _ h => WF_pick [0, 1, 2, 3, 4, 5, 6, 7, 8, 9, 10, 11, 12] rfl rfl h) (rcv 0 rfl) rfl (nle rfl) (nle rfl) (nle rfl) (nle rfl) rfl ?_
    refine x_iret (by first | rfl | exact (narZ (by omega)).1) C F eX2_takeToken_215 M rfl ⟨fun _ h => h, hPM⟩ (fun cf c h => ?_) (nle rfl) (nle rfl)
    have h1 := WF_cTC (m := n) (knC J 15) (R := [_, _, _, _, _, _, _, _, _]) (WF_pick [5, 6, 7, 8, 0, 1, 2, 3, 4, 9, 10, 11, 12] rfl rfl h)
    exact WF_pick [1, 2, 3, 4, 5, 0, 6, 7, 8, 9] rfl rfl h1
  · refine x_tabIn 216 C eX2_takeToken_4 (by decide) (by decide) (by decide) rfl rfl ?_
    refine x_aload_n C eX2_takeToken_216 rfl ?_
    refine yV0r [_, _, _, _, _, _, _, _, _, _, _] [_, _, _, _, _, _, _, _, _, _, _, _, _] C (s_X2_takeBorrower hK hJk hP5 hP6) v_X2_takeBorrower vv_X2_takeBorrower s_RX2_128 eX2_takeToken_217 (fun _ _ h => WF_pick [0, 1, 2, 3, 4, 5, 6, 7, 8, 9, 10, 11, 12] rfl rfl h) (rcv 0 rfl) rfl (nle rfl) (nle rfl) (nle rfl) (nle rfl) rfl ?_
    refine x_iret (by first | rfl | exact (narZ (by omega)).1) C F eX2_takeToken_220 M rfl ⟨fun _ h => h, hPM⟩ (fun cf c h => ?_) (nle rfl) (nle rfl)
    have h1 := WF_cTC (m := n) (boC J P) (R := [_, _, _, _, _, _, _, _, _]) (WF_pick [5, 6, 7, 8, 0, 1, 2, 3, 4, 9, 10, 11, 12] rfl rfl h)
    exact WF_pick [1, 2, 3, 4, 5, 0, 6, 7, 8, 9] rfl rfl h1
  · refine x_tabIn 221 C eX2_takeToken_4 (by decide) (by decide) (by decide) rfl rfl ?_
    refine x_aload_n C eX2_takeToken_221 rfl ?_
    refine x_bipush C eX2_takeToken_222 rfl ?_
    refine x_bipush C eX2_takeToken_224 rfl ?_
    refine yV2r [_, _, _, _, _, _, _, _, _, _, _] [_, _, _, _, _, _, _, _, _, _, _, _, _] C (s_X2_takeKind hK hJk (by decide)) v_X2_takeKind vv_X2_takeKind s_RX2_97 eX2_takeToken_226 (fun _ _ h => WF_pick [0, 1, 2, 3, 4, 5, 6, 7, 8, 9, 10, 11, 12] rfl rfl h) (rcv 0 rfl) rfl (nle rfl) (nle rfl) (nle rfl) (nle rfl) rfl ?_
    refine x_iret (by first | rfl | exact (narZ (by omega)).1) C F eX2_takeToken_229 M rfl ⟨fun _ h => h, hPM⟩ (fun cf c h => ?_) (nle rfl) (nle rfl)
    have h1 := WF_cTC (m := n) (knC J 16) (R := [_, _, _, _, _, _, _, _, _]) (WF_pick [5, 6, 7, 8, 0, 1, 2, 3, 4, 9, 10, 11, 12] rfl rfl h)
    exact WF_pick [1, 2, 3, 4, 5, 0, 6, 7, 8, 9] rfl rfl h1
  · refine x_tabIn 230 C eX2_takeToken_4 (by decide) (by decide) (by decide) rfl rfl ?_
    refine x_aload_n C eX2_takeToken_230 rfl ?_
    refine yV0x [_, _, _, _, _, _, _] C (s_X2_takeTurns hK hJb hJk (h17 rfl) (by omega)) v_X2_takeTurns vv_X2_takeTurns s_RX2_131 eX2_takeToken_231 (fun _ _ h => WF_pick [0, 1, 5, 6, 7, 8, 2, 3, 4, 9, 10, 11, 12] rfl rfl h) (rcv 0 rfl) rfl (nle rfl) (nle rfl) (nle rfl) (nle rfl) (fun u9 hu9 => ?_)
    refine x_iret (by first | rfl | exact (narZ (by omega)).1) C F eX2_takeToken_234 M rfl ⟨fun _ h => h, hPM⟩ (fun cf c h => ?_) (nle rfl) (nle rfl)
    exact WF_pick [0, 1, 3, 4, 5, 2, 6, 7, 8, 9] rfl rfl h
  · refine x_tabIn 235 C eX2_takeToken_4 (by decide) (by decide) (by decide) rfl rfl ?_
    refine x_aload_n C eX2_takeToken_235 rfl ?_
    refine yV0r [_, _, _, _, _, _, _, _, _, _, _] [_, _, _, _, _, _, _, _, _, _, _, _, _] C (s_X2_takeTypingLine hK hJk hP5) v_X2_takeTypingLine vv_X2_takeTypingLine s_RX2_134 eX2_takeToken_236 (fun _ _ h => WF_pick [0, 1, 2, 3, 4, 5, 6, 7, 8, 9, 10, 11, 12] rfl rfl h) (rcv 0 rfl) rfl (nle rfl) (nle rfl) (nle rfl) (nle rfl) rfl ?_
    refine x_iret (by first | rfl | exact (narZ (by omega)).1) C F eX2_takeToken_239 M rfl ⟨fun _ h => h, hPM⟩ (fun cf c h => ?_) (nle rfl) (nle rfl)
    have h1 := WF_cTC (m := n) (knm J P) (R := [_, _, _, _, _, _, _, _, _]) (WF_pick [5, 6, 7, 8, 0, 1, 2, 3, 4, 9, 10, 11, 12] rfl rfl h)
    exact WF_pick [1, 2, 3, 4, 5, 0, 6, 7, 8, 9] rfl rfl h1
  · refine x_tabIn 240 C eX2_takeToken_4 (by decide) (by decide) (by decide) rfl rfl ?_
    refine x_aload_n C eX2_takeToken_240 rfl ?_
    refine yV0r [_, _, _, _, _, _, _] [_, _, _, _, _, _, _, _, _, _, _, _, _] C (s_X2_takeTypedByte hK hJb hJk (by omega)) v_X2_takeTypedByte vv_X2_takeTypedByte s_RX2_137 eX2_takeToken_241 (fun _ _ h => WF_pick [0, 1, 9, 10, 11, 12, 2, 3, 4, 5, 6, 7, 8] rfl rfl h) (rcv 0 rfl) rfl (nle rfl) (nle rfl) (nle rfl) (nle rfl) rfl ?_
    refine x_iret (by first | rfl | exact (narZ (by omega)).1) C F eX2_takeToken_244 M rfl ⟨fun _ h => h, hPM⟩ (fun cf c h => ?_) (nle rfl) (nle rfl)
    have eB : stB 19 J tz = decide (tbC J tz = 0) := decide_eq_decide.mpr ⟨fun z => z.2, fun z => ⟨Or.inl rfl, z⟩⟩
    rw [eB]
    have h1 := WF_cTC (m := n) (tbC J tz) (R := [_, _, _, _, _, _, _, _, _]) (WF_pick [9, 10, 11, 12, 0, 1, 6, 7, 8, 2, 3, 4, 5] rfl rfl h)
    exact WF_pick [1, 2, 3, 4, 5, 0, 6, 7, 8, 9] rfl rfl h1
  · refine x_tabOut 245 C eX2_takeToken_4 (by omega) hsw rfl ?_
    obtain rfl : a9 = 20 := by omega
    refine x_aload_n C eX2_takeToken_245 rfl ?_
    refine x_getR 0 C f_RX2_26 eX2_takeToken_246 rfl rfl ?_
    refine x_getI 1 C f_RX2_50 eX2_takeToken_249 rfl rfl ?_
    try simp (disch := decide) only [up_s, up_n]
    refine x_iconst C eX2_takeToken_252 ?_
    refine x_icmp_ne 263 C eX2_takeToken_253 rfl (by omega) (by omega) (fun h253 => ?_) (fun h253 => ?_)
    · refine x_aload_n C eX2_takeToken_263 rfl ?_
      refine yV0r [_, _, _, _, _, _, _, _, _, _, _] [_, _, _, _, _, _, _, _, _, _, _, _, _] C (s_X2_takeStatementEnd hK hJk) v_X2_takeStatementEnd vv_X2_takeStatementEnd s_RX2_104 eX2_takeToken_264 (fun _ _ h => WF_pick [0, 1, 2, 3, 4, 5, 6, 7, 8, 9, 10, 11, 12] rfl rfl h) (rcv 0 rfl) rfl (nle rfl) (nle rfl) (nle rfl) (nle rfl) rfl ?_
      refine x_iret (by first | rfl | exact (narZ (by omega)).1) C F eX2_takeToken_267 M (by first | (rw [show stC 20 J P n tz = (if J 1 = 1 then tbC J tz else knC J 2) from rfl, if_pos (by omega)]) | (rw [show stC 20 J P n tz = (if J 1 = 1 then tbC J tz else knC J 2) from rfl, if_neg (by omega)])) ⟨fun _ h => h, hPM⟩ (fun cf c h => ?_) (nle rfl) (nle rfl)
      first
        | (have hJ1 : J 1 = 1 := by omega
           have eP : stP 20 J P = up P 4 20 := by show up P 4 (if J 1 = 1 then 20 else 1) = _; rw [if_pos hJ1]
           have eB : stB 20 J tz = decide (tbC J tz = 0) := decide_eq_decide.mpr ⟨fun z => z.2, fun z => ⟨Or.inr ⟨rfl, hJ1⟩, z⟩⟩
           rw [eP, eB]
           have h1 := WF_cTC (m := n) (stC 20 J P n tz) (R := [_, _, _, _, _, _, _, _, _]) (WF_pick [5, 6, 7, 8, 0, 1, 2, 3, 4, 9, 10, 11, 12] rfl rfl h)
           exact WF_pick [1, 2, 3, 4, 5, 0, 6, 7, 8, 9] rfl rfl h1)
        | (have hJ1 : ¬ J 1 = 1 := by omega
           have eP : stP 20 J P = up P 4 1 := by show up P 4 (if J 1 = 1 then 20 else 1) = _; rw [if_neg hJ1]
           have eB : stB 20 J tz = false := decide_eq_false (fun z => z.1.elim (fun z => absurd z (by decide)) (fun z => hJ1 z.2))
           rw [eP, eB]
           have h1 := WF_cTC (m := n) (stC 20 J P n tz) (R := [_, _, _, _, _, _, _, _, _]) (WF_pick [5, 6, 7, 8, 0, 1, 2, 3, 4, 9, 10, 11, 12] rfl rfl h)
           exact WF_pick [1, 2, 3, 4, 5, 0, 6, 7, 8, 9] rfl rfl h1)
    · refine x_aload_n C eX2_takeToken_256 rfl ?_
      refine yV0r [_, _, _, _, _, _, _] [_, _, _, _, _, _, _, _, _, _, _, _, _] C (s_X2_takeTypedByte hK hJb hJk (by omega)) v_X2_takeTypedByte vv_X2_takeTypedByte s_RX2_137 eX2_takeToken_257 (fun _ _ h => WF_pick [0, 1, 9, 10, 11, 12, 2, 3, 4, 5, 6, 7, 8] rfl rfl h) (rcv 0 rfl) rfl (nle rfl) (nle rfl) (nle rfl) (nle rfl) rfl ?_
      refine x_goto (pc' := 267) C eX2_takeToken_260 rfl ?_
      refine x_iret (by first | rfl | exact (narZ (by omega)).1) C F eX2_takeToken_267 M (by first | (rw [show stC 20 J P n tz = (if J 1 = 1 then tbC J tz else knC J 2) from rfl, if_pos (by omega)]) | (rw [show stC 20 J P n tz = (if J 1 = 1 then tbC J tz else knC J 2) from rfl, if_neg (by omega)])) ⟨fun _ h => h, hPM⟩ (fun cf c h => ?_) (nle rfl) (nle rfl)
      first
        | (have hJ1 : J 1 = 1 := by omega
           have eP : stP 20 J P = up P 4 20 := by show up P 4 (if J 1 = 1 then 20 else 1) = _; rw [if_pos hJ1]
           have eB : stB 20 J tz = decide (tbC J tz = 0) := decide_eq_decide.mpr ⟨fun z => z.2, fun z => ⟨Or.inr ⟨rfl, hJ1⟩, z⟩⟩
           rw [eP, eB]
           have h1 := WF_cTC (m := n) (stC 20 J P n tz) (R := [_, _, _, _, _, _, _, _, _]) (WF_pick [9, 10, 11, 12, 0, 1, 6, 7, 8, 2, 3, 4, 5] rfl rfl h)
           exact WF_pick [1, 2, 3, 4, 5, 0, 6, 7, 8, 9] rfl rfl h1)
        | (have hJ1 : ¬ J 1 = 1 := by omega
           have eP : stP 20 J P = up P 4 1 := by show up P 4 (if J 1 = 1 then 20 else 1) = _; rw [if_neg hJ1]
           have eB : stB 20 J tz = false := decide_eq_false (fun z => z.1.elim (fun z => absurd z (by decide)) (fun z => hJ1 z.2))
           rw [eP, eB]
           have h1 := WF_cTC (m := n) (stC 20 J P n tz) (R := [_, _, _, _, _, _, _, _, _]) (WF_pick [9, 10, 11, 12, 0, 1, 6, 7, 8, 2, 3, 4, 5] rfl rfl h)
           exact WF_pick [1, 2, 3, 4, 5, 0, 6, 7, 8, 9] rfl rfl h1)

set_option maxHeartbeats 4000000 in
set_option maxRecDepth 100000 in
theorem s_X2_parse {G : Gm} {l : Launch} (hK : KG G) {pa tk tr qb ql q : Nat} {J P : Nat → Int} {b : Nat} {z : Int} {Fb : Nat → Int} {M : Pool} {L : Int → Nat} {bb bl : Nat} {tz : Int} {fB fL : Nat → Int} {Im TL TB : Nat → Int} (hS : KS G) (hPM : PLw M) (hz : 0 ≤ z ∧ z ≤ 400) (hF : ∀ j : Nat, -128 ≤ Fb j ∧ Fb j ≤ 127) (h6 : Im 6 = z) (h11 : 0 ≤ Im 11 ∧ Im 11 ≤ 9999) (hJ4 : 0 ≤ J 4 ∧ J 4 ≤ 1000) (hP6 : -1 ≤ P 6 ∧ P 6 ≤ 5) : MX G l yX2_parse cX2_parse 4 (some .int) 12 28 210 [.ref pa] [ob pa 4 (paS tk tr qb ql) (P), ob tk 7 [some (.ref q), none, none, none, none] J, ob q 6 [some (.ref b), none] (fun _ => z), ar G 1 b 400 400 (Fb), PL G M, TG G tr L, ob qb 5 [some (.ref bb), none] (fun _ => tz), ar G 0 bb 60 (tz).toNat (fB), ob ql 5 [some (.ref bl), none] (fun _ => tz), ar G 0 bl 60 (tz).toNat (fL)] (fun _ : Pool × (Nat → Int) × (Nat → Int) × Net × Int × (Nat → Int) × (Nat → Int) => some (.int (zI ((ldR Fb Im TL TB).1 12)))) (fun x : Pool × (Nat → Int) × (Nat → Int) × Net × Int × (Nat → Int) × (Nat → Int) => (∀ y ∈ M, y ∈ x.1) ∧ PLw x.1 ∧ (¬ (ldR Fb Im TL TB).1 12 = 0 → (ldR Fb Im TL TB).1 13 = x.2.1 2) ∧ ((ldR Fb Im TL TB).1 12 = 0 → (ldR Fb Im TL TB).1 13 = -1 ∧ RelS x.2.2.2.1 (ldR Fb Im TL TB).2.1 ∧ x.2.2.2.2.1 = (ldR Fb Im TL TB).1 16 ∧ ∀ k : Nat, (k : Int) < x.2.2.2.2.1 → x.2.2.2.2.2.1 k = (ldR Fb Im TL TB).2.2.2 k ∧ x.2.2.2.2.2.2 k = (ldR Fb Im TL TB).2.2.1 k) ∧ (0 ≤ x.2.1 4 ∧ x.2.1 4 ≤ 1000) ∧ (-1 ≤ x.2.2.1 6 ∧ x.2.2.1 6 ≤ 5) ∧ (0 ≤ x.2.2.2.2.1 ∧ x.2.2.2.2.1 ≤ 60)) (fun x : Pool × (Nat → Int) × (Nat → Int) × Net × Int × (Nat → Int) × (Nat → Int) => [ob pa 4 (paS tk tr qb ql) x.2.2.1, ob tk 7 [some (.ref q), none, none, none, none] x.2.1, ob q 6 [some (.ref b), none] (fun _ => z), ar G 1 b 400 400 (Fb), PL G x.1, TC G x.1 tr L x.2.2.2.1 ((ldR Fb Im TL TB).1 12), ob qb 5 [some (.ref bb), none] (fun _ => x.2.2.2.2.1), ar G 0 bb 60 x.2.2.2.2.1.toNat x.2.2.2.2.2.1, ob ql 5 [some (.ref bl), none] (fun _ => x.2.2.2.2.1), ar G 0 bl 60 x.2.2.2.2.1.toNat x.2.2.2.2.2.2]) := by
  refine MX_of (lv := [some (.ref pa), none, none, none]) hK (by decide +kernel) rfl (by first | exact nle rfl | omega) (fun X C F => ?_)
  have C : OKc G X l RX2 "parse" cX2_parse 4 (some .int) 12 28 210 := C
  have tail : ∀ (i : Nat) (J2 P2 : Nat → Int) (n2 : Net) (M2 : Pool) (t2 : Int) (fB2 fL2 : Nat → Int) (al lg : Nat), SIM Fb z (ldR Fb Im TL TB) (P2 4) J2 P2 n2 t2 fB2 fL2 → J2 1 = 0 → (∀ y ∈ M, y ∈ M2) → PLw M2 → WX G X (4 * (n2 (-1) 0).toNat) (30 * (n2 (-1) 0).toNat) [ob pa 4 (paS tk tr qb ql) (P2), ob tk 7 [some (.ref q), none, none, none, none] (J2), ob q 6 [some (.ref b), none] (fun _ => z), ar G 1 b 400 400 (Fb), PL G M2, ob tr 8 (tkS al lg) (tkI (n2)), arR G 5 al 6 (fun j => some (L (j : Int))), LFz G M2 L (n2), LOG G lg (n2), ob qb 5 [some (.ref bb), none] (fun _ => t2), ar G 0 bb 60 (t2).toNat (fB2), ob ql 5 [some (.ref bl), none] (fun _ => t2), ar G 0 bl 60 (t2).toNat (fL2)] 141 [some (.ref pa), some (.int (zI (i : Int))), none, none] [] := by
    intro i J2 P2 n2 M2 t2 fB2 fL2 al lg hS2 hJ1 hMM hPM2
    have hh := SIM_hyps hS2
    have h64 := hh.2.2.2.1
    have hE := SIM_end hF hz.2 hS2 hJ1
    have hpo : (fun x : Pool × (Nat → Int) × (Nat → Int) × Net × Int × (Nat → Int) × (Nat → Int) => (∀ y ∈ M, y ∈ x.1) ∧ PLw x.1 ∧ (¬ (ldR Fb Im TL TB).1 12 = 0 → (ldR Fb Im TL TB).1 13 = x.2.1 2) ∧ ((ldR Fb Im TL TB).1 12 = 0 → (ldR Fb Im TL TB).1 13 = -1 ∧ RelS x.2.2.2.1 (ldR Fb Im TL TB).2.1 ∧ x.2.2.2.2.1 = (ldR Fb Im TL TB).1 16 ∧ ∀ k : Nat, (k : Int) < x.2.2.2.2.1 → x.2.2.2.2.2.1 k = (ldR Fb Im TL TB).2.2.2 k ∧ x.2.2.2.2.2.2 k = (ldR Fb Im TL TB).2.2.1 k) ∧ (0 ≤ x.2.1 4 ∧ x.2.1 4 ≤ 1000) ∧ (-1 ≤ x.2.2.1 6 ∧ x.2.2.1 6 ≤ 5) ∧ (0 ≤ x.2.2.2.2.1 ∧ x.2.2.2.2.1 ≤ 60)) (M2, J2, P2, n2, t2, fB2, fL2) := ⟨hMM, hPM2, fun r => (hE.2 (fun q => r (hE.1 q).1)).2, fun r => (hE.1 (Classical.byContradiction fun q => by have := (hE.2 q).1; omega)).2, hh.2.1, hh.2.2.1, hh.2.2.2.2.2.1⟩
    refine x_aload_n C eX2_parse_141 rfl ?_
    refine x_getI 0 C f_RX2_42 eX2_parse_142 rfl rfl ?_
    try simp (disch := decide) only [up_s, up_n, tkI_2, tkI_3, tkI_4, tkI_5, tkI_6, tkI_7, tkI_8, lnI_1, lnI_2, lnI_3, lnI_4, lnI_5, lnI_10, lnI_11, lnI_12, lnI_13, lnI_14, lnI_15, up_s]
    refine x_iconst C eX2_parse_145 ?_
    refine x_icmp_ne 153 C eX2_parse_146 rfl (by omega) (by omega) (fun h146 => ?_) (fun h146 => ?_)
    · refine x_iconst C eX2_parse_153 ?_
      refine x_iret (by first | rfl | exact (narZ (by omega)).1) C F eX2_parse_154 (M2, J2, P2, n2, t2, fB2, fL2) (by first | rw [(hE.1 (by omega)).1] | rw [(hE.2 (by omega)).1]) hpo (fun cf c h => ?_) (by first | exact nle rfl | omega) (by first | exact nle rfl | omega)
      have h1 := WF_cTC (m := n2) ((ldR Fb Im TL TB).1 12) (R := [_, _, _, _, _, _, _, _, _]) (WF_pick [5, 6, 7, 8, 0, 1, 2, 3, 4, 9, 10, 11, 12] rfl rfl h)
      exact WF_pick [1, 2, 3, 4, 5, 0, 6, 7, 8, 9] rfl rfl h1
    · refine x_iconst C eX2_parse_149 ?_
      refine x_goto (pc' := 154) C eX2_parse_150 rfl ?_
      refine x_iret (by first | rfl | exact (narZ (by omega)).1) C F eX2_parse_154 (M2, J2, P2, n2, t2, fB2, fL2) (by first | rw [(hE.1 (by omega)).1] | rw [(hE.2 (by omega)).1]) hpo (fun cf c h => ?_) (by first | exact nle rfl | omega) (by first | exact nle rfl | omega)
      have h1 := WF_cTC (m := n2) ((ldR Fb Im TL TB).1 12) (R := [_, _, _, _, _, _, _, _, _]) (WF_pick [5, 6, 7, 8, 0, 1, 2, 3, 4, 9, 10, 11, 12] rfl rfl h)
      exact WF_pick [1, 2, 3, 4, 5, 0, 6, 7, 8, 9] rfl rfl h1
  have loop : ∀ (f i : Nat) (J2 P2 : Nat → Int) (n2 : Net) (M2 : Pool) (t2 : Int) (fB2 fL2 : Nat → Int) (al lg : Nat), SIM Fb z (ldR Fb Im TL TB) (P2 4) J2 P2 n2 t2 fB2 fL2 → (i : Int) ≤ J2 2 → i ≤ 400 → 400 < i + f → (∀ y ∈ M, y ∈ M2) → PLw M2 → WX G X (4 * (n2 (-1) 0).toNat) (30 * (n2 (-1) 0).toNat) [ob pa 4 (paS tk tr qb ql) (P2), ob tk 7 [some (.ref q), none, none, none, none] (J2), ob q 6 [some (.ref b), none] (fun _ => z), ar G 1 b 400 400 (Fb), PL G M2, ob tr 8 (tkS al lg) (tkI (n2)), arR G 5 al 6 (fun j => some (L (j : Int))), LFz G M2 L (n2), LOG G lg (n2), ob qb 5 [some (.ref bb), none] (fun _ => t2), ar G 0 bb 60 (t2).toNat (fB2), ob ql 5 [some (.ref bl), none] (fun _ => t2), ar G 0 bl 60 (t2).toNat (fL2)] 36 [some (.ref pa), some (.int (zI (i : Int))), none, none] [] := by
    intro f
    induction f with
    | zero => intro i J2 P2 n2 M2 t2 fB2 fL2 al lg hS2 g1 g2 g3 hMM hPM2; exfalso; omega
    | succ f ih =>
      intro i J2 P2 n2 M2 t2 fB2 fL2 al lg hS2 g1 g2 g3 hMM hPM2
      have hh := SIM_hyps hS2
      have h64 := hh.2.2.2.1
      refine x_iload_n C eX2_parse_36 rfl ?_
      refine x_sipush C eX2_parse_37 rfl ?_
      refine x_icmp_ge 141 C eX2_parse_40 rfl (by omega) (by omega) (fun h40 => ?_) (fun h40 => ?_)
      · refine x_pick [_, _, _, _, _, _, _, _, _, _, _, _, _] [0, 1, 2, 3, 4, 5, 6, 7, 8, 9, 10, 11, 12] rfl rfl ?_
        exact tail i J2 P2 n2 M2 t2 fB2 fL2 al lg hS2 (Classical.byContradiction fun q => by have := hh.2.2.2.2.2.2.2.2.2.2.2.2.2.2 q; omega) hMM hPM2
      · refine x_aload_n C eX2_parse_43 rfl ?_
        refine x_getR 0 C f_RX2_26 eX2_parse_44 rfl rfl ?_
        refine x_getI 1 C f_RX2_50 eX2_parse_47 rfl rfl ?_
        try simp (disch := decide) only [up_s, up_n, tkI_2, tkI_3, tkI_4, tkI_5, tkI_6, tkI_7, tkI_8, lnI_1, lnI_2, lnI_3, lnI_4, lnI_5, lnI_10, lnI_11, lnI_12, lnI_13, lnI_14, lnI_15, up_s]
        refine x_if_eq 141 C eX2_parse_50 rfl (by omega) (fun h50 => ?_) (fun h50 => ?_)
        · refine x_pick [_, _, _, _, _, _, _, _, _, _, _, _, _] [0, 1, 2, 3, 4, 5, 6, 7, 8, 9, 10, 11, 12] rfl rfl ?_
          exact tail i J2 P2 n2 M2 t2 fB2 fL2 al lg hS2 (Classical.byContradiction fun q => by have := hh.2.2.2.2.2.2.2.2.2.2.2.2.2.2 q; omega) hMM hPM2
        · refine x_aload_n C eX2_parse_53 rfl ?_
          refine x_getR 0 C f_RX2_26 eX2_parse_54 rfl rfl ?_
          refine x_getI 1 C f_RX2_50 eX2_parse_57 rfl rfl ?_
          try simp (disch := decide) only [up_s, up_n, tkI_2, tkI_3, tkI_4, tkI_5, tkI_6, tkI_7, tkI_8, lnI_1, lnI_2, lnI_3, lnI_4, lnI_5, lnI_10, lnI_11, lnI_12, lnI_13, lnI_14, lnI_15, up_s]
          refine x_iconst C eX2_parse_60 ?_
          refine x_icmp_ne 68 C eX2_parse_61 rfl (by omega) (by omega) (fun h61 => ?_) (fun h61 => ?_)
          · skip
            refine x_iconst C eX2_parse_68 ?_
            refine x_istore_n [_, _, _, _] C eX2_parse_69 rfl rfl (nlt rfl) ?_
            refine x_aload_n C eX2_parse_70 rfl ?_
            refine x_iload_n C eX2_parse_71 rfl ?_
            refine x_if_eq 106 C eX2_parse_72 rfl (by omega) (fun h72 => ?_) (fun h72 => ?_)
            · refine x_iconst C eX2_parse_106 ?_
              refine x_putI [_, _, _, _, _, _, _, _, _, _, _, _, _] 0 C f_RX2_67 eX2_parse_107 rfl rfl rfl ?_
              refine x_aload_n C eX2_parse_110 rfl ?_
              have hb5 : -1 ≤ -1 ∧ -1 < n2 (-1) 0 := by omega
              have hS1 : SIM Fb z (ldR Fb Im TL TB) (P2 4) J2 (up P2 5 (-1)) n2 t2 fB2 fL2 := SIM_P5 hS2 (up_n (by decide)) (up_n (by decide)) (up_n (by decide))
              have hO := SIM_step hF hz.2 hS1 (fun _ => h50) (fun r => absurd r (by omega))
              obtain ⟨h_1, h_2, hp6, h_4, h_5, h_6, h_7, h_8, h_9, h_10, h_11, h_12, h_13, h_14, h_15⟩ := SIM_hyps hS1
              have h17b : P2 4 = 17 → 0 ≤ (up P2 5 (-1)) 6 ∧ (up P2 5 (-1)) 6 < n2 (-1) 0 := h_10
              have hcr := stC_r (a := P2 4) (J := J2) (P := up P2 5 (-1)) (n := n2) (z := t2)
              by_cases hq3 : P2 4 = 3
              · skip
                refine yV0x [] C (s_X2_takeToken hK (a9 := P2 4) hS hPM2 h_2 h_1 (by rw [up_s]; omega) (by rw [up_s]; exact hb5) hp6 hz hF h_4 h_5 h_6 (fun r => ⟨⟨((h_7 r).1).1, ((h_7 r).1).2.1, Int.le_trans ((h_7 r).1).2.2.1 hz.2, ((h_7 r).1).2.2.2⟩, (h_7 r).2⟩) h_8 h_9 h17b h_11 h_12 rfl h_13) v_X2_takeToken vv_X2_takeToken s_RX2_70 eX2_parse_111 (fun _ _ h => WF_pick [0, 1, 2, 3, 4, 5, 6, 7, 8, 9, 10, 11, 12] rfl rfl h) (rcv 0 rfl) rfl (by first | exact nle rfl | omega) (by first | exact nle rfl | omega) (by first | omega | exact nle rfl) (by first | omega | exact nle rfl) (fun M3 hM3 => ?_)
                refine x_istore_n [_, _, _, _] C eX2_parse_114 rfl rfl (nlt rfl) ?_
                refine x_iload_n C eX2_parse_115 rfl ?_
                refine x_if_eq 121 C eX2_parse_116 rfl (by omega) (fun h116 => ?_) (fun h116 => ?_)
                · refine x_oTC (by assumption) (R := [_, _, _, _, _, _, _, _, _]) (fun _ _ hw => WF_pick [5, 0, 1, 2, 3, 4, 6, 7, 8, 9] rfl rfl hw) (fun al3 lg3 => ?_)
                  refine x_aload_n C eX2_parse_121 rfl ?_
                  refine x_getR 4 C f_RX2_26 eX2_parse_122 rfl rfl ?_
                  refine x_aload_n C eX2_parse_125 rfl ?_
                  refine x_getR 4 C f_RX2_26 eX2_parse_126 rfl rfl ?_
                  refine x_getI 5 C f_RX2_60 eX2_parse_129 rfl rfl ?_
                  try simp (disch := decide) only [up_s, up_n, tkI_2, tkI_3, tkI_4, tkI_5, tkI_6, tkI_7, tkI_8, lnI_1, lnI_2, lnI_3, lnI_4, lnI_5, lnI_10, lnI_11, lnI_12, lnI_13, lnI_14, lnI_15, up_s]
                  refine yV1v [_, _, _, _, _, _, _, _, _] [_, _, _, _, _, _, _, _, _, _, _, _, _] C (s_X5_goTo hK hS hz hF (by omega)) v_X5_goTo vv_X5_goTo s_RX2_46 eX2_parse_132 (fun _ _ h => WF_pick [5, 6, 7, 8, 0, 1, 2, 3, 4, 9, 10, 11, 12] rfl rfl h) (rcv 5 rfl) rfl (by first | exact nle rfl | omega) (by first | exact nle rfl | omega) (by first | exact nle rfl | omega) (by first | exact nle rfl | omega) rfl ?_
                  refine x_iinc [_, _, _, _] C eX2_parse_135 rfl rfl rfl ?_
                  refine x_goto (pc' := 36) C eX2_parse_138 rfl ?_
                  have hc9 : stC (P2 4) J2 (up P2 5 (-1)) n2 t2 = 0 := by assumption
                  obtain ⟨hs9, hlt9⟩ := hO.2 hc9
                  have hcn : stN (P2 4) (wnum (tW Fb z (J2 2) (J2 3 - J2 2).toNat)) J2 (up P2 5 (-1)) n2 (-1) 0 = n2 (-1) 0 + 1 := by
                    rw [hq3]
                    have hc0 : nnC J2 (up P2 5 (-1)) = 0 := by have := hc9; rw [hq3] at this; exact this
                    show (if nnC J2 (up P2 5 (-1)) = 0 then nwN n2 (wnum (tW Fb z (J2 2) (J2 3 - J2 2).toNat)) else n2) (-1) 0 = _
                    rw [if_pos hc0]
                    unfold nwN
                    rw [un_n (by omega), un_s, ub_s]
                  have h9 := ih (i + 1) (tkN Fb z (J2 4) (J2 3)) (stP (P2 4) J2 (up P2 5 (-1))) (stN (P2 4) (wnum (tW Fb z (J2 2) (J2 3 - J2 2).toNat)) J2 (up P2 5 (-1)) n2) M3 (adZ (stB (P2 4) J2 t2) t2) (adF (stB (P2 4) J2 t2) t2 fB2 (J2 4)) (adF (stB (P2 4) J2 t2) t2 fL2 ((up P2 5 (-1)) 8)) al3 lg3 hs9 (by omega) (by omega) (by omega) (fun y hy => hM3.1 y (hMM y hy)) hM3.2
                  refine x_lv [_, _, none, none] rfl (lx_drop _ [2, 3] rfl) ?_
                  refine x_pick [_, _, _, _, _, _, _, _, _, _, _, _, _] [8, 0, 1, 2, 3, 4, 5, 6, 7, 9, 10, 11, 12] rfl rfl ?_
                  rw [hcn] at h9
                  first
                    | exact h9
                    | (rw [show (n2 (-1) 0 + 1).toNat = (n2 (-1) 0).toNat + 1 by omega, Nat.mul_add, Nat.mul_add] at h9
                       exact h9)
                · refine x_iload_n C eX2_parse_119 rfl ?_
                  have hne9 : ¬ stC (P2 4) J2 (up P2 5 (-1)) n2 t2 = 0 := by assumption
                  refine x_iret (by first | rfl | exact (narZ (by omega)).1) C F eX2_parse_120 (M3, J2, stP (P2 4) J2 (up P2 5 (-1)), stN (P2 4) (wnum (tW Fb z (J2 2) (J2 3 - J2 2).toNat)) J2 (up P2 5 (-1)) n2, adZ (stB (P2 4) J2 t2) t2, adF (stB (P2 4) J2 t2) t2 fB2 (J2 4), adF (stB (P2 4) J2 t2) t2 fL2 ((up P2 5 (-1)) 8)) (by show some (Value.int (zI ((ldR Fb Im TL TB).1 12))) = _; rw [(hO.1 hne9).1]) ⟨fun y hy => hM3.1 y (hMM y hy), hM3.2, fun _ => (hO.1 hne9).2, fun r => absurd ((hO.1 hne9).1.symm.trans r) hne9, h_2, stP_6 (by rw [up_s]; omega) hp6, adZ_r h_6⟩ (fun cf c h => ?_) (by omega) (by omega)
                  show WF [_, _, _, _, _, TC G M3 tr L _ ((ldR Fb Im TL TB).1 12), _, _, _, _] cf c
                  rw [(hO.1 hne9).1]
                  exact WF_pick [0, 1, 2, 3, 4, 5, 6, 7, 8, 9] rfl rfl h
              · skip
                refine yV0x [] C (s_X2_takeToken0 hK (a9 := P2 4) hS hPM2 h_2 h_1 (by rw [up_s]; omega) (by rw [up_s]; exact hb5) hp6 hz hF h_4 h_5 h_6 (fun r => ⟨⟨((h_7 r).1).1, ((h_7 r).1).2.1, Int.le_trans ((h_7 r).1).2.2.1 hz.2, ((h_7 r).1).2.2.2⟩, (h_7 r).2⟩) h_8 h_9 h17b h_11 h_12 rfl h_13 hq3) v_X2_takeToken vv_X2_takeToken s_RX2_70 eX2_parse_111 (fun _ _ h => WF_pick [0, 1, 2, 3, 4, 5, 6, 7, 8, 9, 10, 11, 12] rfl rfl h) (rcv 0 rfl) rfl (by first | exact nle rfl | omega) (by first | exact nle rfl | omega) (by first | omega | exact nle rfl) (by first | omega | exact nle rfl) (fun M3 hM3 => ?_)
                refine x_istore_n [_, _, _, _] C eX2_parse_114 rfl rfl (nlt rfl) ?_
                refine x_iload_n C eX2_parse_115 rfl ?_
                refine x_if_eq 121 C eX2_parse_116 rfl (by omega) (fun h116 => ?_) (fun h116 => ?_)
                · refine x_oTC (by assumption) (R := [_, _, _, _, _, _, _, _, _]) (fun _ _ hw => WF_pick [5, 0, 1, 2, 3, 4, 6, 7, 8, 9] rfl rfl hw) (fun al3 lg3 => ?_)
                  refine x_aload_n C eX2_parse_121 rfl ?_
                  refine x_getR 4 C f_RX2_26 eX2_parse_122 rfl rfl ?_
                  refine x_aload_n C eX2_parse_125 rfl ?_
                  refine x_getR 4 C f_RX2_26 eX2_parse_126 rfl rfl ?_
                  refine x_getI 5 C f_RX2_60 eX2_parse_129 rfl rfl ?_
                  try simp (disch := decide) only [up_s, up_n, tkI_2, tkI_3, tkI_4, tkI_5, tkI_6, tkI_7, tkI_8, lnI_1, lnI_2, lnI_3, lnI_4, lnI_5, lnI_10, lnI_11, lnI_12, lnI_13, lnI_14, lnI_15, up_s]
                  refine yV1v [_, _, _, _, _, _, _, _, _] [_, _, _, _, _, _, _, _, _, _, _, _, _] C (s_X5_goTo hK hS hz hF (by omega)) v_X5_goTo vv_X5_goTo s_RX2_46 eX2_parse_132 (fun _ _ h => WF_pick [5, 6, 7, 8, 0, 1, 2, 3, 4, 9, 10, 11, 12] rfl rfl h) (rcv 5 rfl) rfl (by first | exact nle rfl | omega) (by first | exact nle rfl | omega) (by first | exact nle rfl | omega) (by first | exact nle rfl | omega) rfl ?_
                  refine x_iinc [_, _, _, _] C eX2_parse_135 rfl rfl rfl ?_
                  refine x_goto (pc' := 36) C eX2_parse_138 rfl ?_
                  have hc9 : stC (P2 4) J2 (up P2 5 (-1)) n2 t2 = 0 := by assumption
                  obtain ⟨hs9, hlt9⟩ := hO.2 hc9
                  have hcn : stN (P2 4) (wnum (tW Fb z (J2 2) (J2 3 - J2 2).toNat)) J2 (up P2 5 (-1)) n2 (-1) 0 = n2 (-1) 0 := stN_0 h_8 (fun r => (h17b r).1) hq3
                  have h9 := ih (i + 1) (tkN Fb z (J2 4) (J2 3)) (stP (P2 4) J2 (up P2 5 (-1))) (stN (P2 4) (wnum (tW Fb z (J2 2) (J2 3 - J2 2).toNat)) J2 (up P2 5 (-1)) n2) M3 (adZ (stB (P2 4) J2 t2) t2) (adF (stB (P2 4) J2 t2) t2 fB2 (J2 4)) (adF (stB (P2 4) J2 t2) t2 fL2 ((up P2 5 (-1)) 8)) al3 lg3 hs9 (by omega) (by omega) (by omega) (fun y hy => hM3.1 y (hMM y hy)) hM3.2
                  refine x_lv [_, _, none, none] rfl (lx_drop _ [2, 3] rfl) ?_
                  refine x_pick [_, _, _, _, _, _, _, _, _, _, _, _, _] [8, 0, 1, 2, 3, 4, 5, 6, 7, 9, 10, 11, 12] rfl rfl ?_
                  rw [hcn] at h9
                  first
                    | exact h9
                    | (rw [show (n2 (-1) 0 + 1).toNat = (n2 (-1) 0).toNat + 1 by omega, Nat.mul_add, Nat.mul_add] at h9
                       exact h9)
                · refine x_iload_n C eX2_parse_119 rfl ?_
                  have hne9 : ¬ stC (P2 4) J2 (up P2 5 (-1)) n2 t2 = 0 := by assumption
                  refine x_iret (by first | rfl | exact (narZ (by omega)).1) C F eX2_parse_120 (M3, J2, stP (P2 4) J2 (up P2 5 (-1)), stN (P2 4) (wnum (tW Fb z (J2 2) (J2 3 - J2 2).toNat)) J2 (up P2 5 (-1)) n2, adZ (stB (P2 4) J2 t2) t2, adF (stB (P2 4) J2 t2) t2 fB2 (J2 4), adF (stB (P2 4) J2 t2) t2 fL2 ((up P2 5 (-1)) 8)) (by show some (Value.int (zI ((ldR Fb Im TL TB).1 12))) = _; rw [(hO.1 hne9).1]) ⟨fun y hy => hM3.1 y (hMM y hy), hM3.2, fun _ => (hO.1 hne9).2, fun r => absurd ((hO.1 hne9).1.symm.trans r) hne9, h_2, stP_6 (by rw [up_s]; omega) hp6, adZ_r h_6⟩ (fun cf c h => ?_) (by omega) (by omega)
                  show WF [_, _, _, _, _, TC G M3 tr L _ ((ldR Fb Im TL TB).1 12), _, _, _, _] cf c
                  rw [(hO.1 hne9).1]
                  exact WF_pick [0, 1, 2, 3, 4, 5, 6, 7, 8, 9] rfl rfl h
              
              
            · exfalso; omega
          · skip
            refine x_iconst C eX2_parse_64 ?_
            refine x_goto (pc' := 69) C eX2_parse_65 rfl ?_
            refine x_istore_n [_, _, _, _] C eX2_parse_69 rfl rfl (nlt rfl) ?_
            refine x_aload_n C eX2_parse_70 rfl ?_
            refine x_iload_n C eX2_parse_71 rfl ?_
            refine x_if_eq 106 C eX2_parse_72 rfl (by omega) (fun h72 => ?_) (fun h72 => ?_)
            · exfalso; omega
            · refine x_aload_n C eX2_parse_75 rfl ?_
              refine x_getR 0 C f_RX2_30 eX2_parse_76 rfl rfl ?_
              refine x_aload_n C eX2_parse_79 rfl ?_
              refine x_getR 0 C f_RX2_26 eX2_parse_80 rfl rfl ?_
              refine x_getR 1 C f_RX2_53 eX2_parse_83 rfl rfl ?_
              refine x_aload_n C eX2_parse_86 rfl ?_
              refine x_getR 0 C f_RX2_26 eX2_parse_87 rfl rfl ?_
              refine x_getI 1 C f_RX2_57 eX2_parse_90 rfl rfl ?_
              try simp (disch := decide) only [up_s, up_n, tkI_2, tkI_3, tkI_4, tkI_5, tkI_6, tkI_7, tkI_8, lnI_1, lnI_2, lnI_3, lnI_4, lnI_5, lnI_10, lnI_11, lnI_12, lnI_13, lnI_14, lnI_15, up_s]
              refine x_aload_n C eX2_parse_93 rfl ?_
              refine x_getR 0 C f_RX2_26 eX2_parse_94 rfl rfl ?_
              refine x_getI 1 C f_RX2_60 eX2_parse_97 rfl rfl ?_
              try simp (disch := decide) only [up_s, up_n, tkI_2, tkI_3, tkI_4, tkI_5, tkI_6, tkI_7, tkI_8, lnI_1, lnI_2, lnI_3, lnI_4, lnI_5, lnI_10, lnI_11, lnI_12, lnI_13, lnI_14, lnI_15, up_s]
              refine yV3r [_, _, _, _, _, _, _] [_, _, _, _, _, _, _, _, _, _, _, _, _] C (s_X6_numberOfNameZ hK hh.2.2.2.1 hS (PLok_of hS hPM2) namOk_pf hz hF (by omega)) v_X6_numberOfName vv_X6_numberOfName s_RX2_63 eX2_parse_100 (fun _ _ h => WF_pick [5, 6, 7, 2, 3, 4, 0, 1, 8, 9, 10, 11, 12] rfl rfl h) (rcv 5 rfl) rfl (by first | exact nle rfl | omega) (by first | exact nle rfl | omega) (by first | exact nle rfl | omega) (by first | exact nle rfl | omega) rfl ?_
              refine x_goto (pc' := 107) C eX2_parse_103 rfl ?_
              refine x_putI [_, _, _, _, _, _, _, _, _, _, _, _, _] 6 C f_RX2_67 eX2_parse_107 rfl rfl rfl ?_
              refine x_aload_n C eX2_parse_110 rfl ?_
              have hb5 : -1 ≤ srch (fun k => decide (tW Fb z (J2 2) (J2 3 - J2 2).toNat = nam (n2 k 0))) (n2 (-1) 0).toNat 0 ∧ srch (fun k => decide (tW Fb z (J2 2) (J2 3 - J2 2).toNat = nam (n2 k 0))) (n2 (-1) 0).toNat 0 < n2 (-1) 0 := by rcases srch_r (p := fun k => decide (tW Fb z (J2 2) (J2 3 - J2 2).toNat = nam (n2 k 0))) (n2 (-1) 0).toNat 0 with r | r <;> omega
              have hS1 : SIM Fb z (ldR Fb Im TL TB) (P2 4) J2 (up P2 5 (srch (fun k => decide (tW Fb z (J2 2) (J2 3 - J2 2).toNat = nam (n2 k 0))) (n2 (-1) 0).toNat 0)) n2 t2 fB2 fL2 := SIM_P5 hS2 (up_n (by decide)) (up_n (by decide)) (up_n (by decide))
              have hO := SIM_step hF hz.2 hS1 (fun _ => h50) (fun _ => up_s _ _ _)
              obtain ⟨h_1, h_2, hp6, h_4, h_5, h_6, h_7, h_8, h_9, h_10, h_11, h_12, h_13, h_14, h_15⟩ := SIM_hyps hS1
              have h17b : P2 4 = 17 → 0 ≤ (up P2 5 (srch (fun k => decide (tW Fb z (J2 2) (J2 3 - J2 2).toNat = nam (n2 k 0))) (n2 (-1) 0).toNat 0)) 6 ∧ (up P2 5 (srch (fun k => decide (tW Fb z (J2 2) (J2 3 - J2 2).toNat = nam (n2 k 0))) (n2 (-1) 0).toNat 0)) 6 < n2 (-1) 0 := h_10
              have hcr := stC_r (a := P2 4) (J := J2) (P := up P2 5 (srch (fun k => decide (tW Fb z (J2 2) (J2 3 - J2 2).toNat = nam (n2 k 0))) (n2 (-1) 0).toNat 0)) (n := n2) (z := t2)
              by_cases hq3 : P2 4 = 3
              · skip
                refine yV0x [] C (s_X2_takeToken hK (a9 := P2 4) hS hPM2 h_2 h_1 (by rw [up_s]; omega) (by rw [up_s]; exact hb5) hp6 hz hF h_4 h_5 h_6 (fun r => ⟨⟨((h_7 r).1).1, ((h_7 r).1).2.1, Int.le_trans ((h_7 r).1).2.2.1 hz.2, ((h_7 r).1).2.2.2⟩, (h_7 r).2⟩) h_8 h_9 h17b h_11 h_12 rfl h_13) v_X2_takeToken vv_X2_takeToken s_RX2_70 eX2_parse_111 (fun _ _ h => WF_pick [6, 7, 3, 4, 5, 0, 1, 2, 8, 9, 10, 11, 12] rfl rfl h) (rcv 6 rfl) rfl (by first | exact nle rfl | omega) (by first | exact nle rfl | omega) (by first | omega | exact nle rfl) (by first | omega | exact nle rfl) (fun M3 hM3 => ?_)
                refine x_istore_n [_, _, _, _] C eX2_parse_114 rfl rfl (nlt rfl) ?_
                refine x_iload_n C eX2_parse_115 rfl ?_
                refine x_if_eq 121 C eX2_parse_116 rfl (by omega) (fun h116 => ?_) (fun h116 => ?_)
                · refine x_oTC (by assumption) (R := [_, _, _, _, _, _, _, _, _]) (fun _ _ hw => WF_pick [5, 0, 1, 2, 3, 4, 6, 7, 8, 9] rfl rfl hw) (fun al3 lg3 => ?_)
                  refine x_aload_n C eX2_parse_121 rfl ?_
                  refine x_getR 4 C f_RX2_26 eX2_parse_122 rfl rfl ?_
                  refine x_aload_n C eX2_parse_125 rfl ?_
                  refine x_getR 4 C f_RX2_26 eX2_parse_126 rfl rfl ?_
                  refine x_getI 5 C f_RX2_60 eX2_parse_129 rfl rfl ?_
                  try simp (disch := decide) only [up_s, up_n, tkI_2, tkI_3, tkI_4, tkI_5, tkI_6, tkI_7, tkI_8, lnI_1, lnI_2, lnI_3, lnI_4, lnI_5, lnI_10, lnI_11, lnI_12, lnI_13, lnI_14, lnI_15, up_s]
                  refine yV1v [_, _, _, _, _, _, _, _, _] [_, _, _, _, _, _, _, _, _, _, _, _, _] C (s_X5_goTo hK hS hz hF (by omega)) v_X5_goTo vv_X5_goTo s_RX2_46 eX2_parse_132 (fun _ _ h => WF_pick [5, 6, 7, 8, 0, 1, 2, 3, 4, 9, 10, 11, 12] rfl rfl h) (rcv 5 rfl) rfl (by first | exact nle rfl | omega) (by first | exact nle rfl | omega) (by first | exact nle rfl | omega) (by first | exact nle rfl | omega) rfl ?_
                  refine x_iinc [_, _, _, _] C eX2_parse_135 rfl rfl rfl ?_
                  refine x_goto (pc' := 36) C eX2_parse_138 rfl ?_
                  have hc9 : stC (P2 4) J2 (up P2 5 (srch (fun k => decide (tW Fb z (J2 2) (J2 3 - J2 2).toNat = nam (n2 k 0))) (n2 (-1) 0).toNat 0)) n2 t2 = 0 := by assumption
                  obtain ⟨hs9, hlt9⟩ := hO.2 hc9
                  have hcn : stN (P2 4) (wnum (tW Fb z (J2 2) (J2 3 - J2 2).toNat)) J2 (up P2 5 (srch (fun k => decide (tW Fb z (J2 2) (J2 3 - J2 2).toNat = nam (n2 k 0))) (n2 (-1) 0).toNat 0)) n2 (-1) 0 = n2 (-1) 0 + 1 := by
                    rw [hq3]
                    have hc0 : nnC J2 (up P2 5 (srch (fun k => decide (tW Fb z (J2 2) (J2 3 - J2 2).toNat = nam (n2 k 0))) (n2 (-1) 0).toNat 0)) = 0 := by have := hc9; rw [hq3] at this; exact this
                    show (if nnC J2 (up P2 5 (srch (fun k => decide (tW Fb z (J2 2) (J2 3 - J2 2).toNat = nam (n2 k 0))) (n2 (-1) 0).toNat 0)) = 0 then nwN n2 (wnum (tW Fb z (J2 2) (J2 3 - J2 2).toNat)) else n2) (-1) 0 = _
                    rw [if_pos hc0]
                    unfold nwN
                    rw [un_n (by omega), un_s, ub_s]
                  have h9 := ih (i + 1) (tkN Fb z (J2 4) (J2 3)) (stP (P2 4) J2 (up P2 5 (srch (fun k => decide (tW Fb z (J2 2) (J2 3 - J2 2).toNat = nam (n2 k 0))) (n2 (-1) 0).toNat 0))) (stN (P2 4) (wnum (tW Fb z (J2 2) (J2 3 - J2 2).toNat)) J2 (up P2 5 (srch (fun k => decide (tW Fb z (J2 2) (J2 3 - J2 2).toNat = nam (n2 k 0))) (n2 (-1) 0).toNat 0)) n2) M3 (adZ (stB (P2 4) J2 t2) t2) (adF (stB (P2 4) J2 t2) t2 fB2 (J2 4)) (adF (stB (P2 4) J2 t2) t2 fL2 ((up P2 5 (srch (fun k => decide (tW Fb z (J2 2) (J2 3 - J2 2).toNat = nam (n2 k 0))) (n2 (-1) 0).toNat 0)) 8)) al3 lg3 hs9 (by omega) (by omega) (by omega) (fun y hy => hM3.1 y (hMM y hy)) hM3.2
                  refine x_lv [_, _, none, none] rfl (lx_drop _ [2, 3] rfl) ?_
                  refine x_pick [_, _, _, _, _, _, _, _, _, _, _, _, _] [8, 0, 1, 2, 3, 4, 5, 6, 7, 9, 10, 11, 12] rfl rfl ?_
                  rw [hcn] at h9
                  first
                    | exact h9
                    | (rw [show (n2 (-1) 0 + 1).toNat = (n2 (-1) 0).toNat + 1 by omega, Nat.mul_add, Nat.mul_add] at h9
                       exact h9)
                · refine x_iload_n C eX2_parse_119 rfl ?_
                  have hne9 : ¬ stC (P2 4) J2 (up P2 5 (srch (fun k => decide (tW Fb z (J2 2) (J2 3 - J2 2).toNat = nam (n2 k 0))) (n2 (-1) 0).toNat 0)) n2 t2 = 0 := by assumption
                  refine x_iret (by first | rfl | exact (narZ (by omega)).1) C F eX2_parse_120 (M3, J2, stP (P2 4) J2 (up P2 5 (srch (fun k => decide (tW Fb z (J2 2) (J2 3 - J2 2).toNat = nam (n2 k 0))) (n2 (-1) 0).toNat 0)), stN (P2 4) (wnum (tW Fb z (J2 2) (J2 3 - J2 2).toNat)) J2 (up P2 5 (srch (fun k => decide (tW Fb z (J2 2) (J2 3 - J2 2).toNat = nam (n2 k 0))) (n2 (-1) 0).toNat 0)) n2, adZ (stB (P2 4) J2 t2) t2, adF (stB (P2 4) J2 t2) t2 fB2 (J2 4), adF (stB (P2 4) J2 t2) t2 fL2 ((up P2 5 (srch (fun k => decide (tW Fb z (J2 2) (J2 3 - J2 2).toNat = nam (n2 k 0))) (n2 (-1) 0).toNat 0)) 8)) (by show some (Value.int (zI ((ldR Fb Im TL TB).1 12))) = _; rw [(hO.1 hne9).1]) ⟨fun y hy => hM3.1 y (hMM y hy), hM3.2, fun _ => (hO.1 hne9).2, fun r => absurd ((hO.1 hne9).1.symm.trans r) hne9, h_2, stP_6 (by rw [up_s]; omega) hp6, adZ_r h_6⟩ (fun cf c h => ?_) (by omega) (by omega)
                  show WF [_, _, _, _, _, TC G M3 tr L _ ((ldR Fb Im TL TB).1 12), _, _, _, _] cf c
                  rw [(hO.1 hne9).1]
                  exact WF_pick [0, 1, 2, 3, 4, 5, 6, 7, 8, 9] rfl rfl h
              · skip
                refine yV0x [] C (s_X2_takeToken0 hK (a9 := P2 4) hS hPM2 h_2 h_1 (by rw [up_s]; omega) (by rw [up_s]; exact hb5) hp6 hz hF h_4 h_5 h_6 (fun r => ⟨⟨((h_7 r).1).1, ((h_7 r).1).2.1, Int.le_trans ((h_7 r).1).2.2.1 hz.2, ((h_7 r).1).2.2.2⟩, (h_7 r).2⟩) h_8 h_9 h17b h_11 h_12 rfl h_13 hq3) v_X2_takeToken vv_X2_takeToken s_RX2_70 eX2_parse_111 (fun _ _ h => WF_pick [6, 7, 3, 4, 5, 0, 1, 2, 8, 9, 10, 11, 12] rfl rfl h) (rcv 6 rfl) rfl (by first | exact nle rfl | omega) (by first | exact nle rfl | omega) (by first | omega | exact nle rfl) (by first | omega | exact nle rfl) (fun M3 hM3 => ?_)
                refine x_istore_n [_, _, _, _] C eX2_parse_114 rfl rfl (nlt rfl) ?_
                refine x_iload_n C eX2_parse_115 rfl ?_
                refine x_if_eq 121 C eX2_parse_116 rfl (by omega) (fun h116 => ?_) (fun h116 => ?_)
                · refine x_oTC (by assumption) (R := [_, _, _, _, _, _, _, _, _]) (fun _ _ hw => WF_pick [5, 0, 1, 2, 3, 4, 6, 7, 8, 9] rfl rfl hw) (fun al3 lg3 => ?_)
                  refine x_aload_n C eX2_parse_121 rfl ?_
                  refine x_getR 4 C f_RX2_26 eX2_parse_122 rfl rfl ?_
                  refine x_aload_n C eX2_parse_125 rfl ?_
                  refine x_getR 4 C f_RX2_26 eX2_parse_126 rfl rfl ?_
                  refine x_getI 5 C f_RX2_60 eX2_parse_129 rfl rfl ?_
                  try simp (disch := decide) only [up_s, up_n, tkI_2, tkI_3, tkI_4, tkI_5, tkI_6, tkI_7, tkI_8, lnI_1, lnI_2, lnI_3, lnI_4, lnI_5, lnI_10, lnI_11, lnI_12, lnI_13, lnI_14, lnI_15, up_s]
                  refine yV1v [_, _, _, _, _, _, _, _, _] [_, _, _, _, _, _, _, _, _, _, _, _, _] C (s_X5_goTo hK hS hz hF (by omega)) v_X5_goTo vv_X5_goTo s_RX2_46 eX2_parse_132 (fun _ _ h => WF_pick [5, 6, 7, 8, 0, 1, 2, 3, 4, 9, 10, 11, 12] rfl rfl h) (rcv 5 rfl) rfl (by first | exact nle rfl | omega) (by first | exact nle rfl | omega) (by first | exact nle rfl | omega) (by first | exact nle rfl | omega) rfl ?_
                  refine x_iinc [_, _, _, _] C eX2_parse_135 rfl rfl rfl ?_
                  refine x_goto (pc' := 36) C eX2_parse_138 rfl ?_
                  have hc9 : stC (P2 4) J2 (up P2 5 (srch (fun k => decide (tW Fb z (J2 2) (J2 3 - J2 2).toNat = nam (n2 k 0))) (n2 (-1) 0).toNat 0)) n2 t2 = 0 := by assumption
                  obtain ⟨hs9, hlt9⟩ := hO.2 hc9
                  have hcn : stN (P2 4) (wnum (tW Fb z (J2 2) (J2 3 - J2 2).toNat)) J2 (up P2 5 (srch (fun k => decide (tW Fb z (J2 2) (J2 3 - J2 2).toNat = nam (n2 k 0))) (n2 (-1) 0).toNat 0)) n2 (-1) 0 = n2 (-1) 0 := stN_0 h_8 (fun r => (h17b r).1) hq3
                  have h9 := ih (i + 1) (tkN Fb z (J2 4) (J2 3)) (stP (P2 4) J2 (up P2 5 (srch (fun k => decide (tW Fb z (J2 2) (J2 3 - J2 2).toNat = nam (n2 k 0))) (n2 (-1) 0).toNat 0))) (stN (P2 4) (wnum (tW Fb z (J2 2) (J2 3 - J2 2).toNat)) J2 (up P2 5 (srch (fun k => decide (tW Fb z (J2 2) (J2 3 - J2 2).toNat = nam (n2 k 0))) (n2 (-1) 0).toNat 0)) n2) M3 (adZ (stB (P2 4) J2 t2) t2) (adF (stB (P2 4) J2 t2) t2 fB2 (J2 4)) (adF (stB (P2 4) J2 t2) t2 fL2 ((up P2 5 (srch (fun k => decide (tW Fb z (J2 2) (J2 3 - J2 2).toNat = nam (n2 k 0))) (n2 (-1) 0).toNat 0)) 8)) al3 lg3 hs9 (by omega) (by omega) (by omega) (fun y hy => hM3.1 y (hMM y hy)) hM3.2
                  refine x_lv [_, _, none, none] rfl (lx_drop _ [2, 3] rfl) ?_
                  refine x_pick [_, _, _, _, _, _, _, _, _, _, _, _, _] [8, 0, 1, 2, 3, 4, 5, 6, 7, 9, 10, 11, 12] rfl rfl ?_
                  rw [hcn] at h9
                  first
                    | exact h9
                    | (rw [show (n2 (-1) 0 + 1).toNat = (n2 (-1) 0).toNat + 1 by omega, Nat.mul_add, Nat.mul_add] at h9
                       exact h9)
                · refine x_iload_n C eX2_parse_119 rfl ?_
                  have hne9 : ¬ stC (P2 4) J2 (up P2 5 (srch (fun k => decide (tW Fb z (J2 2) (J2 3 - J2 2).toNat = nam (n2 k 0))) (n2 (-1) 0).toNat 0)) n2 t2 = 0 := by assumption
                  refine x_iret (by first | rfl | exact (narZ (by omega)).1) C F eX2_parse_120 (M3, J2, stP (P2 4) J2 (up P2 5 (srch (fun k => decide (tW Fb z (J2 2) (J2 3 - J2 2).toNat = nam (n2 k 0))) (n2 (-1) 0).toNat 0)), stN (P2 4) (wnum (tW Fb z (J2 2) (J2 3 - J2 2).toNat)) J2 (up P2 5 (srch (fun k => decide (tW Fb z (J2 2) (J2 3 - J2 2).toNat = nam (n2 k 0))) (n2 (-1) 0).toNat 0)) n2, adZ (stB (P2 4) J2 t2) t2, adF (stB (P2 4) J2 t2) t2 fB2 (J2 4), adF (stB (P2 4) J2 t2) t2 fL2 ((up P2 5 (srch (fun k => decide (tW Fb z (J2 2) (J2 3 - J2 2).toNat = nam (n2 k 0))) (n2 (-1) 0).toNat 0)) 8)) (by show some (Value.int (zI ((ldR Fb Im TL TB).1 12))) = _; rw [(hO.1 hne9).1]) ⟨fun y hy => hM3.1 y (hMM y hy), hM3.2, fun _ => (hO.1 hne9).2, fun r => absurd ((hO.1 hne9).1.symm.trans r) hne9, h_2, stP_6 (by rw [up_s]; omega) hp6, adZ_r h_6⟩ (fun cf c h => ?_) (by omega) (by omega)
                  show WF [_, _, _, _, _, TC G M3 tr L _ ((ldR Fb Im TL TB).1 12), _, _, _, _] cf c
                  rw [(hO.1 hne9).1]
                  exact WF_pick [0, 1, 2, 3, 4, 5, 6, 7, 8, 9] rfl rfl h
              
              
  refine x_aload_n C eX2_parse_0 rfl ?_
  refine x_getR 0 C f_RX2_12 eX2_parse_1 rfl rfl ?_
  refine yV0v [_, _, _, _, _, _, _, _] [_, _, _, _, _, _, _, _, _, _] C (s_X3_clear hK (g := fB) ) v_X3_clear vv_X3_clear s_RX2_34 eX2_parse_4 (fun _ _ h => WF_pick [6, 7, 0, 1, 2, 3, 4, 5, 8, 9] rfl rfl h) (rcv 6 rfl) rfl (by first | exact nle rfl | omega) (by first | exact nle rfl | omega) (by first | exact nle rfl | omega) (by first | exact nle rfl | omega) rfl ?_
  skip
  refine x_aload_n C eX2_parse_7 rfl ?_
  refine x_getR 2 C f_RX2_18 eX2_parse_8 rfl rfl ?_
  refine yV0v [_, _, _, _, _, _, _, _] [_, _, _, _, _, _, _, _, _, _] C (s_X3_clear hK (g := fL) ) v_X3_clear vv_X3_clear s_RX2_34 eX2_parse_11 (fun _ _ h => WF_pick [8, 9, 0, 1, 2, 3, 4, 5, 6, 7] rfl rfl h) (rcv 8 rfl) rfl (by first | exact nle rfl | omega) (by first | exact nle rfl | omega) (by first | exact nle rfl | omega) (by first | exact nle rfl | omega) rfl ?_
  skip
  refine x_oTG (t := tr) (L := L) (R := [_, _, _, _, _, _, _, _, _]) (fun _ _ hw => WF_pick [9, 0, 1, 2, 3, 4, 5, 6, 7, 8] rfl rfl hw) (fun al0 lg0 Jt => ?_)
  refine x_aload_n C eX2_parse_14 rfl ?_
  refine x_getR 8 C f_RX2_30 eX2_parse_15 rfl rfl ?_
  refine yV0x [_, _, _, _, _, _, _, _, _] C (s_X6_startOver hK (M := M) ) v_X6_startOver vv_X6_startOver s_RX2_37 eX2_parse_18 (fun _ _ h => WF_pick [0, 1, 2, 3, 4, 5, 6, 7, 8, 9, 10, 11, 12] rfl rfl h) (rcv 0 rfl) rfl (by first | exact nle rfl | omega) (by first | exact nle rfl | omega) (by first | exact nle rfl | omega) (by first | exact nle rfl | omega) (fun n0 hn0 => ?_)
  refine x_aload_n C eX2_parse_21 rfl ?_
  refine x_iconst C eX2_parse_22 ?_
  refine x_putI [_, _, _, _, _, _, _, _, _, _, _, _, _] 8 C f_RX2_42 eX2_parse_23 rfl rfl rfl ?_
  refine x_aload_n C eX2_parse_26 rfl ?_
  refine x_getR 8 C f_RX2_26 eX2_parse_27 rfl rfl ?_
  refine x_iconst C eX2_parse_30 ?_
  refine yV1v [_, _, _, _, _, _, _, _, _] [_, _, _, _, _, _, _, _, _, _, _, _, _] C (s_X5_goTo hK hS hz hF (by decide)) v_X5_goTo vv_X5_goTo s_RX2_46 eX2_parse_31 (fun _ _ h => WF_pick [9, 10, 11, 12, 0, 1, 2, 3, 4, 5, 6, 7, 8] rfl rfl h) (rcv 9 rfl) rfl (by first | exact nle rfl | omega) (by first | exact nle rfl | omega) (by first | exact nle rfl | omega) (by first | exact nle rfl | omega) rfl ?_
  refine x_iconst C eX2_parse_34 ?_
  refine x_istore_n [_, _, _, _] C eX2_parse_35 rfl rfl (nlt rfl) ?_
  refine x_pick [_, _, _, _, _, _, _, _, _, _, _, _, _] [12, 0, 1, 2, 3, 4, 5, 6, 7, 10, 11, 8, 9] rfl rfl ?_
  have hcl : n0 (-1) 0 = 0 := hn0.1 0 (by decide)
  have h9 := loop 401 0 (tkN Fb z (J 4) 0) (up P 4 0) n0 M 0 fB fL al0 lg0 (SIM_init hF (by omega) h6 h11 hJ4 hn0 (by rw [up_n (by decide)]; exact hP6)) (by have := (SIM_hyps (SIM_init (P := up P 4 0) (n := n0) (fB := fB) (fL := fL) (TL := TL) (TB := TB) hF (by omega) h6 h11 hJ4 hn0 (by rw [up_n (by decide)]; exact hP6))).2.2.2.2.2.2.2.2.2.2.2.2.2.1; omega) (by omega) (by omega) (fun _ h => h) hPM
  rw [hcl] at h9
  exact h9
