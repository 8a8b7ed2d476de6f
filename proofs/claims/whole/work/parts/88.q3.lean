/-! The busiest line, the longest run, shares and waits. -/
def bsV (n : Net) : Nat → Int × Int
  | 0 => (-1, 0)
  | k + 1 => if (bsV n k).2 < n k 17 then ((k : Int), n k 17) else bsV n k
theorem aBusy_max {n : Net} : ∀ (k j : Nat), j ≤ k → n j 17 ≤ n (aBusy n k) 17 := by
  intro k
  induction k with
  | zero => intro j h; obtain rfl : j = 0 := by omega
            exact Int.le_refl _
  | succ k ih =>
    intro j h
    by_cases c : n (aBusy n k) 17 < n ((k : Int) + 1) 17
    · rw [show aBusy n (k + 1) = (k : Int) + 1 from if_pos c]
      by_cases c2 : j = k + 1
      · subst c2; exact Int.le_refl _
      · have := ih j (by omega); omega
    · rw [show aBusy n (k + 1) = aBusy n k from if_neg c]
      by_cases c2 : j = k + 1
      · subst c2; rw [show (((k + 1 : Nat) : Nat) : Int) = (k : Int) + 1 by omega]; omega
      · exact ih j (by omega)
theorem bsV_e {n : Net} : ∀ k : Nat, (∀ j : Nat, j ≤ k → 0 ≤ n j 17) → bsV n (k + 1) = (if n (aBusy n k) 17 = 0 then -1 else aBusy n k, n (aBusy n k) 17) := by
  intro k
  induction k with
  | zero =>
    intro h
    have h0 := h 0 (Nat.le_refl _)
    show (if (0 : Int) < n ((0 : Nat) : Int) 17 then (((0 : Nat) : Int), n ((0 : Nat) : Int) 17) else (-1, 0)) = (if n 0 17 = 0 then -1 else 0, n 0 17)
    rw [show ((0 : Nat) : Int) = 0 from rfl] at h0 ⊢
    by_cases c : n 0 17 = 0
    · rw [if_neg (by omega), if_pos c, c]
    · rw [if_pos (by omega), if_neg c]
  | succ k ih =>
    intro h
    have h1 := ih (fun j hj => h j (by omega))
    have hm := aBusy_max (n := n) k 0 (by omega)
    have h0 := h 0 (by omega)
    show (if (bsV n (k + 1)).2 < n ((k + 1 : Nat) : Int) 17 then (((k + 1 : Nat) : Int), n ((k + 1 : Nat) : Int) 17) else bsV n (k + 1)) = _
    rw [h1, show (((k + 1 : Nat) : Nat) : Int) = (k : Int) + 1 by omega]
    dsimp only
    by_cases c : n (aBusy n k) 17 < n ((k : Int) + 1) 17
    · rw [show aBusy n (k + 1) = (k : Int) + 1 from if_pos c, if_pos c, if_neg (by omega)]
    · rw [show aBusy n (k + 1) = aBusy n k from if_neg c, if_neg c]
theorem qs_0 {f : Int → Int} : ∀ k : Nat, (∀ j : Nat, j < k → 0 ≤ f j) → 0 ≤ qs f k ∧ (qs f k = 0 ↔ ∀ j : Nat, j < k → f j = 0) := by
  intro k
  induction k with
  | zero => intro _; exact ⟨Int.le_refl _, fun _ j hj => by omega, fun _ => rfl⟩
  | succ k ih =>
    intro h
    obtain ⟨h1, h2⟩ := ih (fun j hj => h j (by omega))
    have hk := h k (by omega)
    show 0 ≤ qs f k + f k ∧ (qs f k + f k = 0 ↔ _)
    refine ⟨by omega, fun z j hj => ?_, fun z => ?_⟩
    · by_cases c : j = k
      · subst c; omega
      · exact h2.mp (by omega) j (by omega)
    · rw [h2.mpr (fun j hj => z j (by omega)), z k (by omega)]; rfl
theorem bsV_f {b : Int} {n : Net} (hN : NetOk b n) : (bsV n (n (-1) 0).toNat).1 = if n (-1) 4 = 0 then -1 else aBusy n ((n (-1) 0).toNat - 1) := by
  have hH := hN.1
  unfold HeadOk at hH
  obtain ⟨k, hk⟩ : ∃ k, (n (-1) 0).toNat = k + 1 := ⟨(n (-1) 0).toNat - 1, by omega⟩
  have hc : ∀ j : Nat, j < k + 1 → 0 ≤ n j 17 := fun j hj => (LineOk_c (hN.2.2 j (by omega) (by omega)) (k := 17) (by decide) (by decide)).1
  have hr := aBusy_r n k
  obtain ⟨q1, q2⟩ := qs_0 (f := fun l => n l 17) (k + 1) hc
  have h4 := hH.2.2.2.2.2.2.2.2
  rw [hk] at h4
  rw [hk, show k + 1 - 1 = k from rfl, bsV_e k (fun j hj => hc j (by omega))]
  dsimp only
  by_cases c : n (-1) 4 = 0
  · have := q2.mp (by omega) (aBusy n k).toNat (by omega)
    rw [show (((aBusy n k).toNat : Nat) : Int) = aBusy n k by omega] at this
    rw [if_pos c, if_pos this]
  · rw [if_neg c, if_neg (fun z => c (by rw [h4]; exact q2.mpr (fun j hj => by
      have h1 := aBusy_max (n := n) k j (by omega)
      have h2 := hc j hj
      show n j 17 = 0
      omega)))]
theorem bsV_r {n : Net} : ∀ k : Nat, -1 ≤ (bsV n k).1 ∧ (bsV n k).1 < max 1 (k : Int) := by
  intro k
  induction k with
  | zero => exact ⟨Int.le_refl _, by show (-1 : Int) < _; omega⟩
  | succ k ih =>
    unfold bsV
    split
    · show -1 ≤ (k : Int) ∧ (k : Int) < _; omega
    · omega
theorem bsV_2 {b : Int} {n : Net} (h : ∀ j : Nat, (j : Int) < n (-1) 0 → 0 ≤ n j 17 ∧ n j 17 ≤ b) (hb : 0 ≤ b) : ∀ k : Nat, (k : Int) ≤ n (-1) 0 → 0 ≤ (bsV n k).2 ∧ (bsV n k).2 ≤ b := by
  intro k
  induction k with
  | zero => intro _; exact ⟨Int.le_refl _, hb⟩
  | succ k ih =>
    intro hk
    have h1 := ih (by omega)
    unfold bsV
    split
    · exact h k (by omega)
    · exact h1

set_option maxHeartbeats 4000000 in
set_option maxRecDepth 100000 in
theorem s_X7_busiest {G : Gm} {l : Launch} (hK : KG G) {e ip op t tr ps pa sl al lg : Nat} {J : Nat → Int} {M : Pool} {L : Int → Nat} {n : Net} {b : Int} (hN : NetOk b n) (hb : b ≤ 900000000) : MD G l yX7_busiest cX7_busiest 5 (some .int) 2 0 0 [.ref e] [ob e 9 (ecS ip op t tr ps pa sl) J, ob t 8 (tkS al lg) (tkI (n)), arR G 5 al 6 (fun j => some (L (j : Int))), LF G M L (n), LOG G lg (n)] (some (.int (zI (if n (-1) 4 = 0 then -1 else aBusy n ((n (-1) 0).toNat - 1))))) [ob e 9 (ecS ip op t tr ps pa sl) J, ob t 8 (tkS al lg) (tkI (n)), arR G 5 al 6 (fun j => some (L (j : Int))), LF G M L (n), LOG G lg (n)] := by
  refine MX_of (lv := [some (.ref e), none, none, none, none]) hK (by decide +kernel) rfl (nle rfl) (fun X C F => ?_)
  have C : OKc G X l RX7 "busiest" cX7_busiest 5 (some .int) 2 0 0 := C
  have hH := hN.1
  unfold HeadOk at hH
  have hB2 := bsV_2 (b := b) (n := n) (fun j hj => LineOk_c (hN.2.2 j (by omega) hj) (k := 17) (by decide) (by decide)) (by omega)
  have loop : ∀ (f k : Nat), (k : Int) ≤ n (-1) 0 → n (-1) 0 < k + f → WX G X 0 0 [ob e 9 (ecS ip op t tr ps pa sl) J, ob t 8 (tkS al lg) (tkI (n)), arR G 5 al 6 (fun j => some (L (j : Int))), LF G M L (n), LOG G lg (n)] 6 [some (.ref e), some (.int (zI (bsV n k).1)), some (.int (zI (bsV n k).2)), some (.int (zI k)), none] [] := by
    intro f
    induction f with
    | zero => intro k h0 h1; exfalso; omega
    | succ f ih =>
      intro k h0 h1
      have hR := hB2 k (by omega)
      refine x_iload_n C eX7_busiest_6 rfl ?_
      refine x_aload_n C eX7_busiest_7 rfl ?_
      refine x_getR 0 C f_RX7_22 eX7_busiest_8 rfl rfl ?_
      refine x_getI 1 C f_RX7_91 eX7_busiest_11 rfl rfl ?_
      try simp (disch := decide) only [up_s, up_n, tkI_2, tkI_3, tkI_4, tkI_5, tkI_6, tkI_7, tkI_8, lnI_1, lnI_2, lnI_3, lnI_4, lnI_5, lnI_10, lnI_11, lnI_12, lnI_13, lnI_14, lnI_15]
      refine x_icmp_ge 48 C eX7_busiest_14 rfl (by omega) (by omega) (fun h14 => ?_) (fun h14 => ?_)
      · refine x_iload_n C eX7_busiest_48 rfl ?_
        refine x_iret (by first | rfl | exact (narZ (by omega)).1) C F eX7_busiest_49 () ?_ trivial (fun cf c h => ?_) (nle rfl) (nle rfl)
        · rw [← bsV_f hN, show (n (-1) 0).toNat = k by omega]
        · exact WF_pick [0, 1, 2, 3, 4] rfl rfl h
      · have hL := LineOk_c (hN.2.2 k (by omega) (by omega)) (k := 17) (by decide) (by decide)
        refine x_aload_n C eX7_busiest_17 rfl ?_
        refine x_getR 0 C f_RX7_22 eX7_busiest_18 rfl rfl ?_
        refine x_iload_n C eX7_busiest_21 rfl ?_
        refine yV1r [_, _, _] [_, _, _, _, _] C (s_X6_lineAt hK (by omega)) v_X6_lineAt vv_X6_lineAt s_RX7_122 eX7_busiest_22 (fun _ _ h => WF_pick [1, 2, 0, 3, 4] rfl rfl h) (rcv 1 rfl) rfl (nle rfl) (nle rfl) (nle rfl) (nle rfl) rfl ?_
        refine x_iconst C eX7_busiest_25 ?_
        refine yV1r [_, _, _, _] [_, _, _, _, _] C (s_FL_counted hK (by omega) (by omega)) v_X0_counted vv_X0_counted s_RX7_184 eX7_busiest_26 (fun _ _ h => WF_pick [3, 0, 1, 2, 4] rfl rfl h) (rcvP 3 rfl (LF_rcv (by omega))) rfl (nle rfl) (nle rfl) (nle rfl) (nle rfl) rfl ?_
        rw [show (16 : Int) + 1 = 17 from rfl]
        refine x_istore [_, _, _, _, _] C eX7_busiest_29 rfl rfl (nlt rfl) ?_
        refine x_iload C eX7_busiest_31 rfl ?_
        refine x_iload_n C eX7_busiest_33 rfl ?_
        refine x_icmp_le 42 C eX7_busiest_34 rfl (by omega) (by omega) (fun h34 => ?_) (fun h34 => ?_)
        · refine x_iinc [_, _, _, _, _] C eX7_busiest_42 rfl rfl rfl ?_
          refine x_goto (pc' := 6) C eX7_busiest_45 rfl ?_
          refine x_pick [_, _, _, _, _] [3, 1, 2, 0, 4] rfl rfl ?_
          have h3 := ih (k + 1) (by omega) (by omega)
          refine x_lv [_, _, _, _, none] rfl (lx_drop _ [4] rfl) ?_
          first
            | (rw [show bsV n (k + 1) = ((k : Int), n k 17) from if_pos (by omega)] at h3; exact h3)
            | (rw [show bsV n (k + 1) = bsV n k from if_neg (by omega)] at h3; exact h3)
        · refine x_iload C eX7_busiest_37 rfl ?_
          refine x_istore_n [_, _, _, _, _] C eX7_busiest_39 rfl rfl (nlt rfl) ?_
          refine x_iload_n C eX7_busiest_40 rfl ?_
          refine x_istore_n [_, _, _, _, _] C eX7_busiest_41 rfl rfl (nlt rfl) ?_
          refine x_iinc [_, _, _, _, _] C eX7_busiest_42 rfl rfl rfl ?_
          refine x_goto (pc' := 6) C eX7_busiest_45 rfl ?_
          refine x_pick [_, _, _, _, _] [3, 1, 2, 0, 4] rfl rfl ?_
          have h3 := ih (k + 1) (by omega) (by omega)
          refine x_lv [_, _, _, _, none] rfl (lx_drop _ [4] rfl) ?_
          first
            | (rw [show bsV n (k + 1) = ((k : Int), n k 17) from if_pos (by omega)] at h3; exact h3)
            | (rw [show bsV n (k + 1) = bsV n k from if_neg (by omega)] at h3; exact h3)
  refine x_iconst C eX7_busiest_0 ?_
  refine x_istore_n [_, _, _, _, _] C eX7_busiest_1 rfl rfl (nlt rfl) ?_
  refine x_iconst C eX7_busiest_2 ?_
  refine x_istore_n [_, _, _, _, _] C eX7_busiest_3 rfl rfl (nlt rfl) ?_
  refine x_iconst C eX7_busiest_4 ?_
  refine x_istore_n [_, _, _, _, _] C eX7_busiest_5 rfl rfl (nlt rfl) ?_
  refine x_pick [_, _, _, _, _] [0, 1, 2, 3, 4] rfl rfl ?_
  exact loop 50 0 (by omega) (by omega)

set_option maxHeartbeats 4000000 in
set_option maxRecDepth 100000 in
theorem s_X7_longestRun {G : Gm} {l : Launch} (hK : KG G) {e ip op t tr ps pa sl al lg : Nat} {J : Nat → Int} {M : Pool} {L : Int → Nat} {n : Net} {b : Int} (hN : NetOk b n) (hb : b ≤ 900000000) : MD G l yX7_longestRun cX7_longestRun 6 (some .int) 2 0 0 [.ref e] [ob e 9 (ecS ip op t tr ps pa sl) J, ob t 8 (tkS al lg) (tkI (n)), arR G 5 al 6 (fun j => some (L (j : Int))), LF G M L (n), LOG G lg (n)] (some (.int (zI (aRun n (n (-1) 7).toNat).1))) [ob e 9 (ecS ip op t tr ps pa sl) J, ob t 8 (tkS al lg) (tkI (n)), arR G 5 al 6 (fun j => some (L (j : Int))), LF G M L (n), LOG G lg (n)] := by
  refine MX_of (lv := [some (.ref e), none, none, none, none, none]) hK (by decide +kernel) rfl (nle rfl) (fun X C F => ?_)
  have C : OKc G X l RX7 "longestRun" cX7_longestRun 6 (some .int) 2 0 0 := C
  have hH := hN.1
  unfold HeadOk at hH
  have loop : ∀ (la : Nat) (x : Int) (f : Nat → Int), 0 ≤ x ∧ x < 40 → LogR f x n → ∀ (f9 k : Nat) (s : Int), (k : Int) ≤ n (-1) 7 → n (-1) 7 < k + f9 → (k = 0 → s = -1) → (0 < k → s = n (-2) (5 * ((k : Int) - 1) + 1)) → WX G X 0 0 [ob e 9 (ecS ip op t tr ps pa sl) J, ob t 8 (tkS al lg) (tkI (n)), arR G 5 al 6 (fun j => some (L (j : Int))), LF G M L (n), ob lg 3 [some (.ref la), none, none] (lgI (n (-1) 7) x), ar G 0 la 200 200 f] 9 [some (.ref e), some (.int (zI (aRun n k).1)), some (.int (zI (aRun n k).2)), some (.int (zI s)), some (.int (zI (k : Int))), none] [] := by
    intro la x f hx hf f9
    induction f9 with
    | zero => intro k s h0 h1; exfalso; omega
    | succ f9 ih =>
      intro k s h0 h1 hs0 hs1
      have hR := aRun_r n k
      have hG := hN.2.1
      refine x_iload C eX7_longestRun_9 rfl ?_
      refine x_aload_n C eX7_longestRun_11 rfl ?_
      refine x_getR 0 C f_RX7_22 eX7_longestRun_12 rfl rfl ?_
      refine x_getR 1 C f_RX7_198 eX7_longestRun_15 rfl rfl ?_
      refine x_getI 4 C f_RX7_202 eX7_longestRun_18 rfl rfl ?_
      try simp (disch := decide) only [up_s, up_n, tkI_2, tkI_3, tkI_4, tkI_5, tkI_6, tkI_7, tkI_8, lnI_1, lnI_2, lnI_3, lnI_4, lnI_5, lnI_10, lnI_11, lnI_12, lnI_13, lnI_14, lnI_15, lgI_1, lgI_2]
      refine x_icmp_ge 68 C eX7_longestRun_21 rfl (by omega) (by omega) (fun h21 => ?_) (fun h21 => ?_)
      · refine x_iload_n C eX7_longestRun_68 rfl ?_
        refine x_pick [_, _, _, _, _, _] [4, 5, 0, 1, 2, 3] rfl rfl ?_
        refine x_cG (m := n) hx rfl hf ?_
        refine x_iret (by first | rfl | exact (narZ (by omega)).1) C F eX7_longestRun_69 () ?_ trivial (fun cf c h => ?_) (nle rfl) (nle rfl)
        · rw [show (n (-1) 7).toNat = k by omega]
        · exact WF_pick [1, 2, 3, 4, 0] rfl rfl h
      · have hk9 := (hG k (by omega) (by omega)).2.1
        have hs9 : -1 ≤ s ∧ s ≤ 6 := by
          by_cases c : k = 0
          · rw [hs0 c]; omega
          · rw [hs1 (by omega)]
            have := (hG ((k : Int) - 1) (by omega) (by omega)).2.1
            omega
        refine x_aload_n C eX7_longestRun_24 rfl ?_
        refine x_getR 0 C f_RX7_22 eX7_longestRun_25 rfl rfl ?_
        refine x_getR 1 C f_RX7_198 eX7_longestRun_28 rfl rfl ?_
        refine x_iload C eX7_longestRun_31 rfl ?_
        refine x_iconst C eX7_longestRun_33 ?_
        refine yV2r [_, _, _, _] [_, _, _, _, _, _] C (s_X1_at hK (by omega) (by omega)) v_X1_at vv_X1_at s_RX7_209 eX7_longestRun_34 (fun _ _ h => WF_pick [4, 5, 0, 1, 2, 3] rfl rfl h) (rcv 4 rfl) rfl (nle rfl) (nle rfl) (nle rfl) (nle rfl) rfl ?_
        rw [hf k 1 (by omega) (by omega) (by omega) (by omega)]
        refine x_istore [_, _, _, _, _, _] C eX7_longestRun_37 rfl rfl (nlt rfl) ?_
        refine x_iload C eX7_longestRun_39 rfl ?_
        refine x_iload_n C eX7_longestRun_41 rfl ?_
        refine x_icmp_ne 51 C eX7_longestRun_42 rfl (by omega) (by omega) (fun h42 => ?_) (fun h42 => ?_)
        · have hk0 : ¬ (0 < k ∧ n (-2) (5 * (k : Int) + 1) = n (-2) (5 * ((k : Int) - 1) + 1)) := by
            rintro ⟨u, v⟩
            have := hs1 u
            omega
          refine x_iconst C eX7_longestRun_51 ?_
          refine x_istore_n [_, _, _, _, _, _] C eX7_longestRun_52 rfl rfl (nlt rfl) ?_
          refine x_iload C eX7_longestRun_53 rfl ?_
          refine x_istore_n [_, _, _, _, _, _] C eX7_longestRun_55 rfl rfl (nlt rfl) ?_
          refine x_iload_n C eX7_longestRun_56 rfl ?_
          refine x_iload_n C eX7_longestRun_57 rfl ?_
          refine x_max C s_RX7_251 s2_max eX7_longestRun_58 rfl (nle rfl) (nle rfl) (nle rfl) (nle rfl) (by omega) (by omega) ?_
          refine x_istore_n [_, _, _, _, _, _] C eX7_longestRun_61 rfl rfl (nlt rfl) ?_
          refine x_iinc [_, _, _, _, _, _] C eX7_longestRun_62 rfl rfl rfl ?_
          refine x_goto (pc' := 9) C eX7_longestRun_65 rfl ?_
          refine x_pick [_, _, _, _, _, _] [2, 3, 4, 5, 0, 1] rfl rfl ?_
          have h3 := ih (k + 1) (n (-2) (5 * (k : Int) + 1)) (by omega) (by omega) (fun z => by omega) (fun _ => by rw [show (((k + 1 : Nat) : Int) - 1) = (k : Int) by omega])
          refine x_lv [_, _, _, _, _, none] rfl (lx_drop _ [5] rfl) ?_
          unfold aRun at h3
          dsimp only at h3
          first
            | (rw [if_pos (by omega)] at h3; exact h3)
            | (rw [if_neg (by omega)] at h3; exact h3)
        · have hk0 : 0 < k ∧ n (-2) (5 * (k : Int) + 1) = n (-2) (5 * ((k : Int) - 1) + 1) := by
            by_cases c : k = 0
            · have := hs0 c; omega
            · have := hs1 (by omega); omega
          refine x_iload_n C eX7_longestRun_45 rfl ?_
          refine x_iconst C eX7_longestRun_46 ?_
          refine x_iadd C eX7_longestRun_47 ?_
          refine x_goto (pc' := 52) C eX7_longestRun_48 rfl ?_
          refine x_istore_n [_, _, _, _, _, _] C eX7_longestRun_52 rfl rfl (nlt rfl) ?_
          refine x_iload C eX7_longestRun_53 rfl ?_
          refine x_istore_n [_, _, _, _, _, _] C eX7_longestRun_55 rfl rfl (nlt rfl) ?_
          refine x_iload_n C eX7_longestRun_56 rfl ?_
          refine x_iload_n C eX7_longestRun_57 rfl ?_
          refine x_max C s_RX7_251 s2_max eX7_longestRun_58 rfl (nle rfl) (nle rfl) (nle rfl) (nle rfl) (by omega) (by omega) ?_
          refine x_istore_n [_, _, _, _, _, _] C eX7_longestRun_61 rfl rfl (nlt rfl) ?_
          refine x_iinc [_, _, _, _, _, _] C eX7_longestRun_62 rfl rfl rfl ?_
          refine x_goto (pc' := 9) C eX7_longestRun_65 rfl ?_
          refine x_pick [_, _, _, _, _, _] [2, 3, 4, 5, 0, 1] rfl rfl ?_
          have h3 := ih (k + 1) (n (-2) (5 * (k : Int) + 1)) (by omega) (by omega) (fun z => by omega) (fun _ => by rw [show (((k + 1 : Nat) : Int) - 1) = (k : Int) by omega])
          refine x_lv [_, _, _, _, _, none] rfl (lx_drop _ [5] rfl) ?_
          unfold aRun at h3
          dsimp only at h3
          first
            | (rw [if_pos (by omega)] at h3; exact h3)
            | (rw [if_neg (by omega)] at h3; exact h3)
  refine x_oG (m := n) (R := [_, _, _, _]) (fun _ _ hw => WF_pick [4, 0, 1, 2, 3] rfl rfl hw) (fun la x f hx hf => ?_)
  refine x_iconst C eX7_longestRun_0 ?_
  refine x_istore_n [_, _, _, _, _, _] C eX7_longestRun_1 rfl rfl (nlt rfl) ?_
  refine x_iconst C eX7_longestRun_2 ?_
  refine x_istore_n [_, _, _, _, _, _] C eX7_longestRun_3 rfl rfl (nlt rfl) ?_
  refine x_iconst C eX7_longestRun_4 ?_
  refine x_istore_n [_, _, _, _, _, _] C eX7_longestRun_5 rfl rfl (nlt rfl) ?_
  refine x_iconst C eX7_longestRun_6 ?_
  refine x_istore [_, _, _, _, _, _] C eX7_longestRun_7 rfl rfl (nlt rfl) ?_
  refine x_pick [_, _, _, _, _, _] [2, 3, 4, 5, 0, 1] rfl rfl ?_
  exact loop la x f hx hf 50 0 (-1) (by omega) (by omega) (fun _ => rfl) (fun z => by omega)

set_option maxHeartbeats 4000000 in
set_option maxRecDepth 100000 in
theorem s_X7_share {G : Gm} {l : Launch} (hK : KG G) {e ip op t tr ps pa sl al lg : Nat} {J : Nat → Int} {M : Pool} {L : Int → Nat} {n : Net} {b : Int} {l9 : Int} (hN : NetOk b n) (hb : b ≤ 16000000) (hl : 0 ≤ l9 ∧ l9 < n (-1) 0) (hFP : FPok) : MD G l yX7_share cX7_share 2 (some .float) 2 0 0 [.ref e, .int (zI l9)] [ob e 9 (ecS ip op t tr ps pa sl) J, ob t 8 (tkS al lg) (tkI (n)), arR G 5 al 6 (fun j => some (L (j : Int))), LF G M L (n), LOG G lg (n)] (some (.float (shA n l9))) [ob e 9 (ecS ip op t tr ps pa sl) J, ob t 8 (tkS al lg) (tkI (n)), arR G 5 al 6 (fun j => some (L (j : Int))), LF G M L (n), LOG G lg (n)] := by
  refine MX_of (lv := [some (.ref e), some (.int (zI l9))]) hK (by decide +kernel) rfl (nle rfl) (fun X C F => ?_)
  have C : OKc G X l RX7 "share" cX7_share 2 (some .float) 2 0 0 := C
  have hH := hN.1
  unfold HeadOk at hH
  have hL := hN.2.2 l9 (by omega) (by omega)
  have h17 := LineOk_c hL (k := 17) (by decide) (by decide)
  unfold LineOk at hL
  refine x_aload_n C eX7_share_0 rfl ?_
  refine x_iload_n C eX7_share_1 rfl ?_
  refine yV1v [_, _, _] [_, _, _, _, _] C (s_X7_testLine hK (by omega)) v_X7_testLine vv_X7_testLine s_RX7_145 eX7_share_2 (fun _ _ h => WF_pick [0, 1, 2, 3, 4] rfl rfl h) (rcv 0 rfl) rfl (nle rfl) (nle rfl) (nle rfl) (nle rfl) rfl ?_
  refine x_aload_n C eX7_share_5 rfl ?_
  refine x_getR 0 C f_RX7_22 eX7_share_6 rfl rfl ?_
  refine x_getI 1 C f_RX7_112 eX7_share_9 rfl rfl ?_
  try simp (disch := decide) only [up_s, up_n, tkI_2, tkI_3, tkI_4, tkI_5, tkI_6, tkI_7, tkI_8, lnI_1, lnI_2, lnI_3, lnI_4, lnI_5, lnI_10, lnI_11, lnI_12, lnI_13, lnI_14, lnI_15]
  refine x_if_gt 17 C eX7_share_12 rfl (by omega) (fun h12 => ?_) (fun h12 => ?_)
  · refine x_aload_n C eX7_share_17 rfl ?_
    refine x_getR 0 C f_RX7_22 eX7_share_18 rfl rfl ?_
    refine x_iload_n C eX7_share_21 rfl ?_
    refine yV1r [_, _, _] [_, _, _, _, _] C (s_X6_lineAt hK (by omega)) v_X6_lineAt vv_X6_lineAt s_RX7_122 eX7_share_22 (fun _ _ h => WF_pick [1, 2, 0, 3, 4] rfl rfl h) (rcv 1 rfl) rfl (nle rfl) (nle rfl) (nle rfl) (nle rfl) rfl ?_
    refine x_iconst C eX7_share_25 ?_
    refine yV1r [_, _, _, _] [_, _, _, _, _] C (s_FL_counted hK (by omega) (by omega)) v_X0_counted vv_X0_counted s_RX7_184 eX7_share_26 (fun _ _ h => WF_pick [3, 0, 1, 2, 4] rfl rfl h) (rcvP 3 rfl (LF_rcv (by omega))) rfl (nle rfl) (nle rfl) (nle rfl) (nle rfl) rfl ?_
    rw [show (16 : Int) + 1 = 17 from rfl]
    refine x_i2f C eX7_share_29 ?_
    refine x_aload_n C eX7_share_30 rfl ?_
    refine x_getR 3 C f_RX7_22 eX7_share_31 rfl rfl ?_
    refine x_getI 1 C f_RX7_112 eX7_share_34 rfl rfl ?_
    try simp (disch := decide) only [up_s, up_n, tkI_2, tkI_3, tkI_4, tkI_5, tkI_6, tkI_7, tkI_8, lnI_1, lnI_2, lnI_3, lnI_4, lnI_5, lnI_10, lnI_11, lnI_12, lnI_13, lnI_14, lnI_15]
    refine x_i2f C eX7_share_37 ?_
    refine x_fdiv C eX7_share_38 (hFP.1 (n l9 17) (n (-1) 4) (by omega) (by omega) (by omega) (by omega)).1 ?_
    refine x_fret C F eX7_share_39 () ?_ trivial (fun cf c h => ?_) (nle rfl) (nle rfl)
    · first
        | rw [show shA n l9 = 0 from if_pos (by omega)]
        | (rw [show shA n l9 = shV (n l9 17) (n (-1) 4) from if_neg (by omega)]; rfl)
    · exact WF_pick [3, 1, 2, 0, 4] rfl rfl h
  · refine x_fconst0 C eX7_share_15 ?_
    refine x_fret C F eX7_share_16 () ?_ trivial (fun cf c h => ?_) (nle rfl) (nle rfl)
    · first
        | rw [show shA n l9 = 0 from if_pos (by omega)]
        | (rw [show shA n l9 = shV (n l9 17) (n (-1) 4) from if_neg (by omega)]; rfl)
    · exact WF_pick [0, 1, 2, 3, 4] rfl rfl h

set_option maxHeartbeats 4000000 in
set_option maxRecDepth 100000 in
theorem s_X7_meanWait {G : Gm} {l : Launch} (hK : KG G) {e ip op t tr ps pa sl al lg : Nat} {J : Nat → Int} {M : Pool} {L : Int → Nat} {n : Net} {b : Int} {l9 : Int} (hN : NetOk b n) (hb : b ≤ 16000000) (hl : 0 ≤ l9 ∧ l9 < n (-1) 0) (hFP : FPok) : MD G l yX7_meanWait cX7_meanWait 4 (some .double) 2 0 0 [.ref e, .int (zI l9)] [ob e 9 (ecS ip op t tr ps pa sl) J, ob t 8 (tkS al lg) (tkI (n)), arR G 5 al 6 (fun j => some (L (j : Int))), LF G M L (n), LOG G lg (n)] (some (.double (mwA n l9))) [ob e 9 (ecS ip op t tr ps pa sl) J, ob t 8 (tkS al lg) (tkI (n)), arR G 5 al 6 (fun j => some (L (j : Int))), LF G M L (n), LOG G lg (n)] := by
  refine MX_of (lv := [some (.ref e), some (.int (zI l9)), none, none]) hK (by decide +kernel) rfl (nle rfl) (fun X C F => ?_)
  have C : OKc G X l RX7 "meanWait" cX7_meanWait 4 (some .double) 2 0 0 := C
  have hH := hN.1
  unfold HeadOk at hH
  have hL := hN.2.2 l9 (by omega) (by omega)
  have h17 := LineOk_c hL (k := 17) (by decide) (by decide)
  unfold LineOk at hL
  have hq9 : 0 ≤ qs (fun j => n (-1) 1 - n l9 (88 + j)) (n l9 6).toNat := qs_nonneg _ (fun j u v => by have := hL.2.2.2.2.2.2.2.2.2.2.2.2.2.2.2.2.2.1 j u (by omega); omega)
  refine x_aload_n C eX7_meanWait_0 rfl ?_
  refine x_iload_n C eX7_meanWait_1 rfl ?_
  refine yV1v [_, _, _] [_, _, _, _, _] C (s_X7_testLine hK (by omega)) v_X7_testLine vv_X7_testLine s_RX7_145 eX7_meanWait_2 (fun _ _ h => WF_pick [0, 1, 2, 3, 4] rfl rfl h) (rcv 0 rfl) rfl (nle rfl) (nle rfl) (nle rfl) (nle rfl) rfl ?_
  refine x_aload_n C eX7_meanWait_5 rfl ?_
  refine x_getR 0 C f_RX7_22 eX7_meanWait_6 rfl rfl ?_
  refine x_iload_n C eX7_meanWait_9 rfl ?_
  refine yV1r [_, _, _] [_, _, _, _, _] C (s_X6_lineAt hK (by omega)) v_X6_lineAt vv_X6_lineAt s_RX7_122 eX7_meanWait_10 (fun _ _ h => WF_pick [1, 2, 0, 3, 4] rfl rfl h) (rcv 1 rfl) rfl (nle rfl) (nle rfl) (nle rfl) (nle rfl) rfl ?_
  refine x_astore_n [_, _, _, _] C eX7_meanWait_13 rfl rfl (nlt rfl) ?_
  refine x_aload_n C eX7_meanWait_14 rfl ?_
  refine x_iconst C eX7_meanWait_15 ?_
  refine yV1r [_, _, _, _] [_, _, _, _, _] C (s_FL_counted hK (by omega) (by omega)) v_X0_counted vv_X0_counted s_RX7_184 eX7_meanWait_16 (fun _ _ h => WF_pick [3, 0, 1, 2, 4] rfl rfl h) (rcvP 3 rfl (LF_rcv (by omega))) rfl (nle rfl) (nle rfl) (nle rfl) (nle rfl) rfl ?_
  rw [show (16 : Int) + 1 = 17 from rfl]
  refine x_istore_n [_, _, _, _] C eX7_meanWait_19 rfl rfl (nlt rfl) ?_
  refine x_iload_n C eX7_meanWait_20 rfl ?_
  refine x_if_gt 26 C eX7_meanWait_21 rfl (by omega) (fun h21 => ?_) (fun h21 => ?_)
  · refine x_oL (M := M) (L := L) (m := n) (i := l9) (R := [_, _, _, _]) (by omega) (fun _ _ hw => WF_pick [0, 1, 2, 3, 4] rfl rfl hw) (fun A hA => ?_)
    refine x_aload_n C eX7_meanWait_26 rfl ?_
    refine x_getR 0 C f_RX7_247 eX7_meanWait_27 rfl rfl ?_
    refine x_l2d C eX7_meanWait_30 ?_
    rw [l2d_zL (by omega)]
    refine x_iload_n C eX7_meanWait_31 rfl ?_
    refine x_i2d C eX7_meanWait_32 ?_
    refine x_ddiv C eX7_meanWait_33 (hFP.2 (n l9 15) (n l9 17) (by omega) (by omega) (by omega) (by omega)).1 ?_
    refine x_pick [_, _, _, _, _, _, _, _, _, _, _, _, _, _, _] [0, 1, 2, 3, 4, 5, 6, 7, 8, 9, 10, 11, 12, 13, 14] rfl rfl ?_
    refine x_cL (m := n) (i := l9) (A := A) (B := n l9) (by omega) hA (fun cf c h => ?_) ?_
    · exact h
    rw [un_id]
    refine x_dret C F eX7_meanWait_34 () ?_ trivial (fun cf c h => ?_) (nle rfl) (nle rfl)
    · first
        | rw [show mwA n l9 = 0 from if_pos (by omega)]
        | (rw [show mwA n l9 = mwV (n l9 15) (n l9 17) from if_neg (by omega)]; rfl)
    · exact WF_pick [3, 1, 2, 0, 4] rfl rfl h
  · refine x_dconst0 C eX7_meanWait_24 ?_
    refine x_dret C F eX7_meanWait_25 () ?_ trivial (fun cf c h => ?_) (nle rfl) (nle rfl)
    · first
        | rw [show mwA n l9 = 0 from if_pos (by omega)]
        | (rw [show mwA n l9 = mwV (n l9 15) (n l9 17) from if_neg (by omega)]; rfl)
    · exact WF_pick [3, 1, 2, 0, 4] rfl rfl h
