/-! The law's text comes to the input. -/
theorem PL_rcv {G : Gm} {q b : Nat} {w : List Int} (c : Sto) (h : PL G [(q, b, w)] c) : ∃ fs, c q = some (.inr (0, fs)) := ⟨_, (h (q, b, w) (List.mem_singleton.mpr rfl)).1⟩
theorem z_fourP {G : Gm} {l : Launch} (hK : KG G) {q b : Nat} {w : List Int} {a9 : Int} (hS : KS G) (hw : w.length ≤ 400 ∧ ∀ x ∈ w, 0 ≤ x ∧ x < 128) (ha : 0 ≤ a9 ∧ a9 < 100000) : MD G l yL_four cL_four 4 (some .int) 5 0 0 [.ref q, .int (zI a9)] [PL G [(q, b, w)]] (some (.int (zI (fvk w a9 4)))) [PL G [(q, b, w)]] := z_four hK hS (PL_SK hS hw) ha
theorem z_lenP {G : Gm} {l : Launch} (hK : KG G) {q b : Nat} {w : List Int} (hS : KS G) (hw : w.length ≤ 400 ∧ ∀ x ∈ w, 0 ≤ x ∧ x < 128) : MD G l yJ0_length_8abf5 cJ0_length_8abf5 1 (some .int) 2 0 0 [.ref q] [PL G [(q, b, w)]] (some (.int (zI (w.length : Int)))) [PL G [(q, b, w)]] := s_J0_length hK hS (PL_SK hS hw)
theorem apF_at (F : Nat → Int) (z : Nat) (v : Int32) : ∀ (k j : Nat), apF F z v k j = if z ≤ j ∧ j < z + k then bt v (j - z) else F j
  | 0, j => by rw [if_neg (by omega)]; rfl
  | k + 1, j => by
    show up (apF F z v k) (z + k) (bt v k) j = _
    by_cases e : j = z + k
    · subst e
      rw [up_s, if_pos (by omega)]
      congr 1
      omega
    · rw [up_n e, apF_at F z v k j]
      by_cases c : z ≤ j ∧ j < z + k
      · rw [if_pos c, if_pos (by omega)]
      · rw [if_neg c, if_neg (by omega)]
theorem ap5_txt {F : Nat → Int} {w : List Int} (hw : ∀ x ∈ w, 0 ≤ x ∧ x < 128) {z : Nat} (hF : ∀ j : Nat, j < z → F j = w.getD j 0) : ∀ j : Nat, j < z + 20 → ap5 F z (zI (fvk w (z : Int) 4)) (zI (fvk w ((z : Int) + 4) 4)) (zI (fvk w ((z : Int) + 8) 4)) (zI (fvk w ((z : Int) + 12) 4)) (zI (fvk w ((z : Int) + 16) 4)) j = w.getD j 0 := by
  have key : ∀ (F : Nat → Int) (y : Nat) (a : Int), a = (y : Int) → (∀ j : Nat, j < y → F j = w.getD j 0) → ∀ j : Nat, j < y + 4 → apF F y (zI (fvk w a 4)) 4 j = w.getD j 0 := by
    intro F y a ha hF j hj
    rw [apF_at]
    split
    · next c =>
      rw [bt_fv hw a (j - y) (by omega)]
      unfold chr
      congr 1
      omega
    · exact hF j (by omega)
  intro j hj
  unfold ap5
  exact key _ (z + 16) _ (by omega) (fun j hj => key _ (z + 12) _ (by omega) (fun j hj => key _ (z + 8) _ (by omega) (fun j hj => key _ (z + 4) _ (by omega) (fun j hj => key _ z _ rfl hF j hj) j hj) j hj) j hj) j hj
theorem ap5_rg {F : Nat → Int} (hF : ∀ j, -128 ≤ F j ∧ F j ≤ 127) (z : Nat) (a b c d e : Int32) : ∀ j, -128 ≤ ap5 F z a b c d e j ∧ ap5 F z a b c d e j ≤ 127 := by
  have hb : ∀ (v : Int32) (j : Nat), -128 ≤ bt v j ∧ bt v j ≤ 127 := fun v j => by
    unfold bt
    have h1 := (((v >>> (zI (24 - 8 * (j : Int)) &&& 31)).toInt8.toInt32).toInt8).le_toInt
    have h2 := (((v >>> (zI (24 - 8 * (j : Int)) &&& 31)).toInt8.toInt32).toInt8).toInt_lt
    omega
  have h4 : ∀ (F : Nat → Int) (z : Nat) (v : Int32), (∀ j, -128 ≤ F j ∧ F j ≤ 127) → ∀ j, -128 ≤ apF F z v 4 j ∧ apF F z v 4 j ≤ 127 := by
    intro F z v hF j
    rw [apF_at]
    split
    · exact hb _ _
    · exact hF j
  exact h4 _ _ _ (h4 _ _ _ (h4 _ _ _ (h4 _ _ _ (h4 _ _ _ hF))))

set_option maxHeartbeats 4000000 in
set_option maxRecDepth 100000 in
theorem z_feed {G : Gm} {l : Launch} (hK : KG G) {e ip op t tr ps pa sl ib q b : Nat} {J Fb : Nat → Int} {w : List Int} (hS : KS G) (hw : 1 ≤ w.length ∧ w.length ≤ 300) (hb : ∀ x ∈ w, 0 ≤ x ∧ x < 128) (hF : ∀ j : Nat, -128 ≤ Fb j ∧ Fb j ≤ 127) : MX G l yL_feed cL_feed 4 none 6 0 0 [.ref e, .ref q] [ob e 9 (ecS ip op t tr ps pa sl) J, ob ip 6 [some (.ref ib), none] (fun _ => 0), ar G 1 ib 400 400 (Fb), PL G [(q, b, w)]] (fun _ : Nat → Int => none) (fun F : Nat → Int => (∀ j : Nat, j < w.length → F j = w.getD j 0) ∧ ∀ j : Nat, -128 ≤ F j ∧ F j ≤ 127) (fun F : Nat → Int => [ob e 9 (ecS ip op t tr ps pa sl) J, ob ip 6 [some (.ref ib), none] (fun _ => (w.length : Int)), ar G 1 ib 400 400 (F)]) := by
  refine MX_of (lv := [some (.ref e), some (.ref q), none, none]) hK (by decide +kernel) rfl (nle rfl) (fun X C F => ?_)
  have C : OKc G X l RL "feed" cL_feed 4 none 6 0 0 := C
  have loop : ∀ (f z : Nat) (F9 : Nat → Int), 400 < z + f → z < w.length + 20 → (∀ j : Nat, j < z → F9 j = w.getD j 0) → (∀ j : Nat, -128 ≤ F9 j ∧ F9 j ≤ 127) → WX G X 0 0 [ob e 9 (ecS ip op t tr ps pa sl) J, ob ip 6 [some (.ref ib), none] (fun _ => ((z : Nat) : Int)), ar G 1 ib 400 400 (F9), PL G [(q, b, w)]] 4 [some (.ref e), some (.ref q), some (.int (zI (z : Int))), some (.int (zI (z : Int)))] [] := by
    intro f
    induction f with
    | zero => intro z F9 h0 h1 hF9 hR9; exfalso; omega
    | succ f ih =>
      intro z F9 h0 h1 hF9 hR9
      refine x_iload_n C eL_feed_4 rfl ?_
      refine x_aload_n C eL_feed_5 rfl ?_
      refine yV0r [_, _, _] [_, _, _, _] C (z_lenP hK hS ⟨by omega, hb⟩) v_J0_length_8abf5 vv_J0_length_8abf5 s_RL_8 eL_feed_6 (fun _ _ h => WF_pick [3, 0, 1, 2] rfl rfl h) (rcvP 3 rfl PL_rcv) rfl (nle rfl) (nle rfl) (nle rfl) (nle rfl) rfl ?_
      refine x_icmp_lt 16 C eL_feed_9 rfl (by omega) (by omega) (fun h9 => ?_) (fun h9 => ?_)
      · refine x_aload_n C eL_feed_16 rfl ?_
        refine x_aload_n C eL_feed_17 rfl ?_
        refine x_iload_n C eL_feed_18 rfl ?_
        refine yS2r [_, _, _] [_, _, _, _] C (z_fourP hK hS ⟨by omega, hb⟩ (by omega)) v_L_four vs_L_four s_RL_18 eL_feed_19 (fun _ _ h => WF_pick [0, 1, 2, 3] rfl rfl h) rfl (nle rfl) (nle rfl) (nle rfl) (nle rfl) rfl ?_
        refine x_aload_n C eL_feed_22 rfl ?_
        refine x_iload_n C eL_feed_23 rfl ?_
        refine x_iconst C eL_feed_24 ?_
        refine x_iadd C eL_feed_25 ?_
        refine yS2r [_, _, _] [_, _, _, _] C (z_fourP hK hS ⟨by omega, hb⟩ (by omega)) v_L_four vs_L_four s_RL_18 eL_feed_26 (fun _ _ h => WF_pick [0, 1, 2, 3] rfl rfl h) rfl (nle rfl) (nle rfl) (nle rfl) (nle rfl) rfl ?_
        refine x_aload_n C eL_feed_29 rfl ?_
        refine x_iload_n C eL_feed_30 rfl ?_
        refine x_bipush C eL_feed_31 rfl ?_
        refine x_iadd C eL_feed_33 ?_
        refine yS2r [_, _, _] [_, _, _, _] C (z_fourP hK hS ⟨by omega, hb⟩ (by omega)) v_L_four vs_L_four s_RL_18 eL_feed_34 (fun _ _ h => WF_pick [0, 1, 2, 3] rfl rfl h) rfl (nle rfl) (nle rfl) (nle rfl) (nle rfl) rfl ?_
        refine x_aload_n C eL_feed_37 rfl ?_
        refine x_iload_n C eL_feed_38 rfl ?_
        refine x_bipush C eL_feed_39 rfl ?_
        refine x_iadd C eL_feed_41 ?_
        refine yS2r [_, _, _] [_, _, _, _] C (z_fourP hK hS ⟨by omega, hb⟩ (by omega)) v_L_four vs_L_four s_RL_18 eL_feed_42 (fun _ _ h => WF_pick [0, 1, 2, 3] rfl rfl h) rfl (nle rfl) (nle rfl) (nle rfl) (nle rfl) rfl ?_
        refine x_aload_n C eL_feed_45 rfl ?_
        refine x_iload_n C eL_feed_46 rfl ?_
        refine x_bipush C eL_feed_47 rfl ?_
        refine x_iadd C eL_feed_49 ?_
        refine yS2r [_, _, _] [_, _, _, _] C (z_fourP hK hS ⟨by omega, hb⟩ (by omega)) v_L_four vs_L_four s_RL_18 eL_feed_50 (fun _ _ h => WF_pick [0, 1, 2, 3] rfl rfl h) rfl (nle rfl) (nle rfl) (nle rfl) (nle rfl) rfl ?_
        refine yV5r [_] [_, _, _, _] C (s_X7_append hK (by omega)) v_X7_append vv_X7_append s_RL_24 eL_feed_53 (fun _ _ h => WF_pick [1, 2, 3, 0] rfl rfl h) (rcv 1 rfl) rfl (nle rfl) (nle rfl) (nle rfl) (nle rfl) rfl ?_
        refine x_istore_n [_, _, _, _] C eL_feed_56 rfl rfl (nlt rfl) ?_
        refine x_iinc [_, _, _, _] C eL_feed_57 rfl rfl rfl ?_
        refine x_goto (pc' := 4) C eL_feed_60 rfl ?_
        refine x_pick [_, _, _, _] [0, 1, 2, 3] rfl rfl ?_
        exact ih (z + 20) _ (by omega) (by omega) (ap5_txt hb hF9) (ap5_rg hR9 _ _ _ _ _ _)
      · refine x_iload_n C eL_feed_12 rfl ?_
        refine x_if_ne 63 C eL_feed_13 rfl (by omega) (fun h13 => ?_) (fun h13 => ?_)
        · refine x_aload_n C eL_feed_63 rfl ?_
          refine x_iload_n C eL_feed_64 rfl ?_
          refine x_aload_n C eL_feed_65 rfl ?_
          refine yV0r [_, _, _] [_, _, _, _] C (z_lenP hK hS ⟨by omega, hb⟩) v_J0_length_8abf5 vv_J0_length_8abf5 s_RL_8 eL_feed_66 (fun _ _ h => WF_pick [0, 1, 2, 3] rfl rfl h) (rcvP 0 rfl PL_rcv) rfl (nle rfl) (nle rfl) (nle rfl) (nle rfl) rfl ?_
          refine x_min C s_RL_30 s2_min eL_feed_69 rfl (nle rfl) (nle rfl) (nle rfl) (nle rfl) (by omega) (by omega) ?_
          rw [show min (z : Int) (w.length : Int) = (w.length : Int) by omega]
          refine yV1v [_, _] [_, _, _, _] C (s_X7_truncate hK (by omega) (by omega)) v_X7_truncate vv_X7_truncate s_RL_36 eL_feed_72 (fun _ _ h => WF_pick [1, 2, 0, 3] rfl rfl h) (rcv 1 rfl) rfl (nle rfl) (nle rfl) (nle rfl) (nle rfl) rfl ?_
          refine x_vret C F eL_feed_75 F9 rfl ⟨fun j hj => hF9 j (by omega), hR9⟩ (fun cf c h => ?_) (nle rfl) (nle rfl)
          exact WF_pick [0, 1, 3] rfl rfl h
        · refine x_aload_n C eL_feed_16 rfl ?_
          refine x_aload_n C eL_feed_17 rfl ?_
          refine x_iload_n C eL_feed_18 rfl ?_
          refine yS2r [_, _, _] [_, _, _, _] C (z_fourP hK hS ⟨by omega, hb⟩ (by omega)) v_L_four vs_L_four s_RL_18 eL_feed_19 (fun _ _ h => WF_pick [0, 1, 2, 3] rfl rfl h) rfl (nle rfl) (nle rfl) (nle rfl) (nle rfl) rfl ?_
          refine x_aload_n C eL_feed_22 rfl ?_
          refine x_iload_n C eL_feed_23 rfl ?_
          refine x_iconst C eL_feed_24 ?_
          refine x_iadd C eL_feed_25 ?_
          refine yS2r [_, _, _] [_, _, _, _] C (z_fourP hK hS ⟨by omega, hb⟩ (by omega)) v_L_four vs_L_four s_RL_18 eL_feed_26 (fun _ _ h => WF_pick [0, 1, 2, 3] rfl rfl h) rfl (nle rfl) (nle rfl) (nle rfl) (nle rfl) rfl ?_
          refine x_aload_n C eL_feed_29 rfl ?_
          refine x_iload_n C eL_feed_30 rfl ?_
          refine x_bipush C eL_feed_31 rfl ?_
          refine x_iadd C eL_feed_33 ?_
          refine yS2r [_, _, _] [_, _, _, _] C (z_fourP hK hS ⟨by omega, hb⟩ (by omega)) v_L_four vs_L_four s_RL_18 eL_feed_34 (fun _ _ h => WF_pick [0, 1, 2, 3] rfl rfl h) rfl (nle rfl) (nle rfl) (nle rfl) (nle rfl) rfl ?_
          refine x_aload_n C eL_feed_37 rfl ?_
          refine x_iload_n C eL_feed_38 rfl ?_
          refine x_bipush C eL_feed_39 rfl ?_
          refine x_iadd C eL_feed_41 ?_
          refine yS2r [_, _, _] [_, _, _, _] C (z_fourP hK hS ⟨by omega, hb⟩ (by omega)) v_L_four vs_L_four s_RL_18 eL_feed_42 (fun _ _ h => WF_pick [0, 1, 2, 3] rfl rfl h) rfl (nle rfl) (nle rfl) (nle rfl) (nle rfl) rfl ?_
          refine x_aload_n C eL_feed_45 rfl ?_
          refine x_iload_n C eL_feed_46 rfl ?_
          refine x_bipush C eL_feed_47 rfl ?_
          refine x_iadd C eL_feed_49 ?_
          refine yS2r [_, _, _] [_, _, _, _] C (z_fourP hK hS ⟨by omega, hb⟩ (by omega)) v_L_four vs_L_four s_RL_18 eL_feed_50 (fun _ _ h => WF_pick [0, 1, 2, 3] rfl rfl h) rfl (nle rfl) (nle rfl) (nle rfl) (nle rfl) rfl ?_
          refine yV5r [_] [_, _, _, _] C (s_X7_append hK (by omega)) v_X7_append vv_X7_append s_RL_24 eL_feed_53 (fun _ _ h => WF_pick [1, 2, 3, 0] rfl rfl h) (rcv 1 rfl) rfl (nle rfl) (nle rfl) (nle rfl) (nle rfl) rfl ?_
          refine x_istore_n [_, _, _, _] C eL_feed_56 rfl rfl (nlt rfl) ?_
          refine x_iinc [_, _, _, _] C eL_feed_57 rfl rfl rfl ?_
          refine x_goto (pc' := 4) C eL_feed_60 rfl ?_
          refine x_pick [_, _, _, _] [0, 1, 2, 3] rfl rfl ?_
          exact ih (z + 20) _ (by omega) (by omega) (ap5_txt hb hF9) (ap5_rg hR9 _ _ _ _ _ _)
  refine x_iconst C eL_feed_0 ?_
  refine x_istore_n [_, _, _, _] C eL_feed_1 rfl rfl (nlt rfl) ?_
  refine x_iconst C eL_feed_2 ?_
  refine x_istore_n [_, _, _, _] C eL_feed_3 rfl rfl (nlt rfl) ?_
  exact loop 401 0 Fb (by omega) (by omega) (fun j hj => absurd hj (Nat.not_lt_zero j)) hF
