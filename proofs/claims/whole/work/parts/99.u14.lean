/-! Numbers written. -/
theorem pw_up {a b : Nat} (h : a ≤ b) : pw 10 (a + 1) ≤ pw 10 (b + 1) := Int.ofNat_le.mpr (Nat.pow_le_pow_right (by decide) h)
theorem top_is {v : Int} {k : Nat} (hk : v / pw 10 (k + 1) < 10) (h : ∀ j : Nat, j < k → ¬ v / pw 10 (j + 1) < 10) : ∀ f j : Nat, j ≤ k → k ≤ j + f → top 10 v f j = k := by
  intro f
  induction f with
  | zero => intro j h1 h2; show j = k; omega
  | succ f ih =>
    intro j h1 h2
    unfold top
    by_cases c : j = k
    · subst c; exact if_pos hk
    · exact (if_neg (h j (by omega))).trans (ih (j + 1) (by omega) (by omega))
theorem pw_q0 {v : Int} {m : Nat} (h : v / pw 10 (m + 1) = 0) (hv : 0 ≤ v) : v < pw 10 (m + 1) := by
  have hp := pw_pos (q := 10) (by decide) m
  refine Classical.byContradiction fun c => ?_
  have := Int.le_ediv_of_mul_le (a := 1) hp (show 1 * pw 10 (m + 1) ≤ v by omega)
  omega
theorem pw_q1 {v : Int} {m : Nat} (h : 0 < v / pw 10 (m + 1)) (hv : 0 ≤ v) : pw 10 (m + 1) ≤ v := by
  refine Classical.byContradiction fun c => ?_
  have := Int.ediv_eq_zero_of_lt hv (show v < pw 10 (m + 1) by omega)
  omega
theorem dec_is {v : Int} {m : Nat} (hv : 0 ≤ v) (hm : m < 10) (h10 : v / pw 10 (m + 1) < 10) (h : m = 0 ∨ 0 < v / pw 10 (m + 1)) : dec v = dgQ 10 48 v (m + 1) := by
  unfold dec
  rw [top_is h10 (fun j hj => ?_) 10 0 (by omega) (by omega)]
  have h1 := pw_q1 (h.resolve_left (by omega)) hv
  have h2 := pw_up (show j + 1 ≤ m by omega)
  have hp := pw_pos (q := 10) (by decide) j
  have h3 : 10 * pw 10 (j + 1) ≤ v := by
    have := pw_mul (q := 10) (k := j)
    rw [show pw 10 (j + 1) * ((10 : Nat) : Int) = 10 * pw 10 (j + 1) from Int.mul_comm _ _] at this
    omega
  have := Int.le_ediv_of_mul_le hp h3
  omega
theorem dec_pos (v : Int) : 0 < (dec v).length := by unfold dec; rw [dgQ_len]; omega

set_option maxHeartbeats 4000000 in
set_option maxRecDepth 100000 in
theorem s_X4_addNumber {G : Gm} {l : Launch} (hK : KG G) {q b : Nat} {w : List Int} {v9 : Int} (hv : 0 ≤ v9 ∧ v9 < 2147483648) (hw : (w ++ dec v9).length ≤ 400) : MD G l yX4_addNumber cX4_addNumber 5 none 2 0 0 [.ref q, .int (zI v9)] [ob q 6 [some (.ref b), none] (fun _ => ((w).length : Int)), ar G 1 b 400 (w).length (oF (w))] none [ob q 6 [some (.ref b), none] (fun _ => ((w ++ dec v9).length : Int)), ar G 1 b 400 (w ++ dec v9).length (oF (w ++ dec v9))] := by
  refine MX_of (lv := [some (.ref q), some (.int (zI v9)), none, none, none]) hK (by decide +kernel) rfl (nle rfl) (fun X C F => ?_)
  have C : OKc G X l RX4 "addNumber" cX4_addNumber 5 none 2 0 0 := C
  have loop : ∀ (f m : Nat) (w1 : List Int) (p9 : Prop) [Decidable p9], m ≤ 10 → m < f → (¬ p9 → w1 = w ∧ 0 < m ∧ v9 < pw 10 (m + 1)) → (p9 → w1 ++ dgQ 10 48 v9 m = w ++ dec v9) → WX G X 0 0 [ob q 6 [some (.ref b), none] (fun _ => ((w1).length : Int)), ar G 1 b 400 (w1).length (oF (w1))] 5 [some (.ref q), some (.int (zI v9)), some (.int (zI (bz p9))), some (.int (zI (pw 10 m))), none] [] := by
    intro f
    induction f with
    | zero => intro m w1 p9 _ h0 h1; exfalso; omega
    | succ f ih =>
      intro m w1 p9 _ h0 h1 g1 g2
      have hmu := pw_nn 10 m
      have hmv : pw 10 m ≤ 1000000000 := by
        cases m with
        | zero => decide
        | succ m' => exact pw_up (show m' ≤ 9 by omega)
      refine x_iload_n C eX4_addNumber_5 rfl ?_
      refine x_if_le 50 C eX4_addNumber_6 rfl (by omega) (fun h6 => ?_) (fun h6 => ?_)
      · cases m with
        | succ m' => exact absurd (pw_pos (q := 10) (by decide) m') (by omega)
        | zero =>
        skip
        refine x_vret C F eX4_addNumber_50 () rfl trivial (fun cf c h => ?_) (nle rfl) (nle rfl)
        have e : w1 = w ++ dec v9 := by
          by_cases c : p9
          · rw [← g2 c]; exact (List.append_nil _).symm
          · have := (g1 c).2.1; omega
        rw [← e]
        exact WF_pick [0, 1] rfl rfl h
      · cases m with
        | zero => exact absurd h6 (by decide)
        | succ m' =>
        have hpp := pw_pos (q := 10) (by decide) m'
        have hpu := pw_up (show m' ≤ 9 by omega)
        rw [show pw 10 (9 + 1) = 1000000000 from rfl] at hpu
        have hq0 : 0 ≤ v9 / pw 10 (m' + 1) := Int.ediv_nonneg hv.1 (by omega)
        have hq1 : v9 / pw 10 (m' + 1) ≤ v9 := Int.ediv_le_self _ hv.1
        have hd0 : 0 ≤ v9 / pw 10 (m' + 1) % 10 ∧ v9 / pw 10 (m' + 1) % 10 < 10 := ⟨Int.emod_nonneg _ (by decide), Int.emod_lt_of_pos _ (by decide)⟩
        have hdp := dec_pos v9
        have hlw : w1.length < 400 := by
          rw [List.length_append] at hw
          by_cases c : p9
          · have := congrArg List.length (g2 c)
            rw [List.length_append, List.length_append, dgQ_len] at this
            omega
          · rw [(g1 c).1]; omega
        refine x_iload_n C eX4_addNumber_9 rfl ?_
        refine x_iload_n C eX4_addNumber_10 rfl ?_
        refine x_idiv C eX4_addNumber_11 (by omega) ?_
        refine x_bipush C eX4_addNumber_12 rfl ?_
        refine x_irem C eX4_addNumber_14 (by omega) ?_
        refine x_istore [_, _, _, _, _] C eX4_addNumber_15 rfl rfl (nlt rfl) ?_
        refine x_iload_n C eX4_addNumber_17 rfl ?_
        refine x_ifb_ne 31 C eX4_addNumber_18 rfl (fun h18 => ?_) (fun h18 => ?_)
        · have hz : p9 := by assumption
          refine x_aload_n C eX4_addNumber_31 rfl ?_
          refine x_bipush C eX4_addNumber_32 rfl ?_
          refine x_iload C eX4_addNumber_34 rfl ?_
          refine x_iadd C eX4_addNumber_36 ?_
          refine yV1v [] [_, _] C (s_X4_addByte hK hlw (by omega)) v_X4_addByte vv_X4_addByte s_RX4_29 eX4_addNumber_37 (fun _ _ h => WF_pick [0, 1] rfl rfl h) (rcv 0 rfl) rfl (nle rfl) (nle rfl) (nle rfl) (nle rfl) rfl ?_
          skip
          refine x_iconst C eX4_addNumber_40 ?_
          refine x_istore_n [_, _, _, _, _] C eX4_addNumber_41 rfl rfl (nlt rfl) ?_
          refine x_iload_n C eX4_addNumber_42 rfl ?_
          refine x_bipush C eX4_addNumber_43 rfl ?_
          refine x_idiv C eX4_addNumber_45 (by omega) ?_
          refine x_istore_n [_, _, _, _, _] C eX4_addNumber_46 rfl rfl (nlt rfl) ?_
          refine x_goto (pc' := 5) C eX4_addNumber_47 rfl ?_
          refine x_lv [_, _, _, _, none] rfl (lx_drop _ [4] rfl) ?_
          rw [show pw 10 (m' + 1) / 10 = pw 10 m' from pw_div (by decide) m']
          refine ih m' _ True (by omega) (by omega) (fun z => absurd trivial z) (fun _ => ?_)
          by_cases c : p9
          · rw [List.append_assoc]; exact g2 c
          · have g3 := g1 c
            have h10 : v9 / pw 10 (m' + 1) < 10 := Int.ediv_lt_of_lt_mul hpp (by
              have := pw_mul (q := 10) (k := m')
              rw [show pw 10 (m' + 1) * ((10 : Nat) : Int) = 10 * pw 10 (m' + 1) from Int.mul_comm _ _] at this
              omega)
            have hz2 : m' = 0 ∨ 0 < v9 / pw 10 (m' + 1) := by
              first
                | exact absurd hz c
                | (rcases hz with z | z; exact Or.inl z; exact Or.inr (by omega))
            rw [dec_is hv.1 (by omega) h10 hz2, g3.1, List.append_assoc]; rfl
        · refine x_iload C eX4_addNumber_21 rfl ?_
          refine x_if_ne 31 C eX4_addNumber_23 rfl (by omega) (fun h23 => ?_) (fun h23 => ?_)
          · have hz : m' = 0 ∨ 0 < v9 / pw 10 (m' + 1) % 10 := Or.inr (by omega)
            refine x_aload_n C eX4_addNumber_31 rfl ?_
            refine x_bipush C eX4_addNumber_32 rfl ?_
            refine x_iload C eX4_addNumber_34 rfl ?_
            refine x_iadd C eX4_addNumber_36 ?_
            refine yV1v [] [_, _] C (s_X4_addByte hK hlw (by omega)) v_X4_addByte vv_X4_addByte s_RX4_29 eX4_addNumber_37 (fun _ _ h => WF_pick [0, 1] rfl rfl h) (rcv 0 rfl) rfl (nle rfl) (nle rfl) (nle rfl) (nle rfl) rfl ?_
            skip
            refine x_iconst C eX4_addNumber_40 ?_
            refine x_istore_n [_, _, _, _, _] C eX4_addNumber_41 rfl rfl (nlt rfl) ?_
            refine x_iload_n C eX4_addNumber_42 rfl ?_
            refine x_bipush C eX4_addNumber_43 rfl ?_
            refine x_idiv C eX4_addNumber_45 (by omega) ?_
            refine x_istore_n [_, _, _, _, _] C eX4_addNumber_46 rfl rfl (nlt rfl) ?_
            refine x_goto (pc' := 5) C eX4_addNumber_47 rfl ?_
            refine x_lv [_, _, _, _, none] rfl (lx_drop _ [4] rfl) ?_
            rw [show pw 10 (m' + 1) / 10 = pw 10 m' from pw_div (by decide) m']
            refine ih m' _ True (by omega) (by omega) (fun z => absurd trivial z) (fun _ => ?_)
            by_cases c : p9
            · rw [List.append_assoc]; exact g2 c
            · have g3 := g1 c
              have h10 : v9 / pw 10 (m' + 1) < 10 := Int.ediv_lt_of_lt_mul hpp (by
                have := pw_mul (q := 10) (k := m')
                rw [show pw 10 (m' + 1) * ((10 : Nat) : Int) = 10 * pw 10 (m' + 1) from Int.mul_comm _ _] at this
                omega)
              have hz2 : m' = 0 ∨ 0 < v9 / pw 10 (m' + 1) := by
                first
                  | exact absurd hz c
                  | (rcases hz with z | z; exact Or.inl z; exact Or.inr (by omega))
              rw [dec_is hv.1 (by omega) h10 hz2, g3.1, List.append_assoc]; rfl
          · refine x_iload_n C eX4_addNumber_26 rfl ?_
            refine x_iconst C eX4_addNumber_27 ?_
            refine x_icmp_ne 42 C eX4_addNumber_28 rfl (by omega) (by omega) (fun h28 => ?_) (fun h28 => ?_)
            · refine x_iload_n C eX4_addNumber_42 rfl ?_
              refine x_bipush C eX4_addNumber_43 rfl ?_
              refine x_idiv C eX4_addNumber_45 (by omega) ?_
              refine x_istore_n [_, _, _, _, _] C eX4_addNumber_46 rfl rfl (nlt rfl) ?_
              refine x_goto (pc' := 5) C eX4_addNumber_47 rfl ?_
              refine x_lv [_, _, _, _, none] rfl (lx_drop _ [4] rfl) ?_
              rw [show pw 10 (m' + 1) / 10 = pw 10 m' from pw_div (by decide) m']
              refine ih m' w1 p9 (by omega) (by omega) (fun z => ⟨(g1 z).1, Nat.pos_of_ne_zero (fun z0 => ?_), ?_⟩) (fun z => absurd z (by assumption))
              · subst z0
                exact absurd (show pw 10 (0 + 1) = 1 from rfl) (by omega)
              · have h10 : v9 / pw 10 (m' + 1) < 10 := Int.ediv_lt_of_lt_mul hpp (by
                  have := pw_mul (q := 10) (k := m')
                  have g3 := g1 z
                  rw [show pw 10 (m' + 1) * ((10 : Nat) : Int) = 10 * pw 10 (m' + 1) from Int.mul_comm _ _] at this
                  omega)
                exact pw_q0 (by omega) hv.1
            · have hz : m' = 0 ∨ 0 < v9 / pw 10 (m' + 1) % 10 := Or.inl (Classical.byContradiction fun c => by
                have := pw_up (show 1 ≤ m' by omega)
                rw [show pw 10 (1 + 1) = 10 from rfl] at this
                omega)
              refine x_aload_n C eX4_addNumber_31 rfl ?_
              refine x_bipush C eX4_addNumber_32 rfl ?_
              refine x_iload C eX4_addNumber_34 rfl ?_
              refine x_iadd C eX4_addNumber_36 ?_
              refine yV1v [] [_, _] C (s_X4_addByte hK hlw (by omega)) v_X4_addByte vv_X4_addByte s_RX4_29 eX4_addNumber_37 (fun _ _ h => WF_pick [0, 1] rfl rfl h) (rcv 0 rfl) rfl (nle rfl) (nle rfl) (nle rfl) (nle rfl) rfl ?_
              skip
              refine x_iconst C eX4_addNumber_40 ?_
              refine x_istore_n [_, _, _, _, _] C eX4_addNumber_41 rfl rfl (nlt rfl) ?_
              refine x_iload_n C eX4_addNumber_42 rfl ?_
              refine x_bipush C eX4_addNumber_43 rfl ?_
              refine x_idiv C eX4_addNumber_45 (by omega) ?_
              refine x_istore_n [_, _, _, _, _] C eX4_addNumber_46 rfl rfl (nlt rfl) ?_
              refine x_goto (pc' := 5) C eX4_addNumber_47 rfl ?_
              refine x_lv [_, _, _, _, none] rfl (lx_drop _ [4] rfl) ?_
              rw [show pw 10 (m' + 1) / 10 = pw 10 m' from pw_div (by decide) m']
              refine ih m' _ True (by omega) (by omega) (fun z => absurd trivial z) (fun _ => ?_)
              by_cases c : p9
              · rw [List.append_assoc]; exact g2 c
              · have g3 := g1 c
                have h10 : v9 / pw 10 (m' + 1) < 10 := Int.ediv_lt_of_lt_mul hpp (by
                  have := pw_mul (q := 10) (k := m')
                  rw [show pw 10 (m' + 1) * ((10 : Nat) : Int) = 10 * pw 10 (m' + 1) from Int.mul_comm _ _] at this
                  omega)
                have hz2 : m' = 0 ∨ 0 < v9 / pw 10 (m' + 1) := by
                  first
                    | exact absurd hz c
                    | (rcases hz with z | z; exact Or.inl z; exact Or.inr (by omega))
                rw [dec_is hv.1 (by omega) h10 hz2, g3.1, List.append_assoc]; rfl
  refine x_iconst C eX4_addNumber_0 ?_
  refine x_istore_n [_, _, _, _, _] C eX4_addNumber_1 rfl rfl (nlt rfl) ?_
  refine x_ldc (own2 := RX4) C eX4_addNumber_2 k_RX4_33 ?_
  refine x_istore_n [_, _, _, _, _] C eX4_addNumber_4 rfl rfl (nlt rfl) ?_
  have h3 := loop 11 10 w False (by decide) (by decide) (fun _ => ⟨rfl, by decide, by rw [show pw 10 (10 + 1) = 10000000000 from rfl]; omega⟩) (fun z => absurd z id)
  exact h3
