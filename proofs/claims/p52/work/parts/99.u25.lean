/-! Trunks started over. -/

set_option maxHeartbeats 4000000 in
set_option maxRecDepth 100000 in
theorem s_X6_startOver {G : Gm} {l : Launch} (hK : KG G) {M : Pool} {L : Int → Nat} {t al lg : Nat} {J : Nat → Int}  : MX G l yX6_startOver cX6_startOver 2 none 3 0 0 [.ref t] [ob t 8 (tkS al lg) J, arR G 5 al 6 (fun j => some (L (j : Int))), LFG G L, LOGG G lg] (fun _ : Net => none) CL0 (fun n => [ob t 8 (tkS al lg) (tkI (n)), arR G 5 al 6 (fun j => some (L (j : Int))), LFz G M L (n), LOG G lg (n)]) := by
  refine MX_of (lv := [some (.ref t), none]) hK (by decide +kernel) rfl (nle rfl) (fun X C F => ?_)
  have C : OKc G X l RX6 "startOver" cX6_startOver 2 none 3 0 0 := C
  have loop : ∀ (f k : Nat) (m : Net), k ≤ 6 → 6 < k + f → (∀ j : Int, 0 ≤ j → j < (k : Int) → ∃ J9, m j = bOver J9) → WX G X 0 0 [ob t 8 (tkS al lg) J, arR G 5 al 6 (fun j => some (L (j : Int))), LFs G L (m) (k), LOGG G lg] 2 [some (.ref t), some (.int (zI (k : Int)))] [] := by
    intro f
    induction f with
    | zero => intro k m h0 h1 hm; exfalso; omega
    | succ f ih =>
      intro k m h0 h1 hm
      refine x_iload_n C eX6_startOver_2 rfl ?_
      refine x_aload_n C eX6_startOver_3 rfl ?_
      refine x_getR 0 C f_RX6_11 eX6_startOver_4 rfl rfl ?_
      refine x_alen 1 C eX6_startOver_7 rfl (by decide) arR_al ?_
      refine x_icmp_ge 25 C eX6_startOver_8 rfl (by omega) (by omega) (fun h8 => ?_) (fun h8 => ?_)
      · refine x_aload_n C eX6_startOver_25 rfl ?_
        refine x_getR 0 C f_RX6_20 eX6_startOver_26 rfl rfl ?_
        refine x_oGG (R := [_, _, _]) (fun _ _ hw => WF_pick [3, 0, 1, 2] rfl rfl hw) (fun la9 zz9 xx9 ff9 => ?_)
        refine yV0v [_, _, _] [_, _, _, _, _] C (s_X1_clear hK ) v_X1_clear vv_X1_clear s_RX6_137 eX6_startOver_29 (fun _ _ h => WF_pick [0, 1, 2, 3, 4] rfl rfl h) (rcv 0 rfl) rfl (nle rfl) (nle rfl) (nle rfl) (nle rfl) rfl ?_
        refine x_aload_n C eX6_startOver_32 rfl ?_
        refine x_iconst C eX6_startOver_33 ?_
        refine x_putI [_, _, _, _, _] 2 C f_RX6_24 eX6_startOver_34 rfl rfl rfl ?_
        refine x_aload_n C eX6_startOver_37 rfl ?_
        refine x_iconst C eX6_startOver_38 ?_
        refine x_putI [_, _, _, _, _] 2 C f_RX6_59 eX6_startOver_39 rfl rfl rfl ?_
        refine x_aload_n C eX6_startOver_42 rfl ?_
        refine x_iconst C eX6_startOver_43 ?_
        refine x_putI [_, _, _, _, _] 2 C f_RX6_46 eX6_startOver_44 rfl rfl rfl ?_
        refine x_aload_n C eX6_startOver_47 rfl ?_
        refine x_iconst C eX6_startOver_48 ?_
        refine x_putZ [_, _, _, _, _] 2 C f_RX6_121 eX6_startOver_49 rfl rfl (by omega) rfl ?_
        refine x_aload_n C eX6_startOver_52 rfl ?_
        refine x_iconst C eX6_startOver_53 ?_
        refine x_putI [_, _, _, _, _] 2 C f_RX6_118 eX6_startOver_54 rfl rfl rfl ?_
        refine x_aload_n C eX6_startOver_57 rfl ?_
        refine x_iconst C eX6_startOver_58 ?_
        refine x_putI [_, _, _, _, _] 2 C f_RX6_74 eX6_startOver_59 rfl rfl rfl ?_
        refine x_vret C F eX6_startOver_62 (un m (-1) (fun w => if w = 3 then J 5 else 0)) rfl ⟨fun w hw => by rw [un_s]; exact if_neg hw, fun j u v => by rw [un_n (by omega)]; exact hm j u (by omega)⟩ (fun cf c h => ?_) (nle rfl) (nle rfl)
        have hk6 : k = 6 := by omega
        subst hk6
        have h1 := LOG_0 (n := un m (-1) (fun w => if w = 3 then J 5 else 0)) (R := [_, _, _]) (by rw [un_s]; rfl) (WF_pick [0, 1, 2, 3, 4] rfl rfl h)
        refine PW.wf (PW_cons (tkOb ?_ ?_ ?_ ?_ ?_ ?_ ?_) (PW_cons (fun _ h => h) (PW_cons (fun d h => ?_) (PW_cons (fun _ h => h) PW_nil)))) (WF_pick [1, 2, 3, 0] rfl rfl h1)
        · rfl
        · rfl
        · rfl
        · rfl
        · rfl
        · rfl
        · rfl
        · rw [← LFs_6 (M := M) (by rw [un_s]; rfl)]
          have e : LFs G L (un m (-1) (fun w => if w = 3 then J 5 else 0)) 6 = LFs G L m ((6 : Nat) : Int) := fam6_eq (fun j hj => by
            unfold lsQ
            rw [un_n (by omega)]
            rfl)
          rw [e]
          exact h
      · refine x_aload_n C eX6_startOver_11 rfl ?_
        refine x_iload_n C eX6_startOver_12 rfl ?_
        refine yV1r [_, _] [_, _, _, _] C (s_X6_lineAt hK (by omega)) v_X6_lineAt vv_X6_lineAt s_RX6_32 eX6_startOver_13 (fun _ _ h => WF_pick [0, 1, 2, 3] rfl rfl h) (rcv 0 rfl) rfl (nle rfl) (nle rfl) (nle rfl) (nle rfl) rfl ?_
        skip
        refine x_oS (L := L) (m := m) (i := (k : Int)) (R := [_, _, _]) (by omega) (fun _ _ hw => WF_pick [2, 0, 1, 3] rfl rfl hw) (fun A w9 J9 z9 f9 hA => ?_)
        refine yV0v [_, _, _, _] [_, _, _, _, _, _, _, _, _, _, _, _, _, _] C (s_X0_startOver hK ) v_X0_startOver vv_X0_startOver s_RX6_134 eX6_startOver_16 (fun _ _ h => WF_pick [0, 1, 2, 3, 4, 5, 6, 7, 8, 9, 10, 11, 12, 13] rfl rfl h) (rcv 0 rfl) rfl (nle rfl) (nle rfl) (nle rfl) (nle rfl) rfl ?_
        skip
        refine x_pick [_, _, _, _, _, _, _, _, _, _, _, _, _, _] [0, 1, 2, 3, 4, 5, 6, 7, 8, 9, 10, 11, 12, 13] rfl rfl ?_
        refine x_cS (m := m) (i := (k : Int)) (A := A) (B := bOver J9) (by omega) hA (fun cf c h => h) ?_
        refine x_iinc [_, _] C eX6_startOver_19 rfl rfl rfl ?_
        refine x_goto (pc' := 2) C eX6_startOver_22 rfl ?_
        refine x_pick [_, _, _, _] [1, 2, 0, 3] rfl rfl ?_
        have h3 := ih (k + 1) (un m k (bOver J9)) (by omega) (by omega) (fun j u v => by
          by_cases c : j = (k : Int)
          · rw [c, un_s]; exact ⟨_, rfl⟩
          · rw [un_n c]; exact hm j u (by omega))
        exact h3
  refine x_iconst C eX6_startOver_0 ?_
  refine x_istore_n [_, _] C eX6_startOver_1 rfl rfl (nlt rfl) ?_
  refine x_pick [_, _, _, _] [0, 1, 2, 3] rfl rfl ?_
  have h3 := loop 10 0 (fun _ _ => 0) (by omega) (by omega) (fun j u v => by omega)
  rw [show (((0 : Nat) : Nat) : Int) = 0 from rfl, LFs_0] at h3
  exact h3
