/-! The law from its entry: both sides are made, the loop begins. -/
theorem NamOk_init : NamOk nInit := fun j h0 hl => by
  have h1 : nInit (-1) 0 = 1 := rfl
  have hj : j = 0 := by omega
  subst hj
  have e : nInit 0 0 = 0 := rfl
  rw [e]
  exact ⟨[], by decide, (fun x hx => absurd hx List.not_mem_nil), rfl⟩
theorem INV_init : INV 0 (up (fun _ => 0) 9 (-1)) [] nInit (fun _ => Zn) (fun _ => Zn) (fun _ => 0) (fun _ => 0) [] 0 (up (fun _ => 0) 13 (-1)) :=
  INV.mk ⟨nInit_ok, NamOk_init⟩ (by decide) rfl rfl trivial rfl trivial (by decide) rfl (by decide) (fun _ => by decide) (fun j hj => absurd hj (by rw [up_n (by decide)]; omega)) (fun _ _ h => absurd h (by decide)) (fun _ => Or.inl rfl) (by decide) (fun j => by show 0 ≤ ([] : List Int).getD j 0 ∧ ([] : List Int).getD j 0 ≤ 127; rw [List.getD_nil]; decide) rfl (fun x hx => absurd hx List.not_mem_nil)
theorem encM_Z (j : Nat) : (0 : Int) = encM (fun _ => Zn) j := by
  unfold encM enc Zn
  split
  · rfl
  · split <;> rfl
def LFxOf (b L : Nat) (xs : Nat → Int32) (e o oq od ip op t tr ps pa sl ib ob9 al lg : Nat) (LL L2 : Int → Nat) (A : Nat → Nat) : LFx := (fun k => match k with | 0 => b | 1 => L | 2 => e | 3 => o | 4 => oq | 5 => od | 6 => ip | 7 => op | 8 => t | 9 => tr | 10 => ps | 11 => pa | 12 => sl | 13 => ib | 14 => ob9 | 15 => al | _ => lg, xs, LL, L2, A)
set_option maxHeartbeats 4000000 in
set_option maxRecDepth 100000 in
theorem law_body {G : Gm} {X : Cx} {l : Launch} {b L : Nat} {xs : Nat → Int32} (hX : KX G) (hT0 : l.stackTraces = false) (hFP : FPok) (n1 : va_Nc "java/lang/IllegalArgumentException" "java/lang/IndexOutOfBoundsException" G.1) (n2 : va_Nc "java/lang/IllegalStateException" "java/lang/IndexOutOfBoundsException" G.1) (hx : va_X b L xs G.1 G.1.heap) (hbl : b < G.1.heap.size) (hL : L ≤ 3072)
    {nmL : String} (hC : OKc G X l RL nmL cL_law 9 (some .boolean) 1400 600000 6200000) (hF : FIN G X 600000 6200000 (fun _ : Unit => some (.int (zI 1))) (fun _ => True) (fun _ => [])) : WX G X 0 0 [] 0 [some (.ref b), none, none, none, none, none, none, none, none] [] := by
  have C := hC
  have hS : KS G := hX.1
  have hK : KG G := hS.1.1
  refine x_new C n_RL_8 eL_law_0 (nle rfl) (nle rfl) (fun e => ?_)
  refine x_dup C eL_law_3 rfl ?_
  refine yI0x (ret' := none) [] C (s_X7_init hK hS) v_X7_init vi_X7_init rfl s_RL_135 eL_law_4 (fun _ _ h => WF_pick [0] rfl rfl h) rfl (nle rfl) (nle rfl) (nle rfl) (nle rfl) (fun x9 _ => ?_)
  obtain ⟨⟨ip, op, t, tr, ps, pa, sl, ib, ob9⟩, LL, L2⟩ := x9
  refine x_astore_n [_, _, _, _, _, _, _, _, _] C eL_law_7 rfl rfl (nlt rfl) ?_
  refine x_new C n_RL_136 eL_law_8 (nle rfl) (nle rfl) (fun o => ?_)
  refine x_dup C eL_law_11 rfl ?_
  refine yI0x (ret' := none) [_, _, _, _, _, _, _, _, _, _, _] C (s_X8_init hK) v_X8_init vi_X8_init rfl s_RL_138 eL_law_12 (fun _ _ h => WF_pick [0, 1, 2, 3, 4, 5, 6, 7, 8, 9, 10, 11] rfl rfl h) rfl (nle rfl) (nle rfl) (nle rfl) (nle rfl) (fun A _ => ?_)
  refine x_astore_n [_, _, _, _, _, _, _, _, _] C eL_law_15 rfl rfl (nlt rfl) ?_
  refine x_iconst C eL_law_16 ?_
  refine x_newL (N := 1) C ac_long eL_law_17 rfl (nle rfl) (nle rfl) (nle rfl) (fun oq => ?_)
  refine x_astore_n [_, _, _, _, _, _, _, _, _] C eL_law_19 rfl rfl (nlt rfl) ?_
  refine x_iconst C eL_law_20 ?_
  refine x_newD (N := 1) C ac_double eL_law_21 rfl (nle rfl) (nle rfl) (nle rfl) (fun od => ?_)
  refine x_astore [_, _, _, _, _, _, _, _, _] C eL_law_23 rfl rfl (nlt rfl) ?_
  refine x_iconst C eL_law_25 ?_
  refine x_istore [_, _, _, _, _, _, _, _, _] C eL_law_26 rfl rfl (nlt rfl) ?_
  refine x_pick [_, _, _, _, _, _, _, _, _, _, _, _, _, _, _, _, _, _, _, _, _, _] [12, 0, 1, 2, 3, 4, 5, 6, 7, 8, 9, 10, 11, 13, 14, 15, 16, 17, 18, 19, 20, 21] rfl rfl ?_
  refine x_oTO (R := [_, _, _, _, _, _, _, _, _, _, _, _, _, _, _, _, _, _, _, _, _]) (fun _ _ h => WF_pick [0, 1, 2, 3, 4, 5, 6, 7, 8, 9, 10, 11, 12, 13, 14, 15, 16, 17, 18, 19, 20, 21] rfl rfl h) (fun al lg => ?_)
  refine x_oFQ (R := [_, _, _, _, _, _, _, _, _, _, _, _, _, _, _, _, _, _, _, _, _, _, _, _]) (fun _ _ h => WF_pick [6, 0, 1, 2, 3, 4, 5, 7, 8, 9, 10, 11, 12, 13, 14, 15, 16, 17, 18, 19, 20, 21, 22, 23, 24] rfl rfl h) (fun N9 => ?_)
  refine x_pick [_, _, _, _, _, _, _, _, _, _, _, _, _, _, _, _, _, _, _, _, _, _, _, _, _] [11, 12, 14, 0, 1, 2, 3, 4, 5, 6, 7, 8, 9, 10, 13, 15, 16, 17, 18, 19, 20, 21, 22, 23, 24] rfl rfl ?_
  refine x_wf (ws' := ar G 0 (A 19) 10896 10896 (encM (fun _ => Zn)) :: ar G 0 (A 17) 3632 3632 (encM (fun _ => Zn)) :: ar G 1 (A 21) 200 ([] : List Int).length (oF []) :: [_, _, _, _, _, _, _, _, _, _, _, _, _, _, _, _, _, _, _, _, _, _]) (fun _ _ h => PW.wf (PW_cons (fun _ h => ar_congr (Nat.le_refl _) (fun j _ => encM_Z j) h) (PW_cons (fun _ h => ar_congr (Nat.le_refl _) (fun j _ => encM_Z j) h) (PW_cons (fun _ h => ar_congr (Nat.zero_le _) (fun j hj => absurd hj (Nat.not_lt_zero j)) h) PW_rf))) h) ?_
  refine x_pick [_, _, _, _, _, _, _, _, _, _, _, _, _, _, _, _, _, _, _, _, _, _, _, _, _] [15, 4, 5, 6, 7, 16, 17, 18, 19, 20, 21, 22, 23, 24, 10, 3, 11, 12, 13, 0, 1, 14, 2, 9, 8] rfl rfl ?_
  have H : LKn G l (LFxOf b L xs e o oq od ip op t tr ps pa sl ib ob9 al lg LL L2 A) := ⟨hX, hT0, hFP, n1, n2, hx, hbl, hL⟩
  exact law_loop H hC hF 513 INV_init (by decide) (by show (L : Int) - 6 < 0 + 6 * ((513 : Nat) : Int); omega) (by decide) (nle rfl) (nle rfl) (by decide)
