/-! The methods of a line, over the family. -/
theorem bOffer_0 {B : Blk} {v : Int} (h : 0 ≤ B 7) : bOffer B v 0 = B 0 := by
  unfold bOffer inc
  split <;> simp (disch := omega) only [ub_n]
theorem bDeliver_0 {B : Blk} : bDeliver B 0 = B 0 := by
  unfold bDeliver
  split
  · rfl
  · unfold inc
    rw [ub_n (by decide), bDrop_n (by decide) (by omega), ub_n (by decide)]
theorem bBreak_0 {B : Blk} {t : Int} : bBreak B t 0 = B 0 := by
  unfold bBreak bBreak0
  rw [bStop_n (by decide) (by decide)]
  simp (disch := omega) only [inc, ub_n]
theorem bType_0 {B : Blk} {v time : Int} (h : (0 ≤ B 7 ∧ B 7 ≤ B 1 ∧ B 1 ≤ 60) ∧ (0 ≤ B 8 ∧ B 8 ≤ 60) ∧ 0 ≤ B 6) : bType B v time 0 = B 0 := by
  unfold bType
  have e0 : bStop (bIn B v time) 0 = B 0 := by rw [bStop_n (by decide) (by decide), bIn_n h.2.2 (by omega)]
  have e7 : bStop (bIn B v time) 7 = B 7 := by rw [bStop_n (by decide) (by decide), bIn_n h.2.2 (by omega)]
  have e1 : bStop (bIn B v time) 1 = B 1 := by rw [bStop_n (by decide) (by decide), bIn_n h.2.2 (by omega)]
  have e8 : bStop (bIn B v time) 8 = B 8 := by rw [bStop_n (by decide) (by decide), bIn_n h.2.2 (by omega)]
  split
  · unfold inc
    rw [ub_n (by decide), ub_n (by decide)]
  · split
    · rw [bOffer_0 (by rw [e7]; exact h.1.1), e0]
    · split
      · have h8 : 0 ≤ bStop (bIn B v time) 8 ∧ bStop (bIn B v time) 8 ≤ 60 := by rw [e8]; exact h.2.1
        have w : ∀ k, k < 8 ∨ 8 < k ∧ k < 208 → bWhole1 (bStop (bIn B v time)) v k = bStop (bIn B v time) k := fun k hk => bWhole1_n h8 hk
        unfold bWhole
        split
        · rw [ub_n (by decide)]
          rw [(bOffers_inv (by rw [w 7 (by omega), w 1 (by omega), e7, e1]; exact h.1) _).2 0 (by unfold okW; decide), w 0 (by omega), e0]
        · rw [w 0 (by omega), e0]
      · exact e0
theorem s_FL_counted {G : Gm} {l : Launch} (hK : KG G) {M : Pool} {L : Int → Nat} {n : Net} {i9 : Int} {w9 : Int} (hi : 0 ≤ i9 ∧ i9 < n (-1) 0 ∧ n (-1) 0 ≤ 6) (hw : 0 ≤ w9 ∧ w9 < 12) : MD G l yX0_counted cX0_counted 2 (some .int) 1 0 0 [.ref (L i9), .int (zI w9)] [LF G M L n] (some (.int (zI (n i9 (16 + w9))))) [LF G M L n] := by
  have h : MX G l yX0_counted cX0_counted 2 (some .int) 1 0 0 [.ref (L i9), .int (zI w9)] [LF G M L n] (fun _ : Unit => (some (.int (zI (n i9 (16 + w9)))))) (fun _ => True) (fun _ => [LF G M L (un n i9 (n i9))]) := MX_ln (fun _ => n i9) hi (fun _ _ => rfl) (fun A => MX_pk (R := (((lnA G (L i9) A (n i9)).drop 1).take 8)) (s_X0_countedB hK hw) (fun cf c h => WF_pick [0, 9, 1, 2, 3, 4, 5, 6, 7, 8] rfl rfl h) (fun _ cf c h => WF_pick [0, 2, 3, 4, 5, 6, 7, 8, 9, 1] rfl rfl h))
  simp only [un_id] at h
  exact h

theorem s_FL_waiting {G : Gm} {l : Launch} (hK : KG G) {M : Pool} {L : Int → Nat} {n : Net} {i9 : Int} (hi : 0 ≤ i9 ∧ i9 < n (-1) 0 ∧ n (-1) 0 ≤ 6) : MD G l yX0_waiting cX0_waiting 1 (some .int) 1 0 0 [.ref (L i9)] [LF G M L n] (some (.int (zI (n i9 6 + n i9 7)))) [LF G M L n] := by
  have h : MX G l yX0_waiting cX0_waiting 1 (some .int) 1 0 0 [.ref (L i9)] [LF G M L n] (fun _ : Unit => (some (.int (zI (n i9 6 + n i9 7))))) (fun _ => True) (fun _ => [LF G M L (un n i9 (n i9))]) := MX_ln (fun _ => n i9) hi (fun _ _ => rfl) (fun A => MX_pk (R := (((lnA G (L i9) A (n i9)).drop 2).eraseIdx 3)) (s_X0_waiting hK ) (fun cf c h => WF_pick [0, 1, 5, 2, 3, 4, 6, 7, 8, 9] rfl rfl h) (fun _ cf c h => WF_pick [0, 1, 3, 4, 5, 2, 6, 7, 8, 9] rfl rfl h))
  simp only [un_id] at h
  exact h

theorem s_FL_canSend {G : Gm} {l : Launch} (hK : KG G) {M : Pool} {L : Int → Nat} {n : Net} {i9 : Int} (hi : 0 ≤ i9 ∧ i9 < n (-1) 0 ∧ n (-1) 0 ≤ 6) (h9 : (0 ≤ n i9 9 ∧ n i9 9 ≤ 100) ∧ (0 ≤ n i9 6 ∧ n i9 6 ≤ 60)) : MD G l yX0_canSend cX0_canSend 1 (some .boolean) 1 0 0 [.ref (L i9)] [LF G M L n] (some (.int (zI (bz (¬ 0 < n i9 9 ∧ 0 < n i9 6))))) [LF G M L n] := by
  have h : MX G l yX0_canSend cX0_canSend 1 (some .boolean) 1 0 0 [.ref (L i9)] [LF G M L n] (fun _ : Unit => (some (.int (zI (bz (¬ 0 < n i9 9 ∧ 0 < n i9 6)))))) (fun _ => True) (fun _ => [LF G M L (un n i9 (n i9))]) := MX_ln (fun _ => n i9) hi (fun _ _ => rfl) (fun A => MX_pk (R := ((lnA G (L i9) A (n i9)).drop 2)) (s_X0_canSend hK h9) (fun cf c h => WF_pick [0, 1, 2, 3, 4, 5, 6, 7, 8, 9] rfl rfl h) (fun _ cf c h => WF_pick [0, 1, 2, 3, 4, 5, 6, 7, 8, 9] rfl rfl h))
  simp only [un_id] at h
  exact h

theorem s_FL_acceptTyped {G : Gm} {l : Launch} (hK : KG G) {M : Pool} {L : Int → Nat} {n : Net} {i9 : Int} {v9 t9 : Int} (hi : 0 ≤ i9 ∧ i9 < n (-1) 0 ∧ n (-1) 0 ≤ 6) (hB : (0 ≤ n i9 9 ∧ n i9 9 ≤ 100) ∧ (0 ≤ n i9 7 ∧ n i9 7 ≤ n i9 1) ∧ n i9 1 ≤ 60 ∧ (0 ≤ n i9 6 ∧ n i9 6 ≤ n i9 1)) (hM : 0 ≤ n i9 2 ∧ n i9 2 < n i9 3 ∧ n i9 3 ≤ 60 ∧ (n i9 10 = 0 ∨ n i9 10 = 1)) (h8 : 0 ≤ n i9 8 ∧ n i9 8 ≤ 60) (hv : 0 ≤ v9 ∧ v9 ≤ 127) (h5 : 0 ≤ n i9 5 ∧ n i9 5 ≤ 2) : MD G l yX0_acceptTyped cX0_acceptTyped 3 (some .boolean) 5 0 0 [.ref (L i9), .int (zI v9), .int (zI t9)] [LF G M L n] (some (.int (zI (bz (¬ (0 < n i9 9 ∨ n i9 6 = n i9 1)))))) [LF G M L (un n i9 (bType (n i9) v9 t9))] := by
  exact MX_ln (fun _ => bType (n i9) v9 t9) hi (fun _ _ => bType_0 ⟨⟨hB.2.1.1, hB.2.1.2, hB.2.2.1⟩, h8, hB.2.2.2.1⟩) (fun A => s_X0_acceptTyped hK hB hM h8 hv h5)

theorem s_FL_acceptOffered {G : Gm} {l : Launch} (hK : KG G) {M : Pool} {L : Int → Nat} {n : Net} {i9 : Int} {v9 : Int} (hi : 0 ≤ i9 ∧ i9 < n (-1) 0 ∧ n (-1) 0 ≤ 6) (hB : (0 ≤ n i9 9 ∧ n i9 9 ≤ 100) ∧ (0 ≤ n i9 7 ∧ n i9 7 ≤ n i9 1) ∧ n i9 1 ≤ 60 ∧ (0 ≤ n i9 6 ∧ n i9 6 ≤ 60) ∧ (0 ≤ n i9 8 ∧ n i9 8 ≤ 60)) : MD G l yX0_acceptOffered cX0_acceptOffered 2 (some .boolean) 2 0 0 [.ref (L i9), .int (zI v9)] [LF G M L n] (some (.int (zI (bz (¬ (0 < n i9 9 ∨ n i9 7 = n i9 1)))))) [LF G M L (un n i9 (bOffer (n i9) v9))] := by
  exact MX_ln (fun _ => bOffer (n i9) v9) hi (fun _ _ => bOffer_0 hB.2.1.1) (fun A => s_X0_acceptOffered hK hB)

theorem s_FL_tellStopping {G : Gm} {l : Launch} (hK : KG G) {M : Pool} {L : Int → Nat} {n : Net} {i9 : Int} (hi : 0 ≤ i9 ∧ i9 < n (-1) 0 ∧ n (-1) 0 ≤ 6) (hst : n i9 2 < n i9 3 ∧ (n i9 10 = 0 ∨ n i9 10 = 1) ∧ (0 ≤ n i9 6 ∧ n i9 6 ≤ 60) ∧ (-1000 ≤ n i9 2 ∧ n i9 2 ≤ 2000) ∧ (-1000 ≤ n i9 3 ∧ n i9 3 ≤ 2000)) : MD G l yX0_tellStopping cX0_tellStopping 1 none 2 0 0 [.ref (L i9)] [LF G M L n] none [LF G M L (un n i9 (bStop (n i9)))] := by
  exact MX_ln (fun _ => bStop (n i9)) hi (fun _ _ => bStop_n (by decide) (by decide)) (fun A => s_X0_tellStopping hK hst)

theorem s_FL_deliverFirst {G : Gm} {l : Launch} (hK : KG G) {M : Pool} {L : Int → Nat} {n : Net} {i9 : Int} (hi : 0 ≤ i9 ∧ i9 < n (-1) 0 ∧ n (-1) 0 ≤ 6) (hB : (0 ≤ n i9 9 ∧ n i9 9 ≤ 100) ∧ (0 ≤ n i9 11 ∧ n i9 11 ≤ 1) ∧ (0 ≤ n i9 7 ∧ n i9 7 ≤ 60) ∧ (0 ≤ n i9 6 ∧ n i9 6 ≤ 60) ∧ (0 ≤ n i9 8 ∧ n i9 8 ≤ 60)) : MD G l yX0_deliverFirst cX0_deliverFirst 1 none 5 0 0 [.ref (L i9)] [LF G M L n] none [LF G M L (un n i9 (bDeliver (n i9)))] := by
  exact MX_ln (fun _ => bDeliver (n i9)) hi (fun _ _ => bDeliver_0) (fun A => s_X0_deliverFirst hK hB)

theorem s_FL_breakFor {G : Gm} {l : Launch} (hK : KG G) {M : Pool} {L : Int → Nat} {n : Net} {i9 : Int} {t9 : Int} (hi : 0 ≤ i9 ∧ i9 < n (-1) 0 ∧ n (-1) 0 ≤ 6) (hst : n i9 2 < n i9 3 ∧ (n i9 10 = 0 ∨ n i9 10 = 1) ∧ (0 ≤ n i9 6 ∧ n i9 6 ≤ 60) ∧ (-1000 ≤ n i9 2 ∧ n i9 2 ≤ 2000) ∧ (-1000 ≤ n i9 3 ∧ n i9 3 ≤ 2000)) : MD G l yX0_breakFor cX0_breakFor 2 none 3 0 0 [.ref (L i9), .int (zI t9)] [LF G M L n] none [LF G M L (un n i9 (bBreak (n i9) t9))] := by
  exact MX_ln (fun _ => bBreak (n i9) t9) hi (fun _ _ => bBreak_0) (fun A => s_X0_breakFor hK hst)

theorem ln_this {G : Gm} {a : Nat} {A : Nat → Nat} {B B' : Blk} {J : Nat → Int} {R : List SA} (hJ : ∀ i, (lnS 0 0 0 0 0 0 0)[i]? = some none → J i = lnI B' i) (h15 : B' 15 = B 15) (h6 : B' 6 = B 6) (h7 : B' 7 = B 7) (h8 : B' 8 = B 8) (hr : ∀ k : Int, 16 ≤ k → B' k = B k) : ∀ cf c, WF (ob a 2 (lnS (A 0) (A 1) (A 3) (A 5) (A 7) (A 9) (B 15)) J :: R) cf c → R = (lnA G a A B).tail → WF (lnA G a A B') cf c := by
  intro cf c h e
  subst e
  unfold lnA at h ⊢
  rw [h15, h6, h7, h8]
  have e1 : (fun j : Nat => B' (28 + (j : Int))) = fun j : Nat => B (28 + (j : Int)) := funext fun j => hr _ (by omega)
  have e2 : (fun j : Nat => B' (88 + (j : Int))) = fun j : Nat => B (88 + (j : Int)) := funext fun j => hr _ (by omega)
  have e3 : (fun j : Nat => B' (148 + (j : Int))) = fun j : Nat => B (148 + (j : Int)) := funext fun j => hr _ (by omega)
  have e4 : (fun j : Nat => B' (208 + (j : Int))) = fun j : Nat => B (208 + (j : Int)) := funext fun j => hr _ (by omega)
  have e5 : (fun j : Nat => B' (16 + (j : Int))) = fun j : Nat => B (16 + (j : Int)) := funext fun j => hr _ (by omega)
  rw [e1, e2, e3, e4, e5]
  refine PW.wf (PW_cons (fun _ h => ob_congr (fun i hi => hJ i ?_) h) PW_rf) h
  match i, hi with
  | 1, _ => rfl
  | 2, _ => rfl
  | 3, _ => rfl
  | 4, _ => rfl
  | 5, _ => rfl
  | 10, _ => rfl
  | 11, _ => rfl
  | 12, _ => rfl
  | 13, _ => rfl
  | 14, _ => rfl
  | 15, _ => rfl
  | 16, h => exact absurd h (by simp)
  | 17, h => exact absurd h (by simp)
  | (k + 18), h => exact absurd h (by simp)
/-- one number of a line, or two, becomes another one -/
theorem lnI_ok {J : Nat → Int} {B : Blk} (h1 : J 1 = lnI B 1) (h2 : J 2 = lnI B 2) (h3 : J 3 = lnI B 3) (h4 : J 4 = lnI B 4) (h5 : J 5 = lnI B 5) (h10 : J 10 = lnI B 10) (h11 : J 11 = lnI B 11) (h12 : J 12 = lnI B 12) (h13 : J 13 = lnI B 13) (h14 : J 14 = lnI B 14) (h15 : J 15 = lnI B 15) : ∀ i, (lnS 0 0 0 0 0 0 0)[i]? = some none → J i = lnI B i := by
  intro i hi
  match i, hi with
  | 1, _ => exact h1
  | 2, _ => exact h2
  | 3, _ => exact h3
  | 4, _ => exact h4
  | 5, _ => exact h5
  | 10, _ => exact h10
  | 11, _ => exact h11
  | 12, _ => exact h12
  | 13, _ => exact h13
  | 14, _ => exact h14
  | 15, _ => exact h15
  | 16, h => exact absurd h (by simp)
  | 17, h => exact absurd h (by simp)
  | (k + 18), h => exact absurd h (by simp)
theorem s_FL_lendTo {G : Gm} {l : Launch} (hK : KG G) {M : Pool} {L : Int → Nat} {n : Net} {i9 : Int} {o9 t9 : Int} (hi : 0 ≤ i9 ∧ i9 < n (-1) 0 ∧ n (-1) 0 ≤ 6) (ht : 0 < t9) : MD G l yX0_lendTo cX0_lendTo 3 none 1 0 0 [.ref (L i9), .int (zI o9), .int (zI t9)] [LF G M L n] none [LF G M L (un n i9 (bLend (n i9) o9 t9))] := by
  exact MX_ln (fun _ => bLend (n i9) o9 t9) hi (fun _ _ => by first | rfl | (simp (disch := omega) only [ub_n, bLend])) (fun A => MX_pk (R := (lnA G (L i9) A (n i9)).tail) (s_X0_lendTo hK) (fun cf c h => h) (fun _ cf c h => ln_this (B := n i9) (by
    refine lnI_ok ?_ ?_ ?_ ?_ ?_ ?_ ?_ ?_ ?_ ?_ ?_
    all_goals (try simp (disch := omega) only [up_s, up_n, lnI_1, lnI_2, lnI_3, lnI_4, lnI_5, lnI_10, lnI_11, lnI_12, lnI_13, lnI_14, lnI_15, lnTo, ub_s, ub_n, bLend])
    all_goals (repeat' split)
    all_goals first | rfl | omega) (by first | rfl | (simp (disch := omega) only [ub_n, bLend])) (by first | rfl | (simp (disch := omega) only [ub_n, bLend])) (by first | rfl | (simp (disch := omega) only [ub_n, bLend])) (by first | rfl | (simp (disch := omega) only [ub_n, bLend])) (fun k hk => by first | rfl | (simp (disch := omega) only [ub_n, bLend])) cf c h rfl))

theorem s_FL_lendNoMore {G : Gm} {l : Launch} (hK : KG G) {M : Pool} {L : Int → Nat} {n : Net} {i9 : Int} (hi : 0 ≤ i9 ∧ i9 < n (-1) 0 ∧ n (-1) 0 ≤ 6) : MD G l yX0_lendNoMore cX0_lendNoMore 1 none 1 0 0 [.ref (L i9)] [LF G M L n] none [LF G M L (un n i9 (ub (n i9) 12 0))] := by
  exact MX_ln (fun _ => ub (n i9) 12 0) hi (fun _ _ => by first | rfl | (simp (disch := omega) only [ub_n, bLend])) (fun A => MX_pk (R := (lnA G (L i9) A (n i9)).tail) (s_X0_lendNoMore hK) (fun cf c h => h) (fun _ cf c h => ln_this (B := n i9) (by
    refine lnI_ok ?_ ?_ ?_ ?_ ?_ ?_ ?_ ?_ ?_ ?_ ?_
    all_goals (try simp (disch := omega) only [up_s, up_n, lnI_1, lnI_2, lnI_3, lnI_4, lnI_5, lnI_10, lnI_11, lnI_12, lnI_13, lnI_14, lnI_15, lnTo, ub_s, ub_n, bLend])
    all_goals (repeat' split)
    all_goals first | rfl | omega) (by first | rfl | (simp (disch := omega) only [ub_n, bLend])) (by first | rfl | (simp (disch := omega) only [ub_n, bLend])) (by first | rfl | (simp (disch := omega) only [ub_n, bLend])) (by first | rfl | (simp (disch := omega) only [ub_n, bLend])) (fun k hk => by first | rfl | (simp (disch := omega) only [ub_n, bLend])) cf c h rfl))
