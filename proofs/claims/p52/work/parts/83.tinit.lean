/-! New trunks. -/
def ACC (G : Gm) (M : Pool) (k : Nat) (La Qa : Nat → Nat) : SA := WL ((List.range k).map (fun j => LN G M (La j) (Qa j) bIni))
theorem ACC_0 {G : Gm} {M : Pool} {La Qa : Nat → Nat} {R : List SA} {cf c : Sto} (h : WF R cf c) : WF (ACC G M 0 La Qa :: R) cf c := WF_close (L := []) (R := R) h (fun d hd => hd)
theorem ACC_s {G : Gm} {M : Pool} {La Qa : Nat → Nat} {k a q : Nat} {R : List SA} {cf c : Sto} (h : WF (ACC G M k La Qa :: LN G M a q bIni :: R) cf c) : WF (ACC G M (k + 1) (fun j => if j = k then a else La j) (fun j => if j = k then q else Qa j) :: R) cf c := by
  have h1 : WF ((List.range k).map (fun j => LN G M (La j) (Qa j) bIni) ++ (LN G M a q bIni :: R)) cf c := WF_open h (fun d hd => hd)
  have e : (List.range (k + 1)).map (fun j => LN G M (if j = k then a else La j) (if j = k then q else Qa j) bIni) = (List.range k).map (fun j => LN G M (La j) (Qa j) bIni) ++ [LN G M a q bIni] := by
    rw [List.range_succ, List.map_append]
    congr 1
    · refine List.map_congr_left (fun j hj => ?_)
      have := List.mem_range.mp hj
      rw [if_neg (by omega), if_neg (by omega)]
    · simp
  have h2 : WF (((List.range k).map (fun j => LN G M (La j) (Qa j) bIni) ++ [LN G M a q bIni]) ++ R) cf c := by rw [List.append_assoc]; exact h1
  rw [← e] at h2
  exact WF_close h2 (fun d hd => hd)
/-- the places of six lines, and of their first queues behind them -/
def LQ (La Qa : Nat → Nat) (j : Int) : Nat := if j < 6 then La j.toNat else Qa (j - 6).toNat
theorem nInit_l : nInit 0 = bIni := by
  unfold nInit nAdd bNew bIni
  rw [un_n (by decide), show Zn (-1) 0 = 0 from rfl, un_s]
  funext j
  simp only [ub_lit, show ∀ w, Zn 0 w = 0 from fun _ => rfl]
  repeat' split
  all_goals first | rfl | omega
theorem nInit_h : nInit (-1) 0 = 1 ∧ nInit (-1) 1 = 0 ∧ nInit (-1) 2 = 0 ∧ nInit (-1) 3 = 1 ∧ nInit (-1) 4 = 0 ∧ nInit (-1) 5 = 0 ∧ nInit (-1) 6 = 0 ∧ nInit (-1) 7 = 0 := ⟨rfl, rfl, rfl, rfl, rfl, rfl, rfl, rfl⟩
theorem ACC_6 {G : Gm} {M : Pool} {La Qa : Nat → Nat} {d : Sto} (h : ACC G M 6 La Qa d) : LF G M (LQ La Qa) nInit d := by
  have h1 : fam6 (fun j => LN G M (La j) (Qa j) bIni) d := h
  refine fam6_imp (fun j hj d hd => ?_) h1
  have e1 : LQ La Qa (j : Int) = La j := by unfold LQ; rw [if_pos (by omega), Int.toNat_natCast]
  have e2 : LQ La Qa ((j : Int) + 6) = Qa j := by unfold LQ; rw [if_neg (by omega), show ((j : Int) + 6 - 6).toNat = j by omega]
  unfold lfQ
  rw [e1, e2, nInit_h.1]
  by_cases c : (j : Int) < 1
  · have : j = 0 := by omega
    subst this
    rw [if_pos c, show nInit ((0 : Nat) : Int) = bIni from nInit_l]
    exact hd
  · rw [if_neg c]
    exact LG_of_LN hd
theorem LOG_init {G : Gm} {lg la : Nat} : ∀ cf c, ∀ R, WF (ob lg 3 [some (.ref la), none, none] (lgI 0 0) :: ar G 0 la 200 200 (fun _ => 0) :: R) cf c → WF (LOG G lg nInit :: R) cf c := fun cf c R h =>
  WF_close (L := [ob lg 3 [some (.ref la), none, none] (lgI 0 0), ar G 0 la 200 200 (fun _ => 0)]) h (fun d hd => ⟨la, 0, fun _ => 0, ⟨⟨by decide, by decide⟩, fun k w h0 h1 _ _ => by rw [nInit_h.2.2.2.2.2.2.2] at h1; omega⟩, hd⟩)
theorem NM_0 {G : Gm} {M : Pool} {q : Nat} (h : ∃ b, strG G q b w_none0) : NM G M q (bIni 0) := by
  obtain ⟨b, h⟩ := h
  exact ⟨b, [], Or.inr h, by decide, fun x hx => absurd hx (by simp), rfl⟩
theorem LN_obj {G : Gm} {M : Pool} {a q : Nat} {B : Blk} (c : Sto) (h : LN G M a q B c) : ∃ fs, c a = some (.inr (2, fs)) := by
  obtain ⟨A, -, f, f1, f2, f3, -⟩ := h
  exact ⟨_, (f3 0 _ _ (by simp [lnA]) (f1 0 _ rfl)).1⟩
theorem cl_RX6_9 : Cond.classLink RX6 9 "EchoLine$Line" ∈ TSg := TS_1 57 rfl rfl
theorem cl_RX7_19 : Cond.classLink RX7 19 "EchoLine$Trunk" ∈ TSg := TS_1 51 rfl rfl
