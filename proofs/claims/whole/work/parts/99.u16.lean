/-! Names written. -/
/-- the strings that were made can be read -/
def PLok (G : Gm) (M : Pool) : Prop := ∀ q b w, (q, b, w) ∈ M → SK G [PL G M] q b w
def namOk : Prop := ∀ u : List Int, u.length ≤ 6 → (∀ x ∈ u, 97 ≤ x ∧ x ≤ 122) → nam (wnum u) = u
theorem SP_sk {G : Gm} {M : Pool} {q b : Nat} {w : List Int} (hP : PLok G M) (h : SP G M q b w) : SK G [PL G M] q b w := h.elim (fun h => hP q b w h) (fun h => h.sk _)
/-- what a line's queues look like, written behind w -/
def queL (n : Net) (k : Int) (w : List Int) : List Int :=
  let w6 := w ++ nam (n k 0) ++ [58] ++ dec (n k 6) ++ [47] ++ dec (n k 7)
  let w7 := if 0 < n k 9 then w6 ++ [104] else w6
  let w8 := if n k 10 = 1 then w7 ++ [115] else w7
  if n k 11 = 1 then w8 ++ [112] else w8
theorem queS_L (n : Net) (k : Nat) : queS n (k + 1) = queL n k (if 0 < (k : Int) then queS n k ++ [32] else queS n k) := rfl

set_option maxHeartbeats 4000000 in
set_option maxRecDepth 100000 in
theorem s_X4_addWord {G : Gm} {l : Launch} (hK : KG G) {q b : Nat} {w u : List Int} {M : Pool} {q9 b9 : Nat} (hS : KS G) (hs : SK G [PL G M] q9 b9 u) (hw : (w ++ u).length ≤ 400) : MD G l yX4_addWord cX4_addWord 3 none 5 0 0 [.ref q, .ref q9] [ob q 6 [some (.ref b), none] (fun _ => ((w).length : Int)), ar G 1 b 400 (w).length (oF (w)), PL G M] none [ob q 6 [some (.ref b), none] (fun _ => ((w ++ u).length : Int)), ar G 1 b 400 (w ++ u).length (oF (w ++ u)), PL G M] := by
  refine MX_of (lv := [some (.ref q), some (.ref q9), none]) hK (by decide +kernel) rfl (nle rfl) (fun X C F => ?_)
  have C : OKc G X l RX4 "addWord" cX4_addWord 3 none 5 0 0 := C
  have hu60 := hs.1.1
  have loop : ∀ (f k : Nat), k ≤ u.length → u.length < k + f → WX G X 0 0 [ob q 6 [some (.ref b), none] (fun _ => ((w ++ u.take k).length : Int)), ar G 1 b 400 (w ++ u.take k).length (oF (w ++ u.take k)), PL G M] 2 [some (.ref q), some (.ref q9), some (.int (zI (k : Int)))] [] := by
    intro f
    induction f with
    | zero => intro k h0 h1; exfalso; omega
    | succ f ih =>
      intro k h0 h1
      refine x_iload_n C eX4_addWord_2 rfl ?_
      refine x_aload_n C eX4_addWord_3 rfl ?_
      refine yK0r [_, _] [_, _, _] C (s_J0_length hK hS hs) v_J0_length_8abf5 vv_J0_length_8abf5 s_RX4_19 eX4_addWord_4 (fun _ _ h => WF_pick [2, 0, 1] rfl rfl h) (SK.rcv (R := [_, _]) hs (fun _ _ h => WF_pick [2, 0, 1] rfl rfl h)) rfl (nle rfl) (nle rfl) (nle rfl) (nle rfl) rfl ?_
      refine x_icmp_ge 25 C eX4_addWord_7 rfl (by omega) (by omega) (fun h7 => ?_) (fun h7 => ?_)
      · refine x_vret C F eX4_addWord_25 () rfl trivial (fun cf c h => ?_) (nle rfl) (nle rfl)
        rw [show w ++ u = w ++ u.take k by rw [List.take_of_length_le (by omega)]]
        exact WF_pick [1, 2, 0] rfl rfl h
      · have hk9 : k < u.length := by omega
        have hcx := hs.1.2 (u.getD k 0) (by rw [List.getD_eq_getElem?_getD, List.getElem?_eq_getElem hk9]; exact List.getElem_mem hk9)
        have hl9 := hw
        rw [List.length_append] at hl9
        refine x_aload_n C eX4_addWord_10 rfl ?_
        refine x_aload_n C eX4_addWord_11 rfl ?_
        refine x_iload_n C eX4_addWord_12 rfl ?_
        refine yK1r [_, _] [_, _, _] C (s_J0_charAt hK hS hs (i := (k : Int)) (by omega)) v_J0_charAt_5068e vv_J0_charAt_5068e s_RX4_25 eX4_addWord_13 (fun _ _ h => WF_pick [0, 1, 2] rfl rfl h) (SK.rcv (R := [_, _]) hs (fun _ _ h => WF_pick [0, 1, 2] rfl rfl h)) rfl (nle rfl) (nle rfl) (nle rfl) (nle rfl) rfl ?_
        refine yV1v [_] [_, _, _] C (s_X4_addByte hK (by rw [List.length_append, List.length_take]; omega) hcx) v_X4_addByte vv_X4_addByte s_RX4_29 eX4_addWord_16 (fun _ _ h => WF_pick [1, 2, 0] rfl rfl h) (rcv 1 rfl) rfl (nle rfl) (nle rfl) (nle rfl) (nle rfl) rfl ?_
        refine x_iinc [_, _, _] C eX4_addWord_19 rfl rfl rfl ?_
        refine x_goto (pc' := 2) C eX4_addWord_22 rfl ?_
        refine x_pick [_, _, _] [0, 1, 2] rfl rfl ?_
        have h3 := ih (k + 1) (by omega) (by omega)
        rw [take_g hk9, ← List.append_assoc] at h3
        exact h3
        
      
  refine x_iconst C eX4_addWord_0 ?_
  refine x_istore_n [_, _, _] C eX4_addWord_1 rfl rfl (nlt rfl) ?_
  refine x_pick [_, _, _] [0, 1, 2] rfl rfl ?_
  have h3 := loop (u.length + 1) 0 (by omega) (by omega)
  rw [List.take_zero, List.append_nil] at h3
  exact h3
