/-! Words looked up. -/
def hwQ (Fb : Nat → Int) (z s : Int) (u : List Int) : Nat → Bool
  | 0 => true
  | k + 1 => hwQ Fb z s u k && decide (byt Fb z (s + (k : Int)) = u.getD k 0)
theorem hwQ_s {Fb : Nat → Int} {z s : Int} {u : List Int} {k : Nat} : hwQ Fb z s u (k + 1) = true ↔ hwQ Fb z s u k = true ∧ byt Fb z (s + (k : Int)) = u.getD k 0 := by
  rw [hwQ, Bool.and_eq_true, decide_eq_true_iff]
theorem hwQ_m {Fb : Nat → Int} {z s : Int} {u : List Int} {k : Nat} : ∀ m : Nat, hwQ Fb z s u (k + m) = true → hwQ Fb z s u k = true
  | 0, h => h
  | m + 1, h => hwQ_m m (hwQ_s.mp h).1
theorem hwQ_a {Fb : Nat → Int} {z s : Int} {u : List Int} : ∀ k : Nat, hwQ Fb z s u k = true ↔ ∀ j : Nat, j < k → byt Fb z (s + (j : Int)) = u.getD j 0 := by
  intro k
  induction k with
  | zero => exact ⟨fun _ j hj => absurd hj (Nat.not_lt_zero j), fun _ => rfl⟩
  | succ k ih =>
    rw [hwQ_s, ih]
    constructor
    · rintro ⟨h1, h2⟩ j hj
      by_cases c : j = k
      · rw [c]; exact h2
      · exact h1 j (by omega)
    · exact fun h => ⟨fun j hj => h j (by omega), h k (by omega)⟩
/-- the bytes of a text from s on -/
def tW (Fb : Nat → Int) (z s : Int) (m : Nat) : List Int := (List.range m).map (fun j : Nat => byt Fb z (s + (j : Int)))
theorem tW_len (Fb : Nat → Int) (z s : Int) (m : Nat) : (tW Fb z s m).length = m := by unfold tW; rw [List.length_map, List.length_range]
theorem tW_u {Fb : Nat → Int} {z s : Int} {u : List Int} {m : Nat} : tW Fb z s m = u ↔ m = u.length ∧ hwQ Fb z s u u.length = true := by
  constructor
  · intro h
    subst h
    refine ⟨(tW_len _ _ _ _).symm, (hwQ_a _).mpr (fun j hj => ?_)⟩
    rw [tW_len] at hj
    unfold tW
    rw [List.getD_eq_getElem?_getD, List.getElem?_map, List.getElem?_range hj]
    rfl
  · rintro ⟨h1, h2⟩
    subst h1
    have h3 := (hwQ_a _).mp h2
    refine List.ext_getElem (tW_len _ _ _ _) (fun j h4 h5 => ?_)
    have h6 := h3 j h5
    rw [List.getD_eq_getElem?_getD, List.getElem?_eq_getElem h5] at h6
    have h7 : (tW Fb z s u.length)[j] = byt Fb z (s + (j : Int)) := by simp [tW]
    rw [h7]
    exact h6

set_option maxHeartbeats 4000000 in
set_option maxRecDepth 100000 in
theorem s_X4_holdsWord {G : Gm} {l : Launch} (hK : KG G) {q b : Nat} {z s9 e9 : Int} {Fb : Nat → Int} {u : List Int} {M : Pool} {q9 b9 : Nat} (hS : KS G) (hs : SK G [PL G M] q9 b9 u) (hz : 0 ≤ z ∧ z ≤ 400) (hF : ∀ j : Nat, -128 ≤ Fb j ∧ Fb j ≤ 127) (hr : (0 ≤ s9 ∧ s9 ≤ 1000000) ∧ (0 ≤ e9 ∧ e9 ≤ 1000000)) : MD G l yX4_holdsWord cX4_holdsWord 5 (some .boolean) 5 0 0 [.ref q, .int (zI s9), .int (zI e9), .ref q9] [ob q 6 [some (.ref b), none] (fun _ => z), ar G 1 b 400 400 (Fb), PL G M] (some (.int (zI (bz (e9 - s9 = (u.length : Int) ∧ hwQ Fb z s9 u u.length = true))))) [ob q 6 [some (.ref b), none] (fun _ => z), ar G 1 b 400 400 (Fb), PL G M] := by
  refine MX_of (lv := [some (.ref q), some (.int (zI s9)), some (.int (zI e9)), some (.ref q9), none]) hK (by decide +kernel) rfl (nle rfl) (fun X C F => ?_)
  have C : OKc G X l RX4 "holdsWord" cX4_holdsWord 5 (some .boolean) 5 0 0 := C
  have hu60 := hs.1.1
  have loop : e9 - s9 = (u.length : Int) → ∀ (f k : Nat), hwQ Fb z s9 u k = true → k ≤ u.length → u.length < k + f → WX G X 0 0 [ob q 6 [some (.ref b), none] (fun _ => z), ar G 1 b 400 400 (Fb), PL G M] 15 [some (.ref q), some (.int (zI s9)), some (.int (zI e9)), some (.ref q9), some (.int (zI (k : Int)))] [] := by
    intro he f
    induction f with
    | zero => intro k hq h0 h1; exfalso; omega
    | succ f ih =>
      intro k hq h0 h1
      refine x_iload C eX4_holdsWord_15 rfl ?_
      refine x_aload_n C eX4_holdsWord_17 rfl ?_
      refine yK0r [_, _] [_, _, _] C (s_J0_length hK hS hs) v_J0_length_8abf5 vv_J0_length_8abf5 s_RX4_19 eX4_holdsWord_18 (fun _ _ h => WF_pick [2, 0, 1] rfl rfl h) (SK.rcv (R := [_, _]) hs (fun _ _ h => WF_pick [2, 0, 1] rfl rfl h)) rfl (nle rfl) (nle rfl) (nle rfl) (nle rfl) rfl ?_
      refine x_icmp_ge 49 C eX4_holdsWord_21 rfl (by omega) (by omega) (fun h21 => ?_) (fun h21 => ?_)
      · refine x_iconst C eX4_holdsWord_49 ?_
        refine x_iret (by first | exact nz_bz _ | exact (narZ (by omega)).1) C F eX4_holdsWord_50 () ?_ trivial (fun cf c h => ?_) (nle rfl) (nle rfl)
        · obtain rfl : k = u.length := by omega
          rw [bz_t ⟨by omega, hq⟩]
        · exact WF_pick [1, 2, 0] rfl rfl h
      · have hk9 : k < u.length := by omega
        have hcx := hs.1.2 (u.getD k 0) (by rw [List.getD_eq_getElem?_getD, List.getElem?_eq_getElem hk9]; exact List.getElem_mem hk9)
        have hbr := byt_r (F := Fb) (ts := z) (k := s9 + (k : Int)) hF
        refine x_aload_n C eX4_holdsWord_24 rfl ?_
        refine x_iload_n C eX4_holdsWord_25 rfl ?_
        refine x_iload C eX4_holdsWord_26 rfl ?_
        refine x_iadd C eX4_holdsWord_28 ?_
        refine yV1r [_] [_, _, _] C (s_X4_byteAt hK (by omega) (fun j _ => hF j) (by omega)) v_X4_byteAt vv_X4_byteAt s_RX4_34 eX4_holdsWord_29 (fun _ _ h => WF_pick [1, 2, 0] rfl rfl h) (rcv 1 rfl) rfl (nle rfl) (nle rfl) (nle rfl) (nle rfl) rfl ?_
        refine x_aload_n C eX4_holdsWord_32 rfl ?_
        refine x_iload C eX4_holdsWord_33 rfl ?_
        refine yK1r [_, _] [_, _, _] C (s_J0_charAt hK hS hs (i := (k : Int)) (by omega)) v_J0_charAt_5068e vv_J0_charAt_5068e s_RX4_25 eX4_holdsWord_35 (fun _ _ h => WF_pick [2, 0, 1] rfl rfl h) (SK.rcv (R := [_, _]) hs (fun _ _ h => WF_pick [2, 0, 1] rfl rfl h)) rfl (nle rfl) (nle rfl) (nle rfl) (nle rfl) rfl ?_
        rw [show ((k : Int)).toNat = k from Int.toNat_natCast k]
        refine x_icmp_eq 43 C eX4_holdsWord_38 rfl (by omega) (by omega) (fun h38 => ?_) (fun h38 => ?_)
        · refine x_iinc [_, _, _, _, _] C eX4_holdsWord_43 rfl rfl rfl ?_
          refine x_goto (pc' := 15) C eX4_holdsWord_46 rfl ?_
          refine x_pick [_, _, _] [1, 2, 0] rfl rfl ?_
          exact ih (k + 1) (hwQ_s.mpr ⟨hq, by omega⟩) (by omega) (by omega)
        · have hne : ¬ hwQ Fb z s9 u u.length = true := fun z9 => by
            have h9 := hwQ_m (k := k + 1) (u.length - (k + 1)) (by rw [show k + 1 + (u.length - (k + 1)) = u.length by omega]; exact z9)
            have := (hwQ_s.mp h9).2
            omega
          refine x_iconst C eX4_holdsWord_41 ?_
          refine x_iret (by first | exact nz_bz _ | exact (narZ (by omega)).1) C F eX4_holdsWord_42 () ?_ trivial (fun cf c h => ?_) (nle rfl) (nle rfl)
          · rw [bz_f (fun z9 => hne z9.2)]
          · exact WF_pick [1, 2, 0] rfl rfl h
        
      
  refine x_iload_n C eX4_holdsWord_0 rfl ?_
  refine x_iload_n C eX4_holdsWord_1 rfl ?_
  refine x_isub C eX4_holdsWord_2 ?_
  refine x_aload_n C eX4_holdsWord_3 rfl ?_
  refine yK0r [_, _] [_, _, _] C (s_J0_length hK hS hs) v_J0_length_8abf5 vv_J0_length_8abf5 s_RX4_19 eX4_holdsWord_4 (fun _ _ h => WF_pick [2, 0, 1] rfl rfl h) (SK.rcv (R := [_, _]) hs (fun _ _ h => WF_pick [2, 0, 1] rfl rfl h)) rfl (nle rfl) (nle rfl) (nle rfl) (nle rfl) rfl ?_
  refine x_icmp_eq 12 C eX4_holdsWord_7 rfl (by omega) (by omega) (fun h7 => ?_) (fun h7 => ?_)
  · refine x_iconst C eX4_holdsWord_12 ?_
    refine x_istore [_, _, _, _, _] C eX4_holdsWord_13 rfl rfl (nlt rfl) ?_
    refine x_pick [_, _, _] [1, 2, 0] rfl rfl ?_
    exact loop (by omega) (u.length + 1) 0 rfl (by omega) (by omega)
  · refine x_iconst C eX4_holdsWord_10 ?_
    refine x_iret (by first | exact nz_bz _ | exact (narZ (by omega)).1) C F eX4_holdsWord_11 () ?_ trivial (fun cf c h => ?_) (nle rfl) (nle rfl)
    · rw [bz_f (fun z9 => by omega)]
    · exact WF_pick [1, 2, 0] rfl rfl h
  
