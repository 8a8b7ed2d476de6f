/-! String.length, String.charAt, as they are walked over any string that can be read. -/
theorem shr0 (a : Int) : zI a >>> (zI 0 &&& 31) = zI a := by
  rw [show (zI 0 &&& 31 : Int32) = 0 by decide]
  apply Int32.toBitVec_inj.mp
  rw [Int32.toBitVec_shiftRight]
  simp
set_option maxHeartbeats 4000000 in
set_option maxRecDepth 100000 in
theorem s_J0_coder {G : Gm} {l : Launch} (hK : KG G) (hS : KS G) {P : List SA} {q b : Nat} {w : List Int} (hs : SK G P q b w) : MD G l yJ0_coder_7d493 cJ0_coder_7d493 1 (some .byte) 1 0 0 [.ref q] P (some (.int (zI 0))) P := by
  refine MX_of (lv := [some (.ref q)]) hK (by decide +kernel) rfl (nle rfl) (fun X C F => ?_)
  have C : OKc G X l RJ0 "coder" cJ0_coder_7d493 1 (some .byte) 1 0 0 := C
  refine x_getsK C k_compact eJ0_coder_7d493_0 hS.2.1 ?_
  refine x_if_eq 13 C eJ0_coder_7d493_3 rfl (by omega) (fun h => ?_) (fun h => ?_)
  · exfalso; omega
  · refine x_aload_n C eJ0_coder_7d493_6 rfl ?_
    refine x_getK C k_coder eJ0_coder_7d493_7 (fun s hs' cf c H hw hH => (hs.2 s hs' cf c H hw hH).2.1) ?_
    refine x_goto (pc' := 14) C eJ0_coder_7d493_10 rfl ?_
    exact x_iret (by decide +kernel) C F eJ0_coder_7d493_14 () rfl trivial (fun cf c h => h) (nle rfl) (nle rfl)
set_option maxHeartbeats 4000000 in
set_option maxRecDepth 100000 in
theorem s_J0_isLatin1 {G : Gm} {l : Launch} (hK : KG G) (hS : KS G) {P : List SA} {q b : Nat} {w : List Int} (hs : SK G P q b w) : MD G l yJ0_isLatin1_aae02 cJ0_isLatin1_aae02 1 (some .boolean) 1 0 0 [.ref q] P (some (.int (zI 1))) P := by
  refine MX_of (lv := [some (.ref q)]) hK (by decide +kernel) rfl (nle rfl) (fun X C F => ?_)
  have C : OKc G X l RJ0 "isLatin1" cJ0_isLatin1_aae02 1 (some .boolean) 1 0 0 := C
  refine x_getsK C k_compact eJ0_isLatin1_aae02_0 hS.2.1 ?_
  refine x_if_eq 17 C eJ0_isLatin1_aae02_3 rfl (by omega) (fun h => ?_) (fun h => ?_)
  · exfalso; omega
  · refine x_aload_n C eJ0_isLatin1_aae02_6 rfl ?_
    refine x_getK C k_coder eJ0_isLatin1_aae02_7 (fun s hs' cf c H hw hH => (hs.2 s hs' cf c H hw hH).2.1) ?_
    refine x_if_ne 17 C eJ0_isLatin1_aae02_10 rfl (by omega) (fun h => ?_) (fun h => ?_)
    · exfalso; omega
    · refine x_iconst C eJ0_isLatin1_aae02_13 ?_
      refine x_goto (pc' := 18) C eJ0_isLatin1_aae02_14 rfl ?_
      exact x_iret (by decide +kernel) C F eJ0_isLatin1_aae02_18 () rfl trivial (fun cf c h => h) (nle rfl) (nle rfl)
theorem hpkN {P : List SA} : ∀ cf c, WF P cf c → WF (P ++ []) cf c := fun cf c h => by rw [List.append_nil]; exact h
set_option maxHeartbeats 4000000 in
set_option maxRecDepth 100000 in
theorem s_J0_length {G : Gm} {l : Launch} (hK : KG G) (hS : KS G) {P : List SA} {q b : Nat} {w : List Int} (hs : SK G P q b w) : MD G l yJ0_length_8abf5 cJ0_length_8abf5 1 (some .int) 2 0 0 [.ref q] P (some (.int (zI (w.length : Int)))) P := by
  refine MX_of (lv := [some (.ref q)]) hK (by decide +kernel) rfl (nle rfl) (fun X C F => ?_)
  have C : OKc G X l RJ0 "length" cJ0_length_8abf5 1 (some .int) 2 0 0 := C
  refine x_aload_n C eJ0_length_8abf5_0 rfl ?_
  refine x_getK C k_value eJ0_length_8abf5_1 (fun s hs' cf c H hw hH => (hs.2 s hs' cf c H hw hH).2.2.1) ?_
  refine x_alenK (w := w) C eJ0_length_8abf5_4 (fun s hs' cf c H hw hH => (hs.2 s hs' cf c H hw hH).2.2.2) ?_
  refine x_aload_n C eJ0_length_8abf5_5 rfl ?_
  refine x_callVK (As := []) [] C (s_J0_coder hK hS hs) v_J0_coder_7d493 vv_J0_coder_7d493 s_RJ0_335 (fun s hs' cf c H hw hH => (hs.2 s hs' cf c H hw hH).1) eJ0_length_8abf5_6 rfl hpkN rfl (nle rfl) (nle rfl) (nle rfl) (nle rfl) (fun _ _ => ?_)
  show WX G X 0 0 (P ++ []) 9 _ [.int (zI 0), .int (zI (w.length : Int))]
  rw [List.append_nil]
  refine x_ishrR C eJ0_length_8abf5_9 ?_
  rw [shr0]
  exact x_iret rfl C F eJ0_length_8abf5_10 () rfl trivial (fun cf c h => h) (nle rfl) (nle rfl)
set_option maxHeartbeats 4000000 in
set_option maxRecDepth 100000 in
theorem s_J3_checkIndex {G : Gm} {l : Launch} (hK : KG G) {P : List SA} {z i n : Int} {v : Value} (hv : v = .null ∨ ∃ r : Nat, v = .ref r) (hi : 0 ≤ i ∧ i < n ∧ n ≤ 400) : MD G l yJ3_checkIndex_8e157 cJ3_checkIndex_8e157 3 (some .int) 1 0 0 [.int (zI i), .int (zI n), v] P (some (.int (zI i))) P := by
  have key : ∀ {lv3 : Option Value} {X : Cx}, OKc G X l RJ3 "checkIndex" cJ3_checkIndex_8e157 3 (some .int) 1 0 0 → FIN G X 0 0 (fun _ : Unit => some (.int (zI i))) (fun _ => True) (fun _ => P) → WX G X 0 0 P 0 [some (.int (zI i)), some (.int (zI n)), lv3] [] := by
    intro lv3 X C F
    refine x_iload_n C eJ3_checkIndex_8e157_0 rfl ?_
    refine x_if_lt 9 C eJ3_checkIndex_8e157_1 rfl (by omega) (fun h => ?_) (fun h => ?_)
    · exfalso; omega
    · refine x_iload_n C eJ3_checkIndex_8e157_4 rfl ?_
      refine x_iload_n C eJ3_checkIndex_8e157_5 rfl ?_
      refine x_icmp_lt 16 C eJ3_checkIndex_8e157_6 rfl (by omega) (by omega) (fun h => ?_) (fun h => ?_)
      · refine x_iload_n C eJ3_checkIndex_8e157_16 rfl ?_
        exact x_iret rfl C F eJ3_checkIndex_8e157_17 () rfl trivial (fun cf c h => h) (nle rfl) (nle rfl)
      · exfalso; omega
  rcases hv with rfl | ⟨r, rfl⟩
  · exact MX_of (lv := [some (.int (zI i)), some (.int (zI n)), some .null]) hK (by decide +kernel) rfl (nle rfl) (fun X C F => key C F)
  · exact MX_of (lv := [some (.int (zI i)), some (.int (zI n)), some (.ref r)]) hK (by decide +kernel) rfl (nle rfl) (fun X C F => key C F)
set_option maxHeartbeats 4000000 in
set_option maxRecDepth 100000 in
theorem s_J0_checkIndex {G : Gm} {l : Launch} (hK : KG G) (hS : KS G) {P : List SA} {i n : Int} (hi : 0 ≤ i ∧ i < n ∧ n ≤ 400) : MD G l yJ0_checkIndex_df160 cJ0_checkIndex_df160 2 none 2 0 0 [.int (zI i), .int (zI n)] P none P := by
  refine MX_of (lv := [some (.int (zI i)), some (.int (zI n))]) hK (by decide +kernel) rfl (nle rfl) (fun X C F => ?_)
  have C : OKc G X l RJ0 "checkIndex" cJ0_checkIndex_df160 2 none 2 0 0 := C
  refine x_iload_n C eJ0_checkIndex_df160_0 rfl ?_
  refine x_iload_n C eJ0_checkIndex_df160_1 rfl ?_
  obtain ⟨v, hv, hr⟩ : ∃ v : Value, (v = .null ∨ ∃ r : Nat, v = .ref r) ∧ va_Z "jdk/internal/util/Preconditions" "SIOOBE_FORMATTER" "Ljava/util/function/BiFunction;" v (old G) G.1 G.1.heap := by
    rcases hS.2.2.1 with h | ⟨t, h⟩
    · exact ⟨_, Or.inl rfl, h⟩
    · exact ⟨_, Or.inr ⟨t, rfl⟩, h⟩
  refine x_getsK C k_sioobe eJ0_checkIndex_df160_2 hr ?_
  refine x_callS (As := [.int (zI i), .int (zI n), v]) [] C (s_J3_checkIndex hK (P := P) (z := 0) hv hi) v_J3_checkIndex_8e157 vs_J3_checkIndex_8e157 s_RJ0_1059 eJ0_checkIndex_df160_5 rfl hpkN rfl (nle rfl) (nle rfl) (nle rfl) (nle rfl) (fun _ _ => ?_)
  show WX G X 0 0 (P ++ []) 8 _ [.int (zI i)]
  rw [List.append_nil]
  refine x_pop C eJ0_checkIndex_df160_8 rfl ?_
  exact x_vret C F eJ0_checkIndex_df160_9 () rfl trivial (fun cf c h => h) (nle rfl) (nle rfl)
theorem nar_c {a : Int} (h : 0 ≤ a ∧ a < 128) : narrow .char (.int (zI a)) = .int (zI a) := by
  have h0 : ∀ k : Fin 128, narrow .char (.int (zI ((k : Nat) : Int))) = .int (zI ((k : Nat) : Int)) := by decide +kernel
  have h1 := h0 ⟨a.toNat, by omega⟩
  rw [show (((⟨a.toNat, by omega⟩ : Fin 128) : Nat) : Int) = a by show ((a.toNat : Nat) : Int) = a; omega] at h1
  exact h1
theorem getD_r {w : List Int} (hw : ∀ x ∈ w, 0 ≤ x ∧ x < 128) (i : Nat) : 0 ≤ w.getD i 0 ∧ w.getD i 0 < 128 := by
  rw [List.getD_eq_getElem?_getD]
  cases h : w[i]? with
  | none => exact ⟨by decide, by decide⟩
  | some x => exact hw x (List.mem_of_getElem? h)
set_option maxHeartbeats 4000000 in
set_option maxRecDepth 100000 in
theorem s_J1_charAt {G : Gm} {l : Launch} (hK : KG G) (hS : KS G) {P : List SA} {q b : Nat} {w : List Int} {i : Int} (hs : SK G P q b w) (hi : 0 ≤ i ∧ i < (w.length : Int)) : MD G l yJ1_charAt_3b067 cJ1_charAt_3b067 2 (some .char) 3 0 0 [.ref b, .int (zI i)] P (some (.int (zI (w.getD i.toNat 0)))) P := by
  refine MX_of (lv := [some (.ref b), some (.int (zI i))]) hK (by decide +kernel) rfl (nle rfl) (fun X C F => ?_)
  have C : OKc G X l RJ1 "charAt" cJ1_charAt_3b067 2 (some .char) 3 0 0 := C
  have h60 := hs.1.1
  have hr := getD_r hs.1.2 i.toNat
  refine x_iload_n C eJ1_charAt_3b067_0 rfl ?_
  refine x_aload_n C eJ1_charAt_3b067_1 rfl ?_
  refine x_alenK (w := w) C eJ1_charAt_3b067_2 (fun s hs' cf c H hw hH => (hs.2 s hs' cf c H hw hH).2.2.2) ?_
  refine x_callS (As := [.int (zI i), .int (zI (w.length : Int))]) [] C (s_J0_checkIndex hK hS (P := P) ⟨hi.1, hi.2, by omega⟩) v_J0_checkIndex_df160 vs_J0_checkIndex_df160 s_RJ1_9 eJ1_charAt_3b067_3 rfl hpkN rfl (nle rfl) (nle rfl) (nle rfl) (nle rfl) (fun _ _ => ?_)
  show WX G X 0 0 (P ++ []) 6 _ []
  rw [List.append_nil]
  refine x_aload_n C eJ1_charAt_3b067_6 rfl ?_
  refine x_iload_n C eJ1_charAt_3b067_7 rfl ?_
  refine x_baldK (w := w) C eJ1_charAt_3b067_8 (fun s hs' cf c H hw hH => (hs.2 s hs' cf c H hw hH).2.2.2) h60 hi ?_
  refine x_sipush C eJ1_charAt_3b067_9 rfl ?_
  refine x_iandR C eJ1_charAt_3b067_12 ?_
  rw [and255 ⟨by omega, by omega⟩, if_neg (by omega)]
  refine x_i2c C eJ1_charAt_3b067_13 ⟨by omega, by omega⟩ ?_
  exact x_iret (nar_c hr) C F eJ1_charAt_3b067_14 () rfl trivial (fun cf c h => h) (nle rfl) (nle rfl)
set_option maxHeartbeats 4000000 in
set_option maxRecDepth 100000 in
theorem s_J0_charAt {G : Gm} {l : Launch} (hK : KG G) (hS : KS G) {P : List SA} {q b : Nat} {w : List Int} {i : Int} (hs : SK G P q b w) (hi : 0 ≤ i ∧ i < (w.length : Int)) : MD G l yJ0_charAt_5068e cJ0_charAt_5068e 2 (some .char) 4 0 0 [.ref q, .int (zI i)] P (some (.int (zI (w.getD i.toNat 0)))) P := by
  refine MX_of (lv := [some (.ref q), some (.int (zI i))]) hK (by decide +kernel) rfl (nle rfl) (fun X C F => ?_)
  have C : OKc G X l RJ0 "charAt" cJ0_charAt_5068e 2 (some .char) 4 0 0 := C
  have hr := getD_r hs.1.2 i.toNat
  refine x_aload_n C eJ0_charAt_5068e_0 rfl ?_
  refine x_callVK (As := []) [] C (s_J0_isLatin1 hK hS hs) v_J0_isLatin1_aae02 vv_J0_isLatin1_aae02 s_RJ0_492 (fun s hs' cf c H hw hH => (hs.2 s hs' cf c H hw hH).1) eJ0_charAt_5068e_1 rfl hpkN rfl (nle rfl) (nle rfl) (nle rfl) (nle rfl) (fun _ _ => ?_)
  show WX G X 0 0 (P ++ []) 4 _ [.int (zI 1)]
  rw [List.append_nil]
  refine x_if_eq 16 C eJ0_charAt_5068e_4 rfl (by omega) (fun h => ?_) (fun h => ?_)
  · exfalso; omega
  · refine x_aload_n C eJ0_charAt_5068e_7 rfl ?_
    refine x_getK C k_value eJ0_charAt_5068e_8 (fun s hs' cf c H hw hH => (hs.2 s hs' cf c H hw hH).2.2.1) ?_
    refine x_iload_n C eJ0_charAt_5068e_11 rfl ?_
    refine x_callS (As := [.ref b, .int (zI i)]) [] C (s_J1_charAt hK hS hs hi) v_J1_charAt_3b067 vs_J1_charAt_3b067 s_RJ0_495 eJ0_charAt_5068e_12 rfl hpkN rfl (nle rfl) (nle rfl) (nle rfl) (nle rfl) (fun _ _ => ?_)
    show WX G X 0 0 (P ++ []) 15 _ [.int (zI (w.getD i.toNat 0))]
    rw [List.append_nil]
    exact x_iret (nar_c hr) C F eJ0_charAt_5068e_15 () rfl trivial (fun cf c h => h) (nle rfl) (nle rfl)
