/-! Stores: what the machine's heap holds at the addresses of the system's own cells; atoms: what is said of a part of a store; a list of atoms says that they hold apart from each other (WF). -/
abbrev Sto : Type := Nat → Option va_E
abbrev SA : Type := Sto → Prop
abbrev Gm : Type := State × va_G × (Nat → ClassId)
def s_no : Sto := fun _ => none
def s_up (c : Sto) (a : Nat) (e : va_E) : Sto := fun q => if q = a then some e else c q
theorem s_up_s (c : Sto) (a : Nat) (e : va_E) : s_up c a e a = some e := if_pos rfl
theorem s_up_n {c : Sto} {a q : Nat} {e : va_E} (h : q ≠ a) : s_up c a e q = c q := if_neg h
noncomputable def s_rs (S : Nat → Prop) (c : Sto) : Sto := fun a => @ite _ (S a) (Classical.propDecidable _) (c a) none
theorem s_rs_in {S : Nat → Prop} {c : Sto} {a : Nat} (h : S a) : s_rs S c a = c a := if_pos h
theorem s_rs_out {S : Nat → Prop} {c : Sto} {a : Nat} (h : ¬ S a) : s_rs S c a = none := if_neg h
theorem s_rs_some {S : Nat → Prop} {c : Sto} {a : Nat} {e : va_E} (h : s_rs S c a = some e) : S a ∧ c a = some e := by
  rcases Classical.em (S a) with q | q
  · rw [s_rs_in q] at h; exact ⟨q, h⟩
  · rw [s_rs_out q] at h; cases h
/-- the atoms ws hold in c, each in a part of its own, apart from cf, which stands in c as it is -/
def WF (ws : List SA) (cf c : Sto) : Prop := ∃ f : Nat → Sto, (∀ (i : Nat) (P : SA), ws[i]? = some P → P (f i)) ∧ (∀ i j a : Nat, i < ws.length → j < ws.length → i ≠ j → f i a = none ∨ f j a = none) ∧ (∀ (i a : Nat) (e : va_E), i < ws.length → f i a = some e → c a = some e ∧ cf a = none) ∧ ∀ (a : Nat) (e : va_E), cf a = some e → c a = some e
theorem WF_put {ws : List SA} {cf c : Sto} {q : Nat} {P : SA} (h : WF ws cf c) (hq : ws[q]? = some P) :
    ∃ d : Sto, P d ∧ (∀ a e, d a = some e → c a = some e) ∧ (∀ P', P' d → WF (ws.set q P') cf c) ∧ ∀ a e e' P', d a = some e → P' (s_up d a e') → WF (ws.set q P') cf (s_up c a e') := by
  obtain ⟨f, h1, h2, h3, h4⟩ := h
  have hl : q < ws.length := (List.getElem?_eq_some_iff.mp hq).1
  refine ⟨f q, h1 q P hq, fun a e h => (h3 q a e hl h).1, fun P' hp => ⟨f, fun i Q hi => ?_, fun i j a hi hj => h2 i j a (by simpa using hi) (by simpa using hj), fun i a e hi => h3 i a e (by simpa using hi), h4⟩, fun a e e' P' hd hp => ⟨fun i => if i = q then s_up (f q) a e' else f i, fun i Q hi => ?_, fun i j b hi hj hij => ?_, fun i b x hi hx => ?_, fun b x hx => ?_⟩⟩
  · by_cases hiq : i = q
    · subst hiq
      rw [List.getElem?_set_self hl] at hi
      cases hi
      exact hp
    · rw [List.getElem?_set_ne (Ne.symm hiq)] at hi
      exact h1 i Q hi
  · by_cases hiq : i = q
    · subst hiq
      rw [List.getElem?_set_self hl] at hi
      cases hi
      simpa using hp
    · rw [List.getElem?_set_ne (Ne.symm hiq)] at hi
      simp only [hiq, if_false]
      exact h1 i Q hi
  · have hi' : i < ws.length := by simpa using hi
    have hj' : j < ws.length := by simpa using hj
    by_cases e1 : i = q
    · subst e1
      have e2 : ¬ j = i := fun z => hij z.symm
      simp only [if_true, e2, if_false]
      by_cases hb : b = a
      · subst hb
        exact Or.inr ((h2 i j b hi' hj' hij).resolve_left (by rw [hd]; exact fun z => by cases z))
      · rw [s_up_n hb]
        exact h2 i j b hi' hj' hij
    · by_cases e2 : j = q
      · subst e2
        simp only [e1, if_false, if_true]
        by_cases hb : b = a
        · subst hb
          exact Or.inl ((h2 i j b hi' hj' hij).resolve_right (by rw [hd]; exact fun z => by cases z))
        · rw [s_up_n hb]
          exact h2 i j b hi' hj' hij
      · simp only [e1, e2, if_false]
        exact h2 i j b hi' hj' hij
  · have hi' : i < ws.length := by simpa using hi
    by_cases e1 : i = q
    · subst e1
      simp only [if_true] at hx
      by_cases hb : b = a
      · subst hb
        rw [s_up_s] at hx
        cases hx
        exact ⟨s_up_s _ _ _, (h3 i b e hi' hd).2⟩
      · rw [s_up_n hb] at hx
        rw [s_up_n hb]
        exact h3 i b x hi' hx
    · simp only [e1, if_false] at hx
      have hb : b ≠ a := by
        intro z
        subst z
        rcases h2 i q b hi' hl e1 with z | z
        · rw [z] at hx; cases hx
        · rw [z] at hd; cases hd
      rw [s_up_n hb]
      exact h3 i b x hi' hx
  · have hb : b ≠ a := by
      intro z
      subst z
      rw [(h3 q b e hl hd).2] at hx
      cases hx
    rw [s_up_n hb]
    exact h4 b x hx
theorem WF_push {ws : List SA} {cf c : Sto} {P : SA} {a : Nat} {e : va_E} (h : WF ws cf c) (hn : c a = none) (hp : P (s_up s_no a e)) : WF (P :: ws) cf (s_up c a e) := by
  obtain ⟨f, h1, h2, h3, h4⟩ := h
  have off : ∀ b x, b = a → ¬ c b = some x := fun b x z h => by rw [z, hn] at h; cases h
  refine ⟨fun i => if i = 0 then s_up s_no a e else f (i - 1), fun i Q hi => ?_, fun i j b hi hj hij => ?_, fun i b x hi hx => ?_, fun b x hx => ?_⟩
  · cases i with
    | zero => cases hi; simpa using hp
    | succ i => simpa using h1 i Q (by simpa using hi)
  · have key : ∀ i, i + 1 < (P :: ws).length → s_up s_no a e b = none ∨ f i b = none := by
      intro i hi
      by_cases hb : b = a
      · refine Or.inr ?_
        cases hf : f i b with
        | none => rfl
        | some x => exact absurd (h3 i b x (by simpa using hi) hf).1 (off b x hb)
      · exact Or.inl (by rw [s_up_n hb]; rfl)
    cases i with
    | zero =>
      cases j with
      | zero => exact absurd rfl hij
      | succ j => simpa using key j hj
    | succ i =>
      cases j with
      | zero => simpa using (key i hi).symm
      | succ j => simpa using h2 i j b (by simpa using hi) (by simpa using hj) (fun z => hij (by rw [z]))
  · cases i with
    | zero =>
      simp only [if_true] at hx
      by_cases hb : b = a
      · subst hb
        rw [s_up_s] at hx
        cases hx
        refine ⟨s_up_s _ _ _, ?_⟩
        cases hf : cf b with
        | none => rfl
        | some y => exact absurd (h4 b y hf) (off b y rfl)
      · rw [s_up_n hb] at hx; cases hx
    | succ i =>
      have hx' : f i b = some x := by simpa using hx
      have h9 := h3 i b x (by simpa using hi) hx'
      have hb : b ≠ a := fun z => off b x z h9.1
      rw [s_up_n hb]
      exact h9
  · have hb : b ≠ a := fun z => off b x z (h4 b x hx)
    rw [s_up_n hb]
    exact h4 b x hx
/-- fewer atoms, in any order: by their places -/
theorem WF_pick {ws L : List SA} {cf c : Sto} (is : List Nat) (hL : is.map (fun i => ws[i]?) = L.map some) (hn : va_nd is = true) (h : WF ws cf c) : WF L cf c := by
  obtain ⟨f, h1, h2, h3, h4⟩ := h
  have hlen : is.length = L.length := by simpa using congrArg List.length hL
  have at' : ∀ (k : Nat), k < L.length → ∃ (i : Nat) (P : SA), is[k]? = some i ∧ ws[i]? = some P ∧ L[k]? = some P := by
    intro k hk
    obtain ⟨P, hP⟩ : ∃ P, L[k]? = some P := ⟨L[k], List.getElem?_eq_getElem hk⟩
    have h5 : (is.map (fun i => ws[i]?))[k]? = some (some P) := by rw [hL, List.getElem?_map, hP]; rfl
    rw [List.getElem?_map] at h5
    cases hi : is[k]? with
    | none => rw [hi] at h5; cases h5
    | some i => rw [hi] at h5; exact ⟨i, P, rfl, Option.some.inj h5, hP⟩
  have nd : ∀ i j x, is[i]? = some x → is[j]? = some x → i = j := fun i j x hi hj => va_nd_inj is hn i j x hi hj
  have gd : ∀ k i, is[k]? = some i → is.getD k 0 = i := fun k i h => by rw [List.getD_eq_getElem?_getD, h]; rfl
  refine ⟨fun k => f (is.getD k 0), fun k P hk => ?_, fun i j a hi hj hij => ?_, fun k a e hk => ?_, h4⟩
  · obtain ⟨i, P', e1, e2, e3⟩ := at' k (List.getElem?_eq_some_iff.mp hk).1
    rw [hk] at e3
    cases e3
    show P (f (is.getD k 0))
    rw [gd k i e1]
    exact h1 i P e2
  · obtain ⟨i', P1, e1, e2, -⟩ := at' i hi
    obtain ⟨j', P2, e3, e4, -⟩ := at' j hj
    show f (is.getD i 0) a = none ∨ f (is.getD j 0) a = none
    rw [gd i i' e1, gd j j' e3]
    exact h2 i' j' a (List.getElem?_eq_some_iff.mp e2).1 (List.getElem?_eq_some_iff.mp e4).1 (fun z => hij (nd i j i' e1 (by rw [z]; exact e3)))
  · obtain ⟨i, P, e1, e2, -⟩ := at' k hk
    show f (is.getD k 0) a = some e → _
    rw [gd k i e1]
    exact h3 i a e (List.getElem?_eq_some_iff.mp e2).1
theorem WF_frame {P R : List SA} {cf c : Sto} (h : WF (P ++ R) cf c) : ∃ cf' : Sto, WF P cf' c ∧ ∀ (P' : List SA) (c' : Sto), WF P' cf' c' → WF (P' ++ R) cf c' := by
  obtain ⟨f, h1, h2, h3, h4⟩ := h
  have lp : ∀ i, i < P.length → i < (P ++ R).length := fun i hi => by rw [List.length_append]; omega
  have lr : ∀ i, i < R.length → P.length + i < (P ++ R).length := fun i hi => by rw [List.length_append]; omega
  refine ⟨s_rs (fun a => (∃ i, i < R.length ∧ f (P.length + i) a ≠ none) ∨ cf a ≠ none) c, ⟨f, fun i Q hi => h1 i Q (by rw [List.getElem?_append_left (List.getElem?_eq_some_iff.mp hi).1]; exact hi), fun i j a hi hj => h2 i j a (lp i hi) (lp j hj), fun i a e hi hx => ⟨(h3 i a e (lp i hi) hx).1, s_rs_out ?_⟩, fun a e hx => (s_rs_some hx).2⟩, fun P' c' h' => ?_⟩
  · rintro (⟨j, hj, q⟩ | q)
    · rcases h2 i (P.length + j) a (lp i hi) (lr j hj) (by omega) with z | z
      · rw [z] at hx; cases hx
      · exact q z
    · exact q (h3 i a e (lp i hi) hx).2
  · obtain ⟨g, g1, g2, g3, g4⟩ := h'
    have fr : ∀ j, j < R.length → ∀ a e, f (P.length + j) a = some e → c' a = some e ∧ cf a = none ∧ ∀ i, i < P'.length → g i a = none := by
      intro j hj a e hx
      have h9 := h3 _ a e (lr j hj) hx
      have hS : (∃ i, i < R.length ∧ f (P.length + i) a ≠ none) ∨ cf a ≠ none := Or.inl ⟨j, hj, by rw [hx]; exact fun z => by cases z⟩
      have h8 : s_rs (fun a => (∃ i, i < R.length ∧ f (P.length + i) a ≠ none) ∨ cf a ≠ none) c a = some e := by rw [s_rs_in hS]; exact h9.1
      refine ⟨g4 a e h8, h9.2, fun i hi => ?_⟩
      cases hg : g i a with
      | none => rfl
      | some y => rw [(g3 i a y hi hg).2] at h8; cases h8
    refine ⟨fun i => if i < P'.length then g i else f (P.length + (i - P'.length)), fun i Q hi => ?_, fun i j a hi hj hij => ?_, fun i a e hi hx => ?_, fun a e hx => ?_⟩
    · by_cases hl : i < P'.length
      · rw [List.getElem?_append_left hl] at hi
        simp only [hl, if_true]
        exact g1 i Q hi
      · rw [List.getElem?_append_right (by omega)] at hi
        simp only [hl, if_false]
        exact h1 _ Q (by rw [List.getElem?_append_right (by omega)]; rw [show P.length + (i - P'.length) - P.length = i - P'.length by omega]; exact hi)
    · rw [List.length_append] at hi hj
      by_cases l1 : i < P'.length
      · by_cases l2 : j < P'.length
        · simp only [l1, l2, if_true]
          exact g2 i j a l1 l2 hij
        · simp only [l1, l2, if_true, if_false]
          cases hx : f (P.length + (j - P'.length)) a with
          | none => exact Or.inr rfl
          | some e => exact Or.inl ((fr (j - P'.length) (by omega) a e hx).2.2 i l1)
      · by_cases l2 : j < P'.length
        · simp only [l1, l2, if_true, if_false]
          cases hx : f (P.length + (i - P'.length)) a with
          | none => exact Or.inl rfl
          | some e => exact Or.inr ((fr (i - P'.length) (by omega) a e hx).2.2 j l2)
        · simp only [l1, l2, if_false]
          exact h2 _ _ a (lr _ (by omega)) (lr _ (by omega)) (by omega)
    · rw [List.length_append] at hi
      by_cases l1 : i < P'.length
      · simp only [l1, if_true] at hx
        refine ⟨(g3 i a e l1 hx).1, ?_⟩
        have h8 := (g3 i a e l1 hx).2
        cases hf : cf a with
        | none => rfl
        | some y =>
          rw [s_rs_in (Or.inr (by rw [hf]; exact fun z => by cases z)), h4 a y hf] at h8
          cases h8
      · simp only [l1, if_false] at hx
        have h9 := fr _ (by omega : i - P'.length < R.length) a e hx
        exact ⟨h9.1, h9.2.1⟩
    · refine g4 a e ?_
      rw [s_rs_in (Or.inr (by rw [hx]; exact fun z => by cases z))]
      exact h4 a e hx
/-- atoms by themselves -/
def WL (ws : List SA) : SA := fun d => WF ws s_no d
theorem WF_close {L R : List SA} {P : SA} {cf c : Sto} (h : WF (L ++ R) cf c) (hp : ∀ d, WL L d → P d) : WF (P :: R) cf c := by
  obtain ⟨cf', h1, h2⟩ := WF_frame h
  refine h2 [P] c ?_
  obtain ⟨f, f1, f2, f3, f4⟩ := h1
  refine ⟨fun _ => s_rs (fun a => ∃ i, i < L.length ∧ f i a ≠ none) c, fun i Q hi => ?_, fun i j a hi hj hij => ?_, fun i a e hi hx => ?_, f4⟩
  · have hi0 : i = 0 := by have := (List.getElem?_eq_some_iff.mp hi).1; simpa using this
    subst hi0
    cases hi
    refine hp _ ⟨f, f1, f2, fun i a e hi hx => ⟨?_, rfl⟩, fun a e hx => by cases hx⟩
    have hS : ∃ i, i < L.length ∧ f i a ≠ none := ⟨i, hi, by rw [hx]; exact fun z => by cases z⟩
    show s_rs (fun a => ∃ i, i < L.length ∧ f i a ≠ none) c a = some e
    rw [s_rs_in hS]
    exact (f3 i a e hi hx).1
  · simp at hi hj
    omega
  · obtain ⟨⟨k, hk, hne⟩, hc⟩ := s_rs_some hx
    refine ⟨hc, ?_⟩
    cases hf : f k a with
    | none => exact absurd hf hne
    | some y => exact (f3 k a y hk hf).2
theorem WF_open {L R : List SA} {P : SA} {cf c : Sto} (h : WF (P :: R) cf c) (hp : ∀ d, P d → WL L d) : WF (L ++ R) cf c := by
  obtain ⟨cf', h1, h2⟩ := WF_frame (P := [P]) h
  refine h2 L c ?_
  obtain ⟨f, f1, f2, f3, f4⟩ := h1
  obtain ⟨g, g1, g2, g3, g4⟩ := hp _ (f1 0 P rfl)
  exact ⟨g, g1, g2, fun i a e hi hx => f3 0 a e (by simp) (g3 i a e hi hx).1, f4⟩
theorem WF_openX {X : Type} {L : X → List SA} {Y : X → Prop} {R : List SA} {P : SA} {cf c : Sto} (h : WF (P :: R) cf c) (hp : ∀ d, P d → ∃ x, Y x ∧ WL (L x) d) : ∃ x, Y x ∧ WF (L x ++ R) cf c := by
  obtain ⟨cf', h1, h2⟩ := WF_frame (P := [P]) h
  obtain ⟨f, f1, f2, f3, f4⟩ := h1
  obtain ⟨x, hx, g, g1, g2, g3, g4⟩ := hp _ (f1 0 P rfl)
  exact ⟨x, hx, h2 (L x) c ⟨g, g1, g2, fun i a e hi hx => f3 0 a e (by simp) (g3 i a e hi hx).1, f4⟩⟩
/-- atom by atom -/
theorem WF_conv {ws ws' : List SA} {cf c : Sto} (h : WF ws cf c) (hl : ws'.length = ws.length) (hi : ∀ (i : Nat) (P P' : SA), ws[i]? = some P → ws'[i]? = some P' → ∀ d, P d → P' d) : WF ws' cf c := by
  obtain ⟨f, f1, f2, f3, f4⟩ := h
  refine ⟨f, fun i P' hP => ?_, fun i j a h1 h2 => f2 i j a (by omega) (by omega), fun i a e h => f3 i a e (by omega), f4⟩
  have hlt : i < ws.length := by have := (List.getElem?_eq_some_iff.mp hP).1; omega
  exact hi i ws[i] P' (List.getElem?_eq_getElem hlt) hP _ (f1 i _ (List.getElem?_eq_getElem hlt))
