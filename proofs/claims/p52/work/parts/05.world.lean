/-! Numbers as integers; the world; the judgement WX of a method's walk; the contract MX. -/
def zI (n : Int) : Int32 := Int32.ofInt n
def zL (n : Int) : Int64 := Int64.ofInt n
def bI (n : Int) : Prop := -2147483648 ≤ n ∧ n < 2147483648
theorem zI_add (a b : Int) : zI a + zI b = zI (a + b) := (Int32.ofInt_add a b).symm
theorem zI_sub (a b : Int) : zI a - zI b = zI (a - b) := (Int32.ofInt_sub a b).symm
theorem zI_mul (a b : Int) : zI a * zI b = zI (a * b) := (Int32.ofInt_mul a b).symm
theorem zI_toInt {n : Int} (h : bI n) : (zI n).toInt = n := Int32.toInt_ofInt_of_le (by have := h.1; omega) (by have := h.2; omega)
theorem zI_of (x : Int32) : zI x.toInt = x := Int32.ofInt_toInt x
theorem zI_ofNat (n : Nat) : Int32.ofNat n = zI n := (Int32.ofInt_eq_ofNat (n := n)).symm
theorem bI_toInt (x : Int32) : bI x.toInt := ⟨by have := x.le_toInt; omega, by have := x.toInt_lt; omega⟩
theorem zI_lt {a b : Int} (ha : bI a) (hb : bI b) : zI a < zI b ↔ a < b := by rw [Int32.lt_iff_toInt_lt, zI_toInt ha, zI_toInt hb]
theorem zI_le {a b : Int} (ha : bI a) (hb : bI b) : zI a ≤ zI b ↔ a ≤ b := by rw [Int32.le_iff_toInt_le, zI_toInt ha, zI_toInt hb]
theorem zI_eq {a b : Int} (ha : bI a) (hb : bI b) : zI a = zI b ↔ a = b := by rw [← Int32.toInt_inj, zI_toInt ha, zI_toInt hb]
theorem zI_nat {a : Int} (h0 : 0 ≤ a) (h : a < 2147483648) : (zI a).toNatClampNeg = a.toNat := by
  rw [← Int32.toNat_toInt, zI_toInt ⟨by omega, h⟩]
theorem zI_in {a : Int} {n : Nat} (h0 : 0 ≤ a) (h : a < n) (hn : n < 2147483648) : vp_in (zI a) n := by
  unfold vp_in
  rw [zI_nat h0 (by omega), show (0 : Int32) = zI 0 from rfl, zI_lt ⟨by omega, by omega⟩ ⟨by omega, by omega⟩]
  omega
theorem zI_0 : (0 : Int32) = zI 0 := rfl
/-- a table with one place more -/
def up (f : Nat → Int) (k : Nat) (v : Int) (j : Nat) : Int := if j = k then v else f j
theorem up_s (f : Nat → Int) (k : Nat) (v : Int) : up f k v k = v := if_pos rfl
theorem up_n {f : Nat → Int} {k j : Nat} {v : Int} (h : ¬ j = k) : up f k v j = f j := if_neg h
def ups (f : Nat → Nat → Int) (k : Nat) (g : Nat → Int) (j : Nat) : Nat → Int := if j = k then g else f j
theorem ups_s (f : Nat → Nat → Int) (k : Nat) (g : Nat → Int) : ups f k g k = g := if_pos rfl
theorem ups_n {f : Nat → Nat → Int} {k j : Nat} {g : Nat → Int} (h : ¬ j = k) : ups f k g j = f j := if_neg h
/-- a truth as a number -/
def bz (p : Prop) [Decidable p] : Int := if p then 1 else 0
theorem bz_t {p : Prop} [Decidable p] (h : p) : bz p = 1 := if_pos h
theorem bz_f {p : Prop} [Decidable p] (h : ¬ p) : bz p = 0 := if_neg h
theorem bz_bI (p : Prop) [Decidable p] : bI (bz p) := by unfold bz bI; split <;> decide
/-! the words -/
def TSg : List Cond := lw_tbl.filter goodWord
theorem TSg_in {w : Cond} (i : Nat) (h : lw_tbl[i]? = some w) (hg : goodWord w = true) : w ∈ TSg := List.mem_filter.mpr ⟨List.mem_of_getElem? h, hg⟩
theorem TSg_good {ws : List Cond} (h : ∀ w ∈ ws, w ∈ TSg) : GoodIn TSg ws := fun w hw => ⟨h w hw, good_of_word (List.mem_filter.mp (h w hw)).2⟩
/-- the words that change with the nest's notes -/
def TSn : List Cond := [.methodLinkNest RX7 9 yX4_init "EchoLine", .methodLinkNest RX0 35 yX3_init "EchoLine", .methodLinkNest RX2 11 yX3_init "EchoLine", .methodLinkNest RX6 19 yX1_init "EchoLine", .methodLinkNest RX6 31 yX0_init "EchoLine"]
abbrev CL : List vw_C := vwCl
def tysG (G : Gm) : List (ClassId × FieldType) := [(G.2.2 0, .int), (G.2.2 1, .byte), (G.2.2 2, .int), (G.2.2 3, .int), (G.2.2 4, .int), (G.2.2 5, .object "EchoLine$Line"), (G.2.2 6, .object "EchoLine$Trunk")]
/-- what the tables say, once for all -/
def KG (G : Gm) : Prop := va_K G.2.1 CL (tysG G) G.1 ∧ (∀ w ∈ TSn, va_Nw w G.1) ∧ va_AO "EchoLine$Line" G.1 ∧ va_AO "EchoLine$Trunk" G.1
def HH (G : Gm) (c : Sto) (H : Heap) : Prop := G.1.heap.size ≤ H.size ∧ (∀ q : Nat, q < G.1.heap.size → H[q]? = G.1.heap[q]?) ∧ ∀ (a : Nat) (e : va_E), c a = some e → G.1.heap.size ≤ a ∧ va_at G.2.1 CL (a, e) H
def WH (G : Gm) (c : Sto) (U : State) : Prop := G.1.WarmedH U.vm ∧ HH G c U.heap
theorem HH_list {G : Gm} {c : Sto} {H : Heap} (h : HH G c H) : ∃ ws : va_W, va_P G.2.1 CL ws H ∧ va_D (fun q => G.1.heap.size ≤ q) ws ∧ (∀ (q : Nat) (e : va_E), c q = some e → ∃ k : Nat, ws[k]? = some (q, e)) ∧ ∀ (k : Nat) (x : Nat × va_E), ws[k]? = some x → c x.1 = some x.2 := by
  have hmem : ∀ x : Nat × va_E, x ∈ (List.range H.size).filterMap (fun q => (c q).map (fun e => (q, e))) ↔ c x.1 = some x.2 := by
    intro x
    constructor
    · intro hx
      obtain ⟨q, -, hq⟩ := List.mem_filterMap.mp hx
      cases hc : c q with
      | none => rw [hc] at hq; cases hq
      | some e => rw [hc] at hq; cases hq; exact hc
    · intro hx
      refine List.mem_filterMap.mpr ⟨x.1, List.mem_range.mpr (h.2.2 x.1 x.2 hx).2.lt, ?_⟩
      rw [hx]
      rfl
  have hpw : List.Pairwise (fun a b : Nat × va_E => a.1 < b.1) ((List.range H.size).filterMap (fun q => (c q).map (fun e => (q, e)))) := by
    refine List.Pairwise.filterMap _ (fun a a' hlt b hb b' hb' => ?_) List.pairwise_lt_range
    cases hc : c a with
    | none => rw [hc] at hb; cases hb
    | some e =>
      cases hc' : c a' with
      | none => rw [hc'] at hb'; cases hb'
      | some e' => rw [hc] at hb; rw [hc'] at hb'; cases hb; cases hb'; exact hlt
  refine ⟨(List.range H.size).filterMap (fun q => (c q).map (fun e => (q, e))), fun k x hk => (h.2.2 x.1 x.2 ((hmem x).mp (List.mem_of_getElem? hk))).2, ⟨fun i j p q hi hj hpq => ?_, fun k x hk => (h.2.2 x.1 x.2 ((hmem x).mp (List.mem_of_getElem? hk))).1⟩, fun q e hq => List.getElem?_of_mem ((hmem (q, e)).mpr hq), fun k x hk => (hmem x).mp (List.mem_of_getElem? hk)⟩
  obtain ⟨li, ei⟩ := List.getElem?_eq_some_iff.mp hi
  obtain ⟨lj, ej⟩ := List.getElem?_eq_some_iff.mp hj
  rcases Nat.lt_trichotomy i j with z | z | z
  · have := List.pairwise_iff_getElem.mp hpw i j li lj z
    rw [ei, ej] at this
    omega
  · exact z
  · have := List.pairwise_iff_getElem.mp hpw j i lj li z
    rw [ei, ej] at this
    omega
/-- behind a write of one cell -/
theorem HH_set {G : Gm} {c : Sto} {H H1 : Heap} {ws : va_W} {k a : Nat} {e e' : va_E} {locs : List Loc} (h : HH G c H) (hk : ws[k]? = some (a, e)) (hc : ∀ (q : Nat) (e : va_E), c q = some e → ∃ k : Nat, ws[k]? = some (q, e)) (hP : va_P G.2.1 CL (ws.set k (a, e')) H1) (hS : va_S (fun q => G.1.heap.size ≤ q) H H1 locs) (hca : c a = some e) : HH G (s_up c a e') H1 := by
  have hl := (List.getElem?_eq_some_iff.mp hk).1
  refine ⟨Nat.le_trans h.1 hS.1, fun q hq => (hS.2.1 q (Nat.lt_of_lt_of_le hq h.1) (Nat.not_le.mpr hq)).trans (h.2.1 q hq), fun q x hx => ?_⟩
  by_cases hq : q = a
  · subst hq
    rw [s_up_s] at hx
    cases hx
    exact ⟨(h.2.2 q e hca).1, hP k (q, e') (List.getElem?_set_self hl)⟩
  · rw [s_up_n hq] at hx
    obtain ⟨j, hj⟩ := hc q x hx
    have hjk : j ≠ k := by
      intro z
      subst z
      rw [hk] at hj
      cases hj
      exact hq rfl
    exact ⟨(h.2.2 q x hx).1, hP j (q, x) (by rw [List.getElem?_set_ne (Ne.symm hjk)]; exact hj)⟩
theorem HH_none {G : Gm} {c : Sto} {H : Heap} (h : HH G c H) {a : Nat} (ha : H.size ≤ a) : c a = none := by
  cases hc : c a with
  | none => rfl
  | some e => exact absurd (h.2.2 a e hc).2.lt (Nat.not_lt.mpr ha)
/-- behind a new cell -/
theorem HH_new {G : Gm} {c : Sto} {H H1 : Heap} {e : va_E} (h : HH G c H) (hz : H.size ≤ H1.size) (ho : ∀ q : Nat, q < H.size → H1[q]? = H[q]?) (he : va_at G.2.1 CL (H.size, e) H1) : HH G (s_up c H.size e) H1 := by
  refine ⟨Nat.le_trans h.1 hz, fun q hq => (ho q (Nat.lt_of_lt_of_le hq h.1)).trans (h.2.1 q hq), fun q x hx => ?_⟩
  by_cases hq : q = H.size
  · subst hq
    rw [s_up_s] at hx
    cases hx
    exact ⟨h.1, he⟩
  · rw [s_up_n hq] at hx
    have h9 := h.2.2 q x hx
    exact ⟨h9.1, h9.2.kept (ho q h9.2.lt)⟩
theorem HH_more {G : Gm} {c : Sto} {H H1 : Heap} (h : HH G c H) (hz : H.size ≤ H1.size) (ho : ∀ q : Nat, q < H.size → H1[q]? = H[q]?) : HH G c H1 := by
  refine ⟨Nat.le_trans h.1 hz, fun q hq => (ho q (Nat.lt_of_lt_of_le hq h.1)).trans (h.2.1 q hq), fun q x hx => ?_⟩
  have h9 := h.2.2 q x hx
  exact ⟨h9.1, h9.2.kept (ho q h9.2.lt)⟩
/-! the locals -/
def lx (ls : Array Slot) (lv : List (Option Value)) : Prop := ls.size = lv.length ∧ lv_wf ls ∧ ∀ (i : Nat) (v : Value), lv[i]? = some (some v) → ls[i]? = some (.val v)
def lxL : Nat → List (Option Value) → List (Nat × Value)
  | _, [] => []
  | k, none :: t => lxL (k + 1) t
  | k, some v :: t => (k, v) :: lxL (k + 1) t
theorem lxL_mem (lv : List (Option Value)) : ∀ (k : Nat) (x : Nat × Value), x ∈ lxL k lv ↔ k ≤ x.1 ∧ lv[x.1 - k]? = some (some x.2) := by
  induction lv with
  | nil => intro k x; simp [lxL]
  | cons o t ih =>
    intro k x
    have key : (k + 1 ≤ x.1 ∧ t[x.1 - (k + 1)]? = some (some x.2)) ↔ (k + 1 ≤ x.1 ∧ (o :: t)[x.1 - k]? = some (some x.2)) := by
      constructor
      · rintro ⟨a, b⟩
        refine ⟨a, ?_⟩
        rw [show x.1 - k = (x.1 - (k + 1)) + 1 by omega]
        simpa using b
      · rintro ⟨a, b⟩
        refine ⟨a, ?_⟩
        rw [show x.1 - k = (x.1 - (k + 1)) + 1 by omega] at b
        simpa using b
    cases o with
    | none =>
      rw [lxL, ih, key]
      constructor
      · rintro ⟨a, b⟩; exact ⟨by omega, b⟩
      · rintro ⟨a, b⟩
        refine ⟨?_, b⟩
        rcases Nat.lt_or_ge k x.1 with z | z
        · exact z
        · rw [show x.1 - k = 0 by omega] at b; cases b
    | some v =>
      rw [lxL, List.mem_cons, ih, key]
      constructor
      · rintro (rfl | ⟨a, b⟩)
        · simp
        · exact ⟨by omega, b⟩
      · rintro ⟨a, b⟩
        rcases Nat.lt_or_ge k x.1 with z | z
        · exact Or.inr ⟨z, b⟩
        · have e : x.1 = k := by omega
          rw [e, Nat.sub_self] at b
          cases b
          exact Or.inl (Prod.ext e rfl)
theorem lx_has {ls : Array Slot} {lv : List (Option Value)} (h : lx ls lv) : lv_has ls lv.length (lxL 0 lv) :=
  ⟨h.1, h.2.1, fun q hq => h.2.2 q.1 q.2 (by have := (lxL_mem lv 0 q).mp hq; simpa using this.2)⟩
theorem lx_of {ls : Array Slot} {n : Nat} {l : List (Nat × Value)} {lv : List (Option Value)} (h : lv_has ls n l) (hn : lv.length = n) (hl : ∀ (i : Nat) (v : Value), lv[i]? = some (some v) → (i, v) ∈ l) : lx ls lv :=
  ⟨h.1.trans hn.symm, h.2.1, fun i v hi => h.2.2 (i, v) (hl i v hi)⟩
/-- the place ahead of i holds no long, no double -/
def c1 (lv : List (Option Value)) : Nat → Bool
  | 0 => true
  | i + 1 => match lv[i]? with
    | some (some w) => w.category == 1
    | _ => true
theorem lx_store1 {ls' : Array Slot} {lv lv' : List (Option Value)} {i : Nat} {v : Value} (hs : lv_has ls' lv.length ((i, v) :: (lxL 0 lv).filter (fun q => !(q.1 == i) && !(q.1 + 1 == i && q.2.category == 2)))) (hl : lv.set i (some v) = lv') (hc : c1 lv i = true) : lx ls' lv' := by
  refine lx_of hs (by rw [← hl]; simp) (fun j w hj => ?_)
  rw [← hl] at hj
  by_cases hji : j = i
  · subst hji
    have hlt : j < lv.length := by simpa using (List.getElem?_eq_some_iff.mp hj).1
    rw [List.getElem?_set_self hlt] at hj
    cases hj
    exact List.mem_cons_self
  · rw [List.getElem?_set_ne (Ne.symm hji)] at hj
    refine List.mem_cons_of_mem _ (List.mem_filter.mpr ⟨(lxL_mem lv 0 (j, w)).mpr ⟨Nat.zero_le _, by simpa using hj⟩, ?_⟩)
    by_cases h1 : j + 1 = i
    · subst h1
      simp only [c1, hj] at hc
      have h2 : w.category = 1 := by simpa using hc
      simp [h2]
    · simp [hji, h1]
theorem lx_store2 {ls' : Array Slot} {lv lv' : List (Option Value)} {i : Nat} {v : Value} (hs : lv_has ls' lv.length ((i, v) :: (lxL 0 lv).filter (fun q => !(q.1 == i) && (!(q.1 == i + 1) && !(q.1 + 1 == i && q.2.category == 2))))) (hl : (lv.set i (some v)).set (i + 1) none = lv') (hc : c1 lv i = true) : lx ls' lv' := by
  refine lx_of hs (by rw [← hl]; simp) (fun j w hj => ?_)
  rw [← hl] at hj
  have hj1 : j ≠ i + 1 := by
    intro z
    subst z
    have hlt : i + 1 < (lv.set i (some v)).length := by simpa using (List.getElem?_eq_some_iff.mp hj).1
    rw [List.getElem?_set_self hlt] at hj
    cases hj
  rw [List.getElem?_set_ne (Ne.symm hj1)] at hj
  by_cases hji : j = i
  · subst hji
    have hlt : j < lv.length := by simpa using (List.getElem?_eq_some_iff.mp hj).1
    rw [List.getElem?_set_self hlt] at hj
    cases hj
    exact List.mem_cons_self
  · rw [List.getElem?_set_ne (Ne.symm hji)] at hj
    refine List.mem_cons_of_mem _ (List.mem_filter.mpr ⟨(lxL_mem lv 0 (j, w)).mpr ⟨Nat.zero_le _, by simpa using hj⟩, ?_⟩)
    by_cases h1 : j + 1 = i
    · subst h1
      simp only [c1, hj] at hc
      have h2 : w.category = 1 := by simpa using hc
      simp [h2]
      omega
    · simp [hji, hj1, h1]
/-- the locals at a method's entry -/
def entL : List Value → List (Option Value)
  | [] => []
  | .long x :: t => some (.long x) :: none :: entL t
  | .double x :: t => some (.double x) :: none :: entL t
  | .int x :: t => some (.int x) :: entL t
  | .float x :: t => some (.float x) :: entL t
  | .null :: t => some .null :: entL t
  | .ref x :: t => some (.ref x) :: entL t
  | .retAddr x :: t => some (.retAddr x) :: entL t
theorem entL_mem (vs : List Value) : ∀ (k i : Nat) (v : Value), (entL vs)[i]? = some (some v) → (k + i, v) ∈ lv_args k vs := by
  induction vs with
  | nil => intro k i v h; simp [entL] at h
  | cons w t ih =>
    intro k i v h
    cases w <;> (
      cases i with
      | zero => simp only [entL, List.getElem?_cons_zero, Option.some.injEq] at h; subst h; simp [lv_args]
      | succ i =>
        first
        | (have h1 := ih (k + 1) i v (by simpa [entL] using h)
           simp only [lv_args, Value.category]
           exact List.mem_cons_of_mem _ (by simpa [Nat.add_assoc, Nat.add_comm 1 i] using h1))
        | (cases i with
           | zero => simp [entL] at h
           | succ i =>
             have h1 := ih (k + 2) i v (by simpa [entL] using h)
             simp only [lv_args, Value.category]
             exact List.mem_cons_of_mem _ (by simpa [Nat.add_assoc, Nat.add_comm 2 i] using h1)))
theorem entL_len (vs : List Value) : (entL vs).length = (lg_sl vs).length := by
  induction vs with
  | nil => rfl
  | cons w t ih => cases w <;> simp_all [entL, lg_sl, Value.category] <;> omega
