/-! An instruction that is read in a short piece of the code stands in the code (no switch, no newarray). -/
def zgF {x : Decoder Instr} {F : Nat → Decoder Instr} (_ : x = (Reader.u1 : Decoder Nat) >>= F) : Nat → Decoder Instr := F
/-- what is done behind the first byte -/
def opF (pc : Nat) : Nat → Decoder Instr := zgF (x := Decoder.instr pc) rfl
/-- the piece from o on -/
def SubC (c c' : ByteArray) (o : Nat) : Prop := ∀ (p : Nat) (h : p < c'.size), ∃ h2 : o + p < c.size, c[o + p]'h2 = c'[p]'h
/-- what is read in the piece is read in the code -/
def Sm (c c' : ByteArray) (o : Nat) {α : Type} (r r' : Decoder α) : Prop := ∀ (p : Nat) (a : α) (q : Nat), Reader.runAt r' c' p = .ok (a, q) → Reader.runAt r c (o + p) = .ok (a, o + q)
theorem sm_pure {c c' : ByteArray} {o : Nat} {α : Type} {a : α} : Sm c c' o (pure a) (pure a) := by
  intro p b q h
  have h1 : (Except.ok (a, p) : Except DecodeError (α × Nat)) = .ok (b, q) := h
  cases h1
  rfl
theorem sm_bind {c c' : ByteArray} {o : Nat} {α β : Type} {r r' : Decoder α} {f f' : α → Decoder β} (h : Sm c c' o r r') (hf : ∀ a, Sm c c' o (f a) (f' a)) : Sm c c' o (r >>= f) (r' >>= f') := by
  intro p b q e
  have e1 : Reader.runAt (r' >>= f') c' p = Except.bind (Reader.runAt r' c' p) (fun x => Reader.runAt (f' x.1) c' x.2) := rfl
  have e2 : Reader.runAt (r >>= f) c (o + p) = Except.bind (Reader.runAt r c (o + p)) (fun x => Reader.runAt (f x.1) c x.2) := rfl
  rw [e1] at e
  rw [e2]
  cases hr : Reader.runAt r' c' p with
  | error z =>
    rw [hr] at e
    have e3 : (Except.error z : Except DecodeError (β × Nat)) = .ok (b, q) := e
    cases e3
  | ok x =>
    rw [hr] at e
    rw [h p x.1 x.2 hr]
    exact hf x.1 x.2 b q e
theorem sm_map {c c' : ByteArray} {o : Nat} {α β : Type} {r r' : Decoder α} {f : α → β} (h : Sm c c' o r r') : Sm c c' o (f <$> r) (f <$> r') := by
  intro p b q e
  have e1 : Reader.runAt (f <$> r') c' p = Except.bind (Reader.runAt r' c' p) (fun x => .ok (f x.1, x.2)) := rfl
  have e2 : Reader.runAt (f <$> r) c (o + p) = Except.bind (Reader.runAt r c (o + p)) (fun x => .ok (f x.1, x.2)) := rfl
  rw [e1] at e
  rw [e2]
  cases hr : Reader.runAt r' c' p with
  | error z =>
    rw [hr] at e
    have e3 : (Except.error z : Except DecodeError (β × Nat)) = .ok (b, q) := e
    cases e3
  | ok x =>
    rw [hr] at e
    rw [h p x.1 x.2 hr]
    have e3 : (Except.ok (f x.1, x.2) : Except DecodeError (β × Nat)) = .ok (b, q) := e
    cases e3
    rfl
theorem u1_r {c : ByteArray} {p : Nat} (h : p < c.size) : Reader.runAt (Reader.u1 : Decoder Nat) c p = .ok ((c[p]'h).toNat, p + 1) := by
  have e : Reader.runAt (Reader.u1 : Decoder Nat) c p = Reader.runAt ((if h : p < c.size then (do set (p + 1); pure (c[p]'h).toNat : Decoder Nat) else throw (HasTruncated.truncated p)) : Decoder Nat) c p := rfl
  rw [e, dif_pos h]
  rfl
theorem u1_n {c : ByteArray} {p : Nat} (h : ¬ p < c.size) : Reader.runAt (Reader.u1 : Decoder Nat) c p = .error (HasTruncated.truncated p) := by
  have e : Reader.runAt (Reader.u1 : Decoder Nat) c p = Reader.runAt ((if h : p < c.size then (do set (p + 1); pure (c[p]'h).toNat : Decoder Nat) else throw (HasTruncated.truncated p)) : Decoder Nat) c p := rfl
  rw [e, dif_neg h]
  rfl
theorem u1_b {c : ByteArray} {p : Nat} (h : p < c.size) (F : Nat → Decoder Instr) : Reader.runAt ((Reader.u1 : Decoder Nat) >>= F) c p = Reader.runAt (F (c[p]'h).toNat) c (p + 1) := by
  have e : Reader.runAt ((Reader.u1 : Decoder Nat) >>= F) c p = Except.bind (Reader.runAt (Reader.u1 : Decoder Nat) c p) (fun x => Reader.runAt (F x.1) c x.2) := rfl
  rw [e, u1_r h]
  rfl
theorem sm_u1 {c c' : ByteArray} {o : Nat} (H : SubC c c' o) : Sm c c' o Reader.u1 Reader.u1 := by
  intro p a q e
  by_cases h : p < c'.size
  · obtain ⟨h2, h3⟩ := H p h
    rw [u1_r h] at e
    rw [u1_r h2, h3]
    cases e
    rfl
  · rw [u1_n h] at e
    cases e
theorem sm_s1 {c c' : ByteArray} {o : Nat} (H : SubC c c' o) : Sm c c' o Reader.s1 Reader.s1 := sm_map (sm_u1 H)
theorem sm_u2 {c c' : ByteArray} {o : Nat} (H : SubC c c' o) : Sm c c' o Reader.u2 Reader.u2 := sm_bind (sm_u1 H) (fun _ => sm_bind (sm_u1 H) (fun _ => sm_pure))
theorem sm_s2 {c c' : ByteArray} {o : Nat} (H : SubC c c' o) : Sm c c' o Reader.s2 Reader.s2 := sm_map (sm_u2 H)
theorem sub_of {c c' : ByteArray} {o n : Nat} (h : (c.data.toList.drop o).take n = c'.data.toList) : SubC c c' o := by
  intro p hp
  have hl : c'.data.toList[p]? = some (c'[p]'hp) := List.getElem?_eq_getElem (l := c'.data.toList) hp
  rw [← h] at hl
  have hn : p < n := by
    by_cases z : p < n
    · exact z
    · have hz : n ≤ p := Nat.le_of_not_lt z
      rw [List.getElem?_take_eq_none hz] at hl; cases hl
  rw [List.getElem?_take_of_lt hn, List.getElem?_drop] at hl
  obtain ⟨h2, h3⟩ := List.getElem?_eq_some_iff.mp hl
  exact ⟨h2, h3⟩
def Pop (c c' : ByteArray) (o b : Nat) : Prop := ∀ pc pc' : Nat, Sm c c' o (opF pc b) (opF pc' b)
theorem om_3 {c c' : ByteArray} {o : Nat} (H : SubC c c' o) : Pop c c' o 3 := fun _ _ => sm_pure
theorem om_4 {c c' : ByteArray} {o : Nat} (H : SubC c c' o) : Pop c c' o 4 := fun _ _ => sm_pure
theorem om_5 {c c' : ByteArray} {o : Nat} (H : SubC c c' o) : Pop c c' o 5 := fun _ _ => sm_pure
theorem om_6 {c c' : ByteArray} {o : Nat} (H : SubC c c' o) : Pop c c' o 6 := fun _ _ => sm_pure
theorem om_7 {c c' : ByteArray} {o : Nat} (H : SubC c c' o) : Pop c c' o 7 := fun _ _ => sm_pure
theorem om_8 {c c' : ByteArray} {o : Nat} (H : SubC c c' o) : Pop c c' o 8 := fun _ _ => sm_pure
theorem om_9 {c c' : ByteArray} {o : Nat} (H : SubC c c' o) : Pop c c' o 9 := fun _ _ => sm_pure
theorem om_10 {c c' : ByteArray} {o : Nat} (H : SubC c c' o) : Pop c c' o 10 := fun _ _ => sm_pure
theorem om_16 {c c' : ByteArray} {o : Nat} (H : SubC c c' o) : Pop c c' o 16 := fun _ _ => sm_bind (sm_s1 H) (fun _ => sm_pure)
theorem om_21 {c c' : ByteArray} {o : Nat} (H : SubC c c' o) : Pop c c' o 21 := fun _ _ => sm_bind (sm_u1 H) (fun _ => sm_pure)
theorem om_23 {c c' : ByteArray} {o : Nat} (H : SubC c c' o) : Pop c c' o 23 := fun _ _ => sm_bind (sm_u1 H) (fun _ => sm_pure)
theorem om_24 {c c' : ByteArray} {o : Nat} (H : SubC c c' o) : Pop c c' o 24 := fun _ _ => sm_bind (sm_u1 H) (fun _ => sm_pure)
theorem om_25 {c c' : ByteArray} {o : Nat} (H : SubC c c' o) : Pop c c' o 25 := fun _ _ => sm_bind (sm_u1 H) (fun _ => sm_pure)
theorem om_42 {c c' : ByteArray} {o : Nat} (H : SubC c c' o) : Pop c c' o 42 := fun _ _ => sm_pure
theorem om_43 {c c' : ByteArray} {o : Nat} (H : SubC c c' o) : Pop c c' o 43 := fun _ _ => sm_pure
theorem om_44 {c c' : ByteArray} {o : Nat} (H : SubC c c' o) : Pop c c' o 44 := fun _ _ => sm_pure
theorem om_45 {c c' : ByteArray} {o : Nat} (H : SubC c c' o) : Pop c c' o 45 := fun _ _ => sm_pure
theorem om_46 {c c' : ByteArray} {o : Nat} (H : SubC c c' o) : Pop c c' o 46 := fun _ _ => sm_pure
theorem om_47 {c c' : ByteArray} {o : Nat} (H : SubC c c' o) : Pop c c' o 47 := fun _ _ => sm_pure
theorem om_49 {c c' : ByteArray} {o : Nat} (H : SubC c c' o) : Pop c c' o 49 := fun _ _ => sm_pure
theorem om_54 {c c' : ByteArray} {o : Nat} (H : SubC c c' o) : Pop c c' o 54 := fun _ _ => sm_bind (sm_u1 H) (fun _ => sm_pure)
theorem om_56 {c c' : ByteArray} {o : Nat} (H : SubC c c' o) : Pop c c' o 56 := fun _ _ => sm_bind (sm_u1 H) (fun _ => sm_pure)
theorem om_57 {c c' : ByteArray} {o : Nat} (H : SubC c c' o) : Pop c c' o 57 := fun _ _ => sm_bind (sm_u1 H) (fun _ => sm_pure)
theorem om_58 {c c' : ByteArray} {o : Nat} (H : SubC c c' o) : Pop c c' o 58 := fun _ _ => sm_bind (sm_u1 H) (fun _ => sm_pure)
theorem om_76 {c c' : ByteArray} {o : Nat} (H : SubC c c' o) : Pop c c' o 76 := fun _ _ => sm_pure
theorem om_77 {c c' : ByteArray} {o : Nat} (H : SubC c c' o) : Pop c c' o 77 := fun _ _ => sm_pure
theorem om_78 {c c' : ByteArray} {o : Nat} (H : SubC c c' o) : Pop c c' o 78 := fun _ _ => sm_pure
theorem om_89 {c c' : ByteArray} {o : Nat} (H : SubC c c' o) : Pop c c' o 89 := fun _ _ => sm_pure
theorem om_96 {c c' : ByteArray} {o : Nat} (H : SubC c c' o) : Pop c c' o 96 := fun _ _ => sm_pure
theorem om_100 {c c' : ByteArray} {o : Nat} (H : SubC c c' o) : Pop c c' o 100 := fun _ _ => sm_pure
theorem om_126 {c c' : ByteArray} {o : Nat} (H : SubC c c' o) : Pop c c' o 126 := fun _ _ => sm_pure
theorem om_132 {c c' : ByteArray} {o : Nat} (H : SubC c c' o) : Pop c c' o 132 := fun _ _ => sm_bind (sm_u1 H) (fun _ => sm_bind (sm_s1 H) (fun _ => sm_pure))
theorem om_133 {c c' : ByteArray} {o : Nat} (H : SubC c c' o) : Pop c c' o 133 := fun _ _ => sm_pure
theorem om_141 {c c' : ByteArray} {o : Nat} (H : SubC c c' o) : Pop c c' o 141 := fun _ _ => sm_pure
theorem om_148 {c c' : ByteArray} {o : Nat} (H : SubC c c' o) : Pop c c' o 148 := fun _ _ => sm_pure
theorem om_149 {c c' : ByteArray} {o : Nat} (H : SubC c c' o) : Pop c c' o 149 := fun _ _ => sm_pure
theorem om_151 {c c' : ByteArray} {o : Nat} (H : SubC c c' o) : Pop c c' o 151 := fun _ _ => sm_pure
theorem om_153 {c c' : ByteArray} {o : Nat} (H : SubC c c' o) : Pop c c' o 153 := fun _ _ => sm_bind (sm_s2 H) (fun _ => sm_pure)
theorem om_154 {c c' : ByteArray} {o : Nat} (H : SubC c c' o) : Pop c c' o 154 := fun _ _ => sm_bind (sm_s2 H) (fun _ => sm_pure)
theorem om_159 {c c' : ByteArray} {o : Nat} (H : SubC c c' o) : Pop c c' o 159 := fun _ _ => sm_bind (sm_s2 H) (fun _ => sm_pure)
theorem om_163 {c c' : ByteArray} {o : Nat} (H : SubC c c' o) : Pop c c' o 163 := fun _ _ => sm_bind (sm_s2 H) (fun _ => sm_pure)
theorem om_167 {c c' : ByteArray} {o : Nat} (H : SubC c c' o) : Pop c c' o 167 := fun _ _ => sm_bind (sm_s2 H) (fun _ => sm_pure)
theorem om_172 {c c' : ByteArray} {o : Nat} (H : SubC c c' o) : Pop c c' o 172 := fun _ _ => sm_pure
theorem om_182 {c c' : ByteArray} {o : Nat} (H : SubC c c' o) : Pop c c' o 182 := fun _ _ => sm_bind (sm_u2 H) (fun _ => sm_pure)
theorem om_183 {c c' : ByteArray} {o : Nat} (H : SubC c c' o) : Pop c c' o 183 := fun _ _ => sm_bind (sm_u2 H) (fun _ => sm_pure)
theorem om_184 {c c' : ByteArray} {o : Nat} (H : SubC c c' o) : Pop c c' o 184 := fun _ _ => sm_bind (sm_u2 H) (fun _ => sm_pure)
theorem om_187 {c c' : ByteArray} {o : Nat} (H : SubC c c' o) : Pop c c' o 187 := fun _ _ => sm_bind (sm_u2 H) (fun _ => sm_pure)
theorem om_190 {c c' : ByteArray} {o : Nat} (H : SubC c c' o) : Pop c c' o 190 := fun _ _ => sm_pure
def zOps : List Nat := [3, 4, 5, 6, 7, 8, 9, 10, 16, 21, 23, 24, 25, 42, 43, 44, 45, 46, 47, 49, 54, 56, 57, 58, 76, 77, 78, 89, 96, 100, 126, 132, 133, 141, 148, 149, 151, 153, 154, 159, 163, 167, 172, 182, 183, 184, 187, 190]
theorem om_all {c c' : ByteArray} {o : Nat} (H : SubC c c' o) : ∀ b ∈ zOps, Pop c c' o b := List.forall_mem_cons.mpr ⟨om_3 H, (List.forall_mem_cons.mpr ⟨om_4 H, (List.forall_mem_cons.mpr ⟨om_5 H, (List.forall_mem_cons.mpr ⟨om_6 H, (List.forall_mem_cons.mpr ⟨om_7 H, (List.forall_mem_cons.mpr ⟨om_8 H, (List.forall_mem_cons.mpr ⟨om_9 H, (List.forall_mem_cons.mpr ⟨om_10 H, (List.forall_mem_cons.mpr ⟨om_16 H, (List.forall_mem_cons.mpr ⟨om_21 H, (List.forall_mem_cons.mpr ⟨om_23 H, (List.forall_mem_cons.mpr ⟨om_24 H, (List.forall_mem_cons.mpr ⟨om_25 H, (List.forall_mem_cons.mpr ⟨om_42 H, (List.forall_mem_cons.mpr ⟨om_43 H, (List.forall_mem_cons.mpr ⟨om_44 H, (List.forall_mem_cons.mpr ⟨om_45 H, (List.forall_mem_cons.mpr ⟨om_46 H, (List.forall_mem_cons.mpr ⟨om_47 H, (List.forall_mem_cons.mpr ⟨om_49 H, (List.forall_mem_cons.mpr ⟨om_54 H, (List.forall_mem_cons.mpr ⟨om_56 H, (List.forall_mem_cons.mpr ⟨om_57 H, (List.forall_mem_cons.mpr ⟨om_58 H, (List.forall_mem_cons.mpr ⟨om_76 H, (List.forall_mem_cons.mpr ⟨om_77 H, (List.forall_mem_cons.mpr ⟨om_78 H, (List.forall_mem_cons.mpr ⟨om_89 H, (List.forall_mem_cons.mpr ⟨om_96 H, (List.forall_mem_cons.mpr ⟨om_100 H, (List.forall_mem_cons.mpr ⟨om_126 H, (List.forall_mem_cons.mpr ⟨om_132 H, (List.forall_mem_cons.mpr ⟨om_133 H, (List.forall_mem_cons.mpr ⟨om_141 H, (List.forall_mem_cons.mpr ⟨om_148 H, (List.forall_mem_cons.mpr ⟨om_149 H, (List.forall_mem_cons.mpr ⟨om_151 H, (List.forall_mem_cons.mpr ⟨om_153 H, (List.forall_mem_cons.mpr ⟨om_154 H, (List.forall_mem_cons.mpr ⟨om_159 H, (List.forall_mem_cons.mpr ⟨om_163 H, (List.forall_mem_cons.mpr ⟨om_167 H, (List.forall_mem_cons.mpr ⟨om_172 H, (List.forall_mem_cons.mpr ⟨om_182 H, (List.forall_mem_cons.mpr ⟨om_183 H, (List.forall_mem_cons.mpr ⟨om_184 H, (List.forall_mem_cons.mpr ⟨om_187 H, (List.forall_mem_cons.mpr ⟨om_190 H, (fun _ h => absurd h List.not_mem_nil)⟩)⟩)⟩)⟩)⟩)⟩)⟩)⟩)⟩)⟩)⟩)⟩)⟩)⟩)⟩)⟩)⟩)⟩)⟩)⟩)⟩)⟩)⟩)⟩)⟩)⟩)⟩)⟩)⟩)⟩)⟩)⟩)⟩)⟩)⟩)⟩)⟩)⟩)⟩)⟩)⟩)⟩)⟩)⟩)⟩)⟩)⟩)⟩
/-- does the piece hold this instruction there -/
def zdC (c' : ByteArray) (p : Nat) (i : Instr) (len : Nat) : Bool := (match c'.data.toList[p]? with | some b => decide (b.toNat ∈ zOps) | none => false) && decide (decode c' p = .ok (i, len))
theorem zc_1 {a b : Bool} (h : (a && b) = true) : a = true := by cases a <;> cases b <;> first | rfl | exact h
theorem zc_2 {a b : Bool} (h : (a && b) = true) : b = true := by cases a <;> cases b <;> first | rfl | exact h
theorem zd_c {c c' : ByteArray} {o p : Nat} {i : Instr} {len : Nat} (H : SubC c c' o) (h : zdC c' p i len = true) : decode c (o + p) = .ok (i, len) := by
  have h1 := zc_1 h
  have h2 : decode c' p = .ok (i, len) := of_decide_eq_true (zc_2 h)
  by_cases hp : p < c'.size
  · have hl : c'.data.toList[p]? = some (c'[p]'hp) := List.getElem?_eq_getElem (l := c'.data.toList) hp
    rw [hl] at h1
    have hb : (c'[p]'hp).toNat ∈ zOps := of_decide_eq_true h1
    obtain ⟨g1, g2⟩ := H p hp
    have hS := om_all H _ hb (o + p) p
    have d1 : decode c' p = Except.bind (Reader.runAt ((Reader.u1 : Decoder Nat) >>= opF p) c' p) (fun y => (.ok (y.1, y.2 - p) : Except DecodeError (Instr × Nat))) := rfl
    have d2 : decode c (o + p) = Except.bind (Reader.runAt ((Reader.u1 : Decoder Nat) >>= opF (o + p)) c (o + p)) (fun y => (.ok (y.1, y.2 - (o + p)) : Except DecodeError (Instr × Nat))) := rfl
    rw [d1, u1_b hp] at h2
    rw [d2, u1_b g1, g2]
    have h3 : Except.bind (Reader.runAt (opF p (c'[p]'hp).toNat) c' (p + 1)) (fun y => (.ok (y.1, y.2 - p) : Except DecodeError (Instr × Nat))) = .ok (i, len) := h2
    show Except.bind (Reader.runAt (opF (o + p) (c'[p]'hp).toNat) c (o + (p + 1))) (fun y => (.ok (y.1, y.2 - (o + p)) : Except DecodeError (Instr × Nat))) = .ok (i, len)
    cases hr : Reader.runAt (opF p (c'[p]'hp).toNat) c' (p + 1) with
    | error z =>
      rw [hr] at h3
      have e3 : (Except.error z : Except DecodeError (Instr × Nat)) = .ok (i, len) := h3
      cases e3
    | ok y =>
      rw [hr] at h3
      rw [hS (p + 1) y.1 y.2 hr]
      have e3 : (Except.ok (y.1, y.2 - p) : Except DecodeError (Instr × Nat)) = .ok (i, len) := h3
      show (Except.ok (y.1, o + y.2 - (o + p)) : Except DecodeError (Instr × Nat)) = .ok (i, len)
      rw [Nat.add_sub_add_left]
      exact e3
  · have hl : c'.data.toList[p]? = none := List.getElem?_eq_none (l := c'.data.toList) (Nat.le_of_not_lt hp)
    rw [hl] at h1
    exact absurd h1 (by decide)
