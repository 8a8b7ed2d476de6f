/-! Floats and doubles: no NaN comes up (what that rests on is FPok, proved behind all else). -/
section Rules
variable {G : Gm} {X : Cx} {l : Launch} {own nm : String} {cc : ByteArray} {nL : Nat} {ret : Option FieldType} {d mc ms : Nat} {k n : Nat} {ws : List SA} {pc pc' len : Nat} {lv : List (Option Value)} {st : List Value}
variable {T : Type} {rv : T → Option Value} {post : T → Prop} {wx : T → List SA}
theorem x_fret {w : UInt32} (C : OKc G X l own nm cc nL (some .float) d mc ms) (F : FIN G X mc ms rv post wx) (D : dx cc pc .freturn 1 pc') (x : T) (hr : rv x = some (.float w)) (hp : post x) (hw : ∀ cf c, WF ws cf c → WF (wx x) cf c) (hk : k ≤ mc) (hn : n ≤ ms) : WX G X k n ws pc lv [.float w] := by
  obtain ⟨p, l, e, R, s, m, args, below, meth, c0, cf, Q⟩ := X
  obtain ⟨hx, rfl, rfl, hb, hml, hown, hts, hK, hvm, hlk, hret, hnm⟩ := C
  obtain ⟨D1, rfl⟩ := D
  have hKs := hK.1.moved hvm.alike
  try dsimp only at hx hb hml hown hts hvm hlk hret hnm hKs
  have F' : Q = MQ below (QM G cf rv post wx) args s mc ms (fun q => G.1.heap.size ≤ q) := F
  subst F'
  intro H locs ls c h1 h2 h3 h4
  refine W.widen (k := mc) (n := ms) hk hn ?_
  exact W.fret hx hb hret (fun t ht hW => ⟨x, by rw [hr], hp, c, hw _ _ h1, State.WarmedH.trans hvm hW, by rw [ht]; exact h2⟩) h3 D1 hlk

theorem x_dret {w : UInt64} (C : OKc G X l own nm cc nL (some .double) d mc ms) (F : FIN G X mc ms rv post wx) (D : dx cc pc .dreturn 1 pc') (x : T) (hr : rv x = some (.double w)) (hp : post x) (hw : ∀ cf c, WF ws cf c → WF (wx x) cf c) (hk : k ≤ mc) (hn : n ≤ ms) : WX G X k n ws pc lv [.double w] := by
  obtain ⟨p, l, e, R, s, m, args, below, meth, c0, cf, Q⟩ := X
  obtain ⟨hx, rfl, rfl, hb, hml, hown, hts, hK, hvm, hlk, hret, hnm⟩ := C
  obtain ⟨D1, rfl⟩ := D
  have hKs := hK.1.moved hvm.alike
  try dsimp only at hx hb hml hown hts hvm hlk hret hnm hKs
  have F' : Q = MQ below (QM G cf rv post wx) args s mc ms (fun q => G.1.heap.size ≤ q) := F
  subst F'
  intro H locs ls c h1 h2 h3 h4
  refine W.widen (k := mc) (n := ms) hk hn ?_
  exact W.dret hx hb hret (fun t ht hW => ⟨x, by rw [hr], hp, c, hw _ _ h1, State.WarmedH.trans hvm hW, by rw [ht]; exact h2⟩) h3 D1 hlk

theorem x_fdiv {x y : UInt32} (C : OKc G X l own nm cc nL ret d mc ms) (D : dx cc pc (.fdiv) 1 pc') (hne : vf_n32 (FP.fdiv x y)) (K : WX G X k n ws pc' lv (.float (FP.fdiv x y) :: st)) : WX G X k n ws pc lv (.float y :: .float x :: st) := by
  obtain ⟨p, l, e, R, s, m, args, below, meth, c0, cf, Q⟩ := X
  obtain ⟨hx, rfl, rfl, hb, hml, hown, hts, hK, hvm, hlk, hret, hnm⟩ := C
  obtain ⟨D1, rfl⟩ := D
  exact fun H locs ls c h1 h2 h3 h4 => lv_fdiv hx hb D1 hne (K H locs ls c h1 h2 h3 h4)
theorem x_ddiv {x y : UInt64} (C : OKc G X l own nm cc nL ret d mc ms) (D : dx cc pc (.ddiv) 1 pc') (hne : vf_n64 (FP.ddiv x y)) (K : WX G X k n ws pc' lv (.double (FP.ddiv x y) :: st)) : WX G X k n ws pc lv (.double y :: .double x :: st) := by
  obtain ⟨p, l, e, R, s, m, args, below, meth, c0, cf, Q⟩ := X
  obtain ⟨hx, rfl, rfl, hb, hml, hown, hts, hK, hvm, hlk, hret, hnm⟩ := C
  obtain ⟨D1, rfl⟩ := D
  exact fun H locs ls c h1 h2 h3 h4 => lv_ddiv hx hb D1 hne (K H locs ls c h1 h2 h3 h4)
theorem x_f2d {x : UInt32} (C : OKc G X l own nm cc nL ret d mc ms) (D : dx cc pc (.f2d) 1 pc') (hne : vf_n64 (FP.f2d x)) (K : WX G X k n ws pc' lv (.double (FP.f2d x) :: st)) : WX G X k n ws pc lv (.float x :: st) := by
  obtain ⟨p, l, e, R, s, m, args, below, meth, c0, cf, Q⟩ := X
  obtain ⟨hx, rfl, rfl, hb, hml, hown, hts, hK, hvm, hlk, hret, hnm⟩ := C
  obtain ⟨D1, rfl⟩ := D
  exact fun H locs ls c h1 h2 h3 h4 => lv_f2d hx hb D1 hne (K H locs ls c h1 h2 h3 h4)
end Rules
def shV (a b : Int) : UInt32 := FP.fdiv (FP.i2f (zI a)) (FP.i2f (zI b))
def mwV (a b : Int) : UInt64 := FP.ddiv (FP.i2d (zI a)) (FP.i2d (zI b))
def FPok : Prop := (∀ a b : Int, 0 ≤ a → a ≤ 16000000 → 0 < b → b ≤ 16000000 → vf_n32 (shV a b) ∧ vf_n64 (FP.f2d (shV a b)) ∧ FP.dcmp (FP.f2d (shV a b)) (FP.f2d (shV a b)) = some .eq) ∧ ∀ a b : Int, 0 ≤ a → a ≤ 2000000000 → 0 < b → b ≤ 2000000000 → vf_n64 (mwV a b) ∧ FP.dcmp (mwV a b) (mwV a b) = some .eq
def shA (n : Net) (l : Int) : UInt32 := if n (-1) 4 = 0 then 0 else shV (n l 17) (n (-1) 4)
def mwA (n : Net) (l : Int) : UInt64 := if n l 17 = 0 then 0 else mwV (n l 15) (n l 17)
