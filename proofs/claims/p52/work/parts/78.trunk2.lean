theorem bSend_0 {B : Blk} {e w : Int} (h : 0 ≤ B 6 ∧ B 6 ≤ 60) : bSend B e w 0 = B 0 := by
  rw [← bSnd_stop, bStop_n (by decide) (by decide)]
  unfold bSnd inc
  rw [ub_n (by decide), ub_n (by decide), ub_n (by decide), ub_n (by decide), bSend0_n h (by decide) (by decide)]
/-- the look alone: who can send, in what state -/
def nLk : Nat → Net → Net × Int
  | 0, n => (n, -1)
  | k + 1, n => if ¬ 0 < n (nSender n) 9 ∧ 0 < n (nSender n) 6 then (n, nSender n) else nLk k (nPass n)
theorem nLk_ok {b : Int} : ∀ (k : Nat) {n : Net}, NetOk b n → NetOk b (nLk k n).1 ∧ (nLk k n).1 (-1) 0 = n (-1) 0 ∧ (((nLk k n).2 = -1 ∧ nLook k n = nLk k n) ∨ ((0 ≤ (nLk k n).2 ∧ (nLk k n).2 < n (-1) 0) ∧ 0 < (nLk k n).1 (nLk k n).2 6 ∧ nLook k n = (nSend (nLk k n).1 (nLk k n).2, (nLk k n).2)))
  | 0, n, h => ⟨h, rfl, Or.inl ⟨rfl, rfl⟩⟩
  | k + 1, n, h => by
    by_cases c : ¬ 0 < n (nSender n) 9 ∧ 0 < n (nSender n) 6
    · have e1 : nLk (k + 1) n = (n, nSender n) := if_pos c
      have e2 : nLook (k + 1) n = (nSend n (nSender n), nSender n) := if_pos c
      rw [e1, e2]
      exact ⟨h, rfl, Or.inr ⟨nSender_ok h, c.2, rfl⟩⟩
    · have e1 : nLk (k + 1) n = nLk k (nPass n) := if_neg c
      have e2 : nLook (k + 1) n = nLook k (nPass n) := if_neg c
      have h1 := nLk_ok k (NetOk_pass h)
      rw [nPass_h (by decide)] at h1
      rw [e1, e2]
      exact h1
section Rules
variable {G : Gm} {X : Cx} {l : Launch} {own nm : String} {cc : ByteArray} {nL : Nat} {ret : Option FieldType} {d mc ms : Nat} {k n : Nat} {ws : List SA} {pc pc' len : Nat} {lv : List (Option Value)} {st : List Value}
/-- opens the log -/
theorem x_oG {lg : Nat} {m : Net} {R : List SA} (hw : ∀ cf c, WF ws cf c → WF (LOG G lg m :: R) cf c) (K : ∀ (la : Nat) (x : Int) (f : Nat → Int), (0 ≤ x ∧ x < 40) → LogR f x m → WX G X k n (ob lg 3 [some (.ref la), none, none] (lgI (m (-1) 7) x) :: ar G 0 la 200 200 f :: R) pc lv st) : WX G X k n ws pc lv st := by
  intro H locs ls c h1 h2 h3 h4
  obtain ⟨y, hy, h5⟩ := WF_openX (X := Nat × Int × (Nat → Int)) (Y := fun y => (0 ≤ y.2.1 ∧ y.2.1 < 40) ∧ LogR y.2.2 y.2.1 m) (L := fun y => [ob lg 3 [some (.ref y.1), none, none] (lgI (m (-1) 7) y.2.1), ar G 0 y.1 200 200 y.2.2]) (hw _ _ h1) (fun d hd => by
    obtain ⟨la, x, f, g1, g2⟩ := hd
    exact ⟨(la, x, f), g1, g2⟩)
  exact K y.1 y.2.1 y.2.2 hy.1 hy.2 H locs ls c h5 h2 h3 h4
/-- closes the log -/
theorem x_cG {lg la : Nat} {m : Net} {z x : Int} {f : Nat → Int} {R : List SA} (hx : 0 ≤ x ∧ x < 40) (hz : z = m (-1) 7) (hR : LogR f x m) (K : WX G X k n (LOG G lg m :: R) pc lv st) : WX G X k n (ob lg 3 [some (.ref la), none, none] (lgI z x) :: ar G 0 la 200 200 f :: R) pc lv st := by
  subst hz
  exact x_ws _ (fun cf c h => WF_close (L := [ob lg 3 [some (.ref la), none, none] (lgI (m (-1) 7) x), ar G 0 la 200 200 f]) h (fun d hd => ⟨la, x, f, ⟨hx, hR⟩, hd⟩)) K
end Rules
theorem lgN_r {x : Int} (h : 0 ≤ x ∧ x < 40) : 0 ≤ lgN x ∧ lgN x < 40 := by unfold lgN; split <;> omega
