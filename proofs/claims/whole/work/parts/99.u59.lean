/-! Bytes dropped ahead: which byte is typed doesn't matter (but for the byte that ends a whole echo). -/
def SW (w : Int) : Prop := 0 ≤ w ∧ w ≤ 13 ∨ w = 18
def AB (B B' : Blk) : Prop := ∀ w, SW w → B w = B' w
theorem AB.o {B B' : Blk} {k k' v v' : Int} (h : AB B B') (hk : ¬ SW k) (hk' : ¬ SW k') : AB (ub B k v) (ub B' k' v') := fun w hw => by
  have e1 : ¬ w = k := fun e => hk (by rw [← e]; exact hw)
  have e2 : ¬ w = k' := fun e => hk' (by rw [← e]; exact hw)
  rw [ub_n e1, ub_n e2]
  exact h w hw
theorem AB.i {B B' : Blk} {k v v' : Int} (h : AB B B') (hv : v = v') : AB (ub B k v) (ub B' k v') := fun w hw => by
  by_cases e : w = k
  · subst e; rw [ub_s, ub_s, hv]
  · rw [ub_n e, ub_n e]; exact h w hw
theorem AB.c {B B' : Blk} (h : AB B B') (k : Int) : AB (inc B k) (inc B' k) := by
  unfold inc
  by_cases e : SW k
  · exact h.i (by rw [h k e])
  · exact h.o e e
theorem sw (w : Int) (h : 0 ≤ w ∧ w ≤ 13 ∨ w = 18) : SW w := h
theorem AB_stop {B B' : Blk} (h : AB B B') : AB (bStop B) (bStop B') := by
  unfold bStop
  rw [h 3 (sw _ (by decide)), h 6 (sw _ (by decide)), h 10 (sw _ (by decide)), h 2 (sw _ (by decide))]
  split
  · exact (h.i rfl).c 24
  · split
    · exact h.i rfl
    · exact h
theorem AB_offer {B B' : Blk} {v v' : Int} (h : AB B B') (h7 : 0 ≤ B' 7) : AB (bOffer B v) (bOffer B' v') := by
  unfold bOffer
  rw [h 9 (sw _ (by decide)), h 7 (sw _ (by decide)), h 1 (sw _ (by decide))]
  split
  · exact (h.c 20).c 22
  · exact ((h.c 20).o (by unfold SW; omega) (by unfold SW; omega)).i rfl
theorem AB_whole {B B' : Blk} {v v' : Int} (h : AB B B') (h8 : 0 ≤ B' 8) (hv : ¬ v = 13) (hv' : ¬ v' = 13) : AB (bWhole B v) (bWhole B' v') := by
  unfold bWhole
  rw [if_neg hv, if_neg hv']
  unfold bWhole1
  rw [h 8 (sw _ (by decide))]
  split
  · exact (h.o (by unfold SW; omega) (by unfold SW; omega)).i rfl
  · exact h
theorem AB_in {B B' : Blk} {v v' t t' : Int} (h : AB B B') (h6 : 0 ≤ B' 6) : AB (bIn B v t) (bIn B' v' t') := by
  unfold bIn
  rw [h 6 (sw _ (by decide))]
  exact (((h.c 16).o (by unfold SW; omega) (by unfold SW; omega)).o (by unfold SW; omega) (by unfold SW; omega)).i rfl
theorem AB_type {B B' : Blk} {v v' t t' : Int} (h : AB B B') (h6 : 0 ≤ B' 6) (h7 : 0 ≤ B' 7) (h8 : 0 ≤ B' 8) (hv : ¬ v = 13) (hv' : ¬ v' = 13) : AB (bType B v t) (bType B' v' t') := by
  have hs : AB (bStop (bIn B v t)) (bStop (bIn B' v' t')) := AB_stop (AB_in h h6)
  have e7 : bStop (bIn B' v' t') 7 = B' 7 := by rw [bStop_n (by decide) (by decide), bIn_n h6 (by omega)]
  have e8 : bStop (bIn B' v' t') 8 = B' 8 := by rw [bStop_n (by decide) (by decide), bIn_n h6 (by omega)]
  unfold bType
  rw [h 9 (sw _ (by decide)), h 6 (sw _ (by decide)), h 1 (sw _ (by decide)), h 5 (sw _ (by decide))]
  split
  · exact (h.c 16).c 18
  · split
    · exact AB_offer hs (by rw [e7]; exact h7)
    · split
      · exact AB_whole hs (by rw [e8]; exact h8) hv hv'
      · exact hs
theorem AB_drop {B B' : Blk} {q s : Int} (h : AB B B') (hs : SW s) (hq : 18 < q) : AB (bDrop B q s) (bDrop B' q s) := fun w hw => by
  have hw' := hw
  unfold SW at hw'
  unfold bDrop
  by_cases e : w = s
  · rw [if_pos e, if_pos e, h s hs]
  · rw [if_neg e, if_neg e, if_neg (by omega), if_neg (by omega), h w hw]
theorem AB_send {B B' : Blk} {e e' w w' : Int} (h : AB B B') : AB (bSend B e w) (bSend B' e' w') := by
  have h0 : AB (bSend0 B) (bSend0 B') := by
    unfold bSend0
    exact AB_drop ((AB_drop h (sw _ (by decide)) (by decide)).i (h 6 (sw _ (by decide)))) (sw _ (by decide)) (by decide)
  exact ((((AB_stop h0).c 17).o (by unfold SW; omega) (by unfold SW; omega)).o (by unfold SW; omega) (by unfold SW; omega)).o (by unfold SW; omega) (by unfold SW; omega)
theorem AB_deliver {B B' : Blk} (h : AB B B') : AB (bDeliver B) (bDeliver B') := by
  unfold bDeliver
  rw [h 9 (sw _ (by decide)), h 11 (sw _ (by decide)), h 7 (sw _ (by decide))]
  split
  · exact h
  · exact (AB_drop (h.o (by unfold SW; omega) (by unfold SW; omega)) (sw _ (by decide)) (by decide)).c 21
def AG (n n' : Net) : Prop := n (-1) = n' (-1) ∧ ∀ j : Int, 0 ≤ j → AB (n j) (n' j)
theorem AG_un {n n' : Net} {l : Int} {B B' : Blk} (h : AG n n') (hl : 0 ≤ l) (hB : AB B B') : AG (un n l B) (un n' l B') := by
  refine ⟨by rw [un_n (by omega), un_n (by omega)]; exact h.1, fun j hj => ?_⟩
  by_cases e : j = l
  · subst e; rw [un_s, un_s]; exact hB
  · rw [un_n e, un_n e]; exact h.2 j hj
theorem AG_hd {n n' : Net} {H H' : Blk} (h : AG n n') (hH : H = H') : AG (un n (-1) H) (un n' (-1) H') := by
  refine ⟨by rw [un_s, un_s, hH], fun j hj => ?_⟩
  rw [un_n (by omega), un_n (by omega)]
  exact h.2 j hj
theorem AG_lg {n n' : Net} {H H' : Blk} (h : AG n n') : AG (un n (-2) H) (un n' (-2) H') := by
  refine ⟨by rw [un_n (by decide), un_n (by decide)]; exact h.1, fun j hj => ?_⟩
  rw [un_n (by omega), un_n (by omega)]
  exact h.2 j hj
theorem AG_pass {b : Int} {n n' : Net} (h : AG n n') (hN : NetOk b n') : AG (nPass n) (nPass n') := by
  have hH := hN.1
  unfold HeadOk at hH
  have hx := nNext_ok hN
  have h0 : AG (nPass0 n) (nPass0 n') := by
    unfold nPass0
    rw [h.1, h.2 (n' (-1) 2) hH.2.2.1.1 12 (sw _ (by decide))]
    split
    · exact AG_un h hH.2.2.1.1 ((h.2 _ hH.2.2.1.1).i rfl)
    · exact h
  unfold nPass
  have e : nNext n = nNext n' := by unfold nNext; rw [h.1]
  rw [e, h.1, h.2 (nNext n') hx.1 4 (sw _ (by decide))]
  exact AG_hd h0 rfl
theorem AG_send {b : Int} {n n' : Net} {l : Int} (h : AG n n') (hN : NetOk b n') (hl : 0 ≤ l ∧ l < n' (-1) 0) (p6 : 0 < n' l 6) : AG (nSend n l) (nSend n' l) := by
  have h1 : AG (nSend1 n l) (nSend1 n' l) := by
    unfold nSend1
    refine AG_un ?_ hl.1 (AB_send (h.2 l hl.1))
    unfold nLog
    rw [h.1]
    exact AG_hd (AG_lg h) rfl
  have h2 : AG (nSend2 n l) (nSend2 n' l) := by
    unfold nSend2
    rw [h1.1, h.1]
    exact AG_hd h1 rfl
  unfold nSend
  rw [h.1]
  split
  · next c =>
    have e : nSend n' l = nPass (nSend2 n' l) := by unfold nSend; rw [if_pos c]
    have e3 : nPass (un (nSend2 n' l) (-1) (ub (nSend2 n' l (-1)) 3 9)) = nPass (nSend2 n' l) := nPass_left (by
      have hH := hN.1; unfold HeadOk at hH
      unfold nSend2 nSend1 nLog
      rw [un_s, ub_n (by decide), ub_n (by decide), ub_n (by decide), un_n (by omega), un_s, ub_n (by decide)]
      exact hH.2.2.1.1) (by
      have hH := hN.1; unfold HeadOk at hH
      have e2 : nNext (nSend2 n' l) = nNext n' := by
        unfold nNext nSend2 nSend1 nLog
        rw [un_s, ub_n (by decide), ub_n (by decide), ub_n (by decide), ub_n (by decide), ub_n (by decide), ub_n (by decide), un_n (by omega), un_s, ub_n (by decide), ub_n (by decide)]
      rw [e2]
      exact (nNext_ok hN).1)
    have hN2 := NetOk_send2 hN hl p6 (x := 9) (by decide)
    have h3 := AG_pass (AG_hd h2 (H := ub (nSend2 n l (-1)) 3 9) (H' := ub (nSend2 n' l (-1)) 3 9) (by rw [h2.1])) hN2
    rw [e3] at h3
    have e4 : nPass (un (nSend2 n l) (-1) (ub (nSend2 n l (-1)) 3 9)) = nPass (nSend2 n l) := nPass_left (by
      have hH := hN.1; unfold HeadOk at hH
      rw [h2.1]
      unfold nSend2 nSend1 nLog
      rw [un_s, ub_n (by decide), ub_n (by decide), ub_n (by decide), un_n (by omega), un_s, ub_n (by decide)]
      exact hH.2.2.1.1) (by
      have e2 : nNext (nSend2 n l) = nNext n' := by
        unfold nNext
        rw [h2.1]
        unfold nSend2 nSend1 nLog
        rw [un_s, ub_n (by decide), ub_n (by decide), ub_n (by decide), ub_n (by decide), ub_n (by decide), ub_n (by decide), un_n (by omega), un_s, ub_n (by decide), ub_n (by decide)]
      rw [e2]
      exact (nNext_ok hN).1)
    rw [e4] at h3
    exact h3
  · exact h2
theorem AG_look {b : Int} : ∀ (k : Nat) {n n' : Net}, AG n n' → NetOk b n' → AG (nLook k n).1 (nLook k n').1 ∧ (nLook k n).2 = (nLook k n').2 := by
  intro k
  induction k with
  | zero => intro n n' h _; exact ⟨h, rfl⟩
  | succ k ih =>
    intro n n' h hN
    have hH := hN.1
    unfold HeadOk at hH
    have hs := nSender_ok hN
    have e : nSender n = nSender n' := by
      unfold nSender
      rw [h.1, h.2 (n' (-1) 2) hH.2.2.1.1 12 (sw _ (by decide)), h.2 (n' (-1) 2) hH.2.2.1.1 13 (sw _ (by decide))]
    by_cases c : ¬ 0 < n' (nSender n') 9 ∧ 0 < n' (nSender n') 6
    · have c' : ¬ 0 < n (nSender n) 9 ∧ 0 < n (nSender n) 6 := by
        rw [e, h.2 _ hs.1 9 (sw _ (by decide)), h.2 _ hs.1 6 (sw _ (by decide))]
        exact c
      rw [show nLook (k + 1) n = (nSend n (nSender n), nSender n) from if_pos c', show nLook (k + 1) n' = (nSend n' (nSender n'), nSender n') from if_pos c, e]
      exact ⟨AG_send h hN hs c.2, rfl⟩
    · have c' : ¬ (¬ 0 < n (nSender n) 9 ∧ 0 < n (nSender n) 6) := by
        rw [e, h.2 _ hs.1 9 (sw _ (by decide)), h.2 _ hs.1 6 (sw _ (by decide))]
        exact c
      rw [show nLook (k + 1) n = nLook k (nPass n) from if_neg c', show nLook (k + 1) n' = nLook k (nPass n') from if_neg c]
      exact ih (AG_pass h hN) (NetOk_pass hN)
theorem AG_dlv {n n' : Net} (h : AG n n') : AG (nDeliver n) (nDeliver n') := by
  refine ⟨?_, fun j hj => ?_⟩
  · show (if 0 ≤ (-1 : Int) ∧ (-1 : Int) < n (-1) 0 then bDeliver (n (-1)) else n (-1)) = (if 0 ≤ (-1 : Int) ∧ (-1 : Int) < n' (-1) 0 then bDeliver (n' (-1)) else n' (-1))
    rw [if_neg (by omega), if_neg (by omega)]
    exact h.1
  · show AB (if 0 ≤ j ∧ j < n (-1) 0 then bDeliver (n j) else n j) (if 0 ≤ j ∧ j < n' (-1) 0 then bDeliver (n' j) else n' j)
    rw [h.1]
    by_cases c : 0 ≤ j ∧ j < n' (-1) 0
    · rw [if_pos c, if_pos c]; exact AB_deliver (h.2 j hj)
    · rw [if_neg c, if_neg c]; exact h.2 j hj
theorem AG_tick {b : Int} {n n' : Net} (h : AG n n') (hN : NetOk b n') : AG (nTick n) (nTick n') := by
  have hH := hN.1
  unfold HeadOk at hH
  have hN1 := NetOk_held (NetOk_time (NetOk_mono hN (show b ≤ b + 1 by omega)) (by omega))
  have h1 : AG (nTime n) (nTime n') := by
    unfold nTime
    exact AG_hd h (by rw [h.1])
  have h2 : AG (nHeld (nTime n)) (nHeld (nTime n')) := by
    refine ⟨funext fun w => by rw [nHeld_h, nHeld_h, h1.1], fun j hj => ?_⟩
    unfold nHeld
    rw [h1.1]
    split
    · exact (h1.2 j hj).i (by rw [h1.2 j hj 9 (sw _ (by decide))])
    · exact h1.2 j hj
  have h3 := AG_look (n (-1) 0).toNat h2 hN1
  have e0 : (n (-1) 0).toNat = (n' (-1) 0).toNat := by rw [h.1]
  have h4 : AG (if (nLooks n).2 = -1 then nIdle (nLooks n).1 else (nLooks n).1) (if (nLooks n').2 = -1 then nIdle (nLooks n').1 else (nLooks n').1) := by
    unfold nLooks
    rw [← e0, h3.2]
    split
    · unfold nIdle
      exact AG_hd h3.1 (by rw [h3.1.1])
    · exact h3.1
  exact AG_dlv h4
theorem nDrop_V (l : Int) (n : Net) : ∀ k : Nat, nDropV 127 l k n = nDrop l k n
  | 0 => rfl
  | k + 1 => by
    show nTick (un (nDropV 127 l k n) l (bType (nDropV 127 l k n l) 127 (nDropV 127 l k n (-1) 1))) = nTick (un (nDrop l k n) l (bType (nDrop l k n l) 127 (nDrop l k n (-1) 1)))
    rw [nDrop_V l n k]
theorem AG_dropV {b : Int} {n : Net} {l : Int} (hN : NetOk b n) (hl : 0 ≤ l ∧ l < n (-1) 0) : ∀ k : Nat, AG (nDropV 1 l k n) (nDropV 127 l k n)
  | 0 => ⟨rfl, fun _ _ _ _ => rfl⟩
  | k + 1 => by
    have ih := AG_dropV hN hl k
    obtain ⟨h1, h2⟩ := nDropV_ok (v := 127) hN hl (by decide) k
    have hL := h1.2.2 l hl.1 (by omega)
    unfold LineOk at hL
    have h3 := NetOk_type (v := 127) h1 (by rw [h2]; exact hl) (by decide)
    exact AG_tick (AG_un ih hl.1 (AB_type (ih.2 l hl.1) (by omega) (by omega) (by omega) (by decide) (by decide))) h3
theorem drop_eq {b : Int} {n : Net} {l : Int} (hN : NetOk b n) (hl : 0 ≤ l ∧ l < n (-1) 0) (k : Nat) : nDropV 1 l k n l 18 = nDrop l k n l 18 := by
  rw [← nDrop_V]
  exact (AG_dropV hN hl k).2 l hl.1 18 (sw _ (by decide))
