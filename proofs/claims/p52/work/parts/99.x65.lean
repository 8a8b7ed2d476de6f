/-! The start of the law's walk, out of what the statement gives. -/
theorem W_room {p : Program} {l : Launch} {e : Env} {R R' : Room} {s : State} {m : MethodId} {args : Array Value} {below : List Frame} {meth : Method} {c : Code} {H : Heap} {locs : List Loc} {k n : Nat} {Q : State → Prop} {g : JFrame} (h1 : R'.frames ≤ R.frames) (h2 : R'.cells ≤ R.cells) (h3 : R'.slots ≤ R.slots) (h4 : R'.locals ≤ R.locals) (K : W p l e R' s m args below meth c H locs k n Q g) : W p l e R s m args below meth c H locs k n Q g := by
  intro T hT X
  refine K T hT ⟨X.admits, X.cas, X.clock, X.frames, ?_, X.hears, X.method, X.code, X.here, X.tail, X.warmed, X.limits, X.bytes, X.same⟩
  have h := X.room
  simp only [State.hasRoom, Bool.and_eq_true, decide_eq_true_eq] at h ⊢
  obtain ⟨⟨⟨⟨a1, a2, a3, a4, a5, a6⟩, a7⟩, a8⟩, a9⟩ := h
  exact ⟨⟨⟨⟨by omega, by omega, by omega, by omega, by omega, a6⟩, by omega⟩, by omega⟩, a9⟩
theorem law_whole {p : Program} {e : Env} {s : State} {m : MethodId} {below : List Frame} {meth : Method} {c : Code} {l : Launch} {b L : Nat} {xs : Nat → Int32} (hL : L ≤ 260)
    (hx : p.tables.exec = Jvm.exec) (hb : c.code = cL_law) (hr : meth.sig.returnType = some .boolean) (hml : c.maxLocals = 8) (hown : s.vm.findClass RL = some m.cls) (hts : ∀ w ∈ lw_tbl, w.before #[Value.ref b] s = true) (hX : va_X b L xs s s.heap) (hbl : b < s.heap.size) (hlocks : meth.locks = false) (hgv : (Jvm.Cond.and given_1 narrow_1).before #[Value.ref b] s = true) {R : Room} (hR : 15 ≤ R.frames ∧ 5000 ≤ R.cells ∧ 210000 ≤ R.slots ∧ 580 ≤ R.locals) :
    W p l e R s m #[Value.ref b] below meth c s.heap [] 0 0 (fun t => ∃ o, t.status = .running ∧ Ended t below o ∧ o = .returned (some (.int 1)) ∧ s.WarmedH t.vm ∧ s.sameButNew ({ t with vm := s.vm } : State) [] 5000 210000) (entryFrame m ([Value.ref b] : List Value).toArray 8) := by
  obtain ⟨G, rfl, hK⟩ := kg_of hts
  have hD := kd_of hts hgv rfl hK
  have hbody : W p l e (rmM 15 5000 210000) G.1 m #[Value.ref b] below meth c G.1.heap [] 0 0 (MQ below (QM G s_no (fun _ : Unit => some (.int (zI 1))) (fun _ => True) (fun _ => [])) #[Value.ref b] G.1 5000 210000 (fun q => G.1.heap.size ≤ q)) (entryFrame m ([Value.ref b] : List Value).toArray 8) := by
    have hl := lv_entry ([.ref b] : List Value) (n := 8) (Nat.le_of_ble_eq_true rfl)
    rw [lg_entry_eq]
    refine law_body (X := (p, l, e, rmM 15 5000 210000, G.1, m, #[Value.ref b], below, meth, c, s_no, MQ below (QM G s_no (fun _ : Unit => some (.int (zI 1))) (fun _ => True) (fun _ => [])) #[Value.ref b] G.1 5000 210000 (fun q => G.1.heap.size ≤ q))) (nmL := meth.name) hK hD (b9 := b) (L9 := L) (xs := xs) ⟨hX, hbl, hL⟩ ⟨hx, rfl, rfl, hb, hml, hown, fun w hw => hts w (List.mem_filter.mp hw).1, hK, State.WarmedH.refl _, hlocks, hr, rfl⟩ rfl G.1.heap [] _ s_no ?_ ?_ (fun _ h => nomatch h) ?_
    · exact ⟨fun _ => s_no, fun i P hi => by simp at hi, fun i j a hi => absurd hi (Nat.not_lt_zero _), fun i a e hi => absurd hi (Nat.not_lt_zero _), fun a e he => he⟩
    · exact ⟨Nat.le_refl _, fun _ _ => rfl, fun a e he => by cases he⟩
    · refine lx_of hl rfl (fun i v hi => ?_)
      match i, hi with
      | 0, hi => cases hi; exact List.mem_cons_self
      | i + 1, hi =>
        exfalso
        have h9 : (List.replicate 7 (none : Option Value))[i]? = some (some v) := hi
        have := List.eq_of_mem_replicate (List.mem_of_getElem? h9)
        cases this
  intro T hT X
  obtain ⟨t, a1, o, b1, b2, ⟨x, hv, -, -⟩, L9, ⟨-, hW, hs⟩, hfree⟩ := W_room (R := R) (R' := rmM 15 5000 210000) hR.1 hR.2.1 hR.2.2.1 (show 30 * 15 + 130 ≤ R.locals by omega) hbody T hT X
  exact ⟨t, a1, o, b1, b2, hv, hW, hs.weaken (fun y hy hlt => absurd hlt (Nat.not_lt.mpr (hfree y hy))) (Nat.le_refl _) (Nat.le_refl _)⟩
