/-! Texts written of counts, log and names. -/
theorem SK.rcv {G : Gm} {P R ws : List SA} {q b : Nat} {w : List Int} (h : SK G P q b w) (hp : ∀ cf c, WF ws cf c → WF (P ++ R) cf c) : ∀ s : State, G.1.WarmedH s.vm → ∀ cf c H, WF ws cf c → HH G c H → va_O "java/lang/String" q nF s H := fun s hs cf c H hw hH => by
  obtain ⟨cf', h1, -⟩ := WF_frame (hp cf c hw)
  exact (h.2 s hs cf' c H h1 hH).1
