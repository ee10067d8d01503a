/-- the law as it is called -/
theorem law_run {nm : String} {g : GG} {Q : Rs → va_W → Prop} (hL : gL g ≤ 260) (hQ : ∀ ws, Q (.inl (some (.int 1))) ws) : R g (mL_law nm) 1400 759837 6822187 0 [(0, .ref (gb g))] [] [] Q :=
  r_room (x2 := 65000) (y2 := 4100000) (by decide) (by decide) (law_0 (t := []) hL hQ)
