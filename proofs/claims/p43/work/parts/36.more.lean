/-- the end of a method that may throw behind a change: fe is the world then -/
abbrev Du {α β : Type} (o : α ⊕ β) (fv : α → Option Value) (fw : α → va_W) (fn : β → String) (fe : β → va_W) : Rs → va_W → Prop := fun r w => match o with
  | .inl q => r = .inl (fv q) ∧ w = fw q
  | .inr E => r = .inr (fn E) ∧ w = fe E
section DU
variable {g : GG} {M N : MT} {d d2 a b x y : Nat} {pc idx n ob ci : Nat} {ls : List (Nat × Value)} {st rest As fs : List Value} {ws : va_W} {Q : Rs → va_W → Prop}
variable {α β : Type} {fw : α → va_W} {fe : β → va_W} {fn : β → String} {z : α} {E : β}
theorem c_Xu {fr : α → Value} (a2 b2 q : Nat) (hd : decode (mC M) pc = .ok (.invokevirtual idx, 3)) (hl : KV (mY M).cls idx N n) (hC : Ct g N d2 a b (.ref ob :: As) ws (Du (.inl z) (fun z => some (fr z)) fw fn fe)) (hA : As.length = n) (hst : st = As.reverse ++ .ref ob :: rest) (ho : ws[q]? = some (ob, .inr (ci, fs))) (hci : (vwCl[ci]?).map (fun r => r.1) = some (mY N).cls) (hr8 : (rest.map fun v => v.category).sum ≤ 8) (hdd : d2 + 1 ≤ d) (hN : mN N ≤ 40)
    (kk : R g M d a2 b2 (pc + 3) ls (fr z :: rest) (fw z) Q) : R g M d (a2 + a) (b2 + b) pc ls st ws Q :=
  r_callX q hd hl hC hA hst ho hci hr8 hdd hN (fun E w h => nomatch h.1) (fun v w h => by obtain ⟨h1, rfl⟩ := h; cases h1; exact kk)
theorem c_Xtu {fv : α → Option Value} (a2 b2 q : Nat) (hd : decode (mC M) pc = .ok (.invokevirtual idx, 3)) (hl : KV (mY M).cls idx N n) (hC : Ct g N d2 a b (.ref ob :: As) ws (Du (.inr E) fv fw fn fe)) (hA : As.length = n) (hst : st = As.reverse ++ .ref ob :: rest) (ho : ws[q]? = some (ob, .inr (ci, fs))) (hci : (vwCl[ci]?).map (fun r => r.1) = some (mY N).cls) (hr8 : (rest.map fun v => v.category).sum ≤ 8) (hdd : d2 + 1 ≤ d) (hN : mN N ≤ 40)
    (kx : RX g M d a2 b2 pc ls (fn E) (fe E) Q) : R g M d (a2 + a) (b2 + b) pc ls st ws Q :=
  r_callX q hd hl hC hA hst ho hci hr8 hdd hN (fun E2 w h => by obtain ⟨h1, rfl⟩ := h; cases h1; exact kx) (fun v w h => nomatch h.1)
end DU
