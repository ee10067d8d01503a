/-! an order of the tape, read by both sides alike -/
theorem tyR_snoc {K : Nat → Int32} : ∀ n s l, tyR K (n + 1) s l = match tyR K n s l with
    | none => none
    | some l2 => tyS (K (s + n)) l2 := by
  intro n
  induction n with
  | zero =>
    intro s l
    show (match tyS (K s) l with | none => none | some l3 => some l3) = tyS (K s) l
    cases tyS (K s) l <;> rfl
  | succ n ih =>
    intro s l
    show (match tyS (K s) l with | none => none | some l3 => tyR K (n + 1) (s + 1) l3) = match (match tyS (K s) l with | none => none | some l3 => tyR K n (s + 1) l3) with
      | none => none
      | some l2 => tyS (K (s + (n + 1))) l2
    cases tyS (K s) l with
    | none => rfl
    | some l3 =>
      show tyR K (n + 1) (s + 1) l3 = _
      rw [ih (s + 1) l3, show s + 1 + n = s + (n + 1) by omega]
theorem tyP_R {K : Nat → Int32} {s : Nat} : ∀ n, tyP K s n = tyR K n s [] := by
  intro n
  induction n with
  | zero => rfl
  | succ n ih =>
    rw [tyR_snoc, ← ih]
    rfl
theorem sr_nt {nt nt2 : Nat} (h : nt ≤ nt2) {K P o w a : Int32} (hs : SR nt K P o w a) : SR nt2 K P o w a := by
  rcases hs with hs | hs
  · refine Or.inl ?_
    rcases hs with h1 | h1 | h1 | h1 | h1 | h1 | h1 | ⟨h1, h2, p, q, h3, h4, h5⟩ | h1
    · exact Or.inl h1
    · exact Or.inr (Or.inl h1)
    · exact Or.inr (Or.inr (Or.inl h1))
    · exact Or.inr (Or.inr (Or.inr (Or.inl h1)))
    · exact Or.inr (Or.inr (Or.inr (Or.inr (Or.inl h1))))
    · exact Or.inr (Or.inr (Or.inr (Or.inr (Or.inr (Or.inl h1)))))
    · exact Or.inr (Or.inr (Or.inr (Or.inr (Or.inr (Or.inr (Or.inl h1))))))
    · exact Or.inr (Or.inr (Or.inr (Or.inr (Or.inr (Or.inr (Or.inr (Or.inl ⟨h1, h2, p, q, by omega, by omega, h5⟩)))))))
    · exact Or.inr (Or.inr (Or.inr (Or.inr (Or.inr (Or.inr (Or.inr (Or.inr h1)))))))
  · exact Or.inr hs
theorem str_nt {nt nt2 : Nat} (h : nt ≤ nt2) {who : Nat → Int32} {t : Nat} {K P o w a : Int32} (hs : StR nt who t K P o w a) : StR nt2 who t K P o w a := ⟨sr_nt h hs.1, hs.2⟩
/-- the orders so far -/
def OE (nt r q : Nat) (xD xW xEd sk mD mB mEd wM : Nat → Int32) : Prop :=
  ∃ E : Nat → Nat, stE E r = q ∧ ∀ k, k < r → xEd k = nI (E k) ∧ mEd k = nI (E k) ∧ mB k = nI (stE E k) ∧ stE E k ≤ E k ∧ E k ≤ q ∧ (stE E k = E k ∨ tyP sk (stE E k) (E k - stE E k) = some [true]) ∧ (xD k = if mD k = 7 then 1 else 0) ∧ ∃ j, j < nt ∧ xW k = nI j ∧ wM k = nI j
def OW (orc ordr : Int32) (q : Nat) (xD xW xEd sk sp mD mB mEd mo mw ma : Nat → Int32) : WT := fun nt who t od wM =>
  ∃ r, r ≤ 16 ∧ od = nI r ∧ orc = nI r ∧ ordr = nI r ∧ OE nt r q xD xW xEd sk mD mB mEd wM ∧ ∀ i, i < q → StR nt who t (sk i) (sp i) (mo i) (mw i) (ma i)
/-- within an order -/
def OV (orc ordr : Int32) (q q2 : Nat) (xD xW xEd sk sp mD mB mEd mo mw ma : Nat → Int32) (Z : Nat → Int32 → Prop) : WT := fun nt who t od wM =>
  ∃ r, r < 16 ∧ od = nI (r + 1) ∧ orc = nI r ∧ ordr = nI r ∧ Z nt (wM r) ∧ OE nt r q xD xW xEd sk mD mB mEd wM ∧ (∀ i, i < q2 → StR nt who t (sk i) (sp i) (mo i) (mw i) (ma i)) ∧ q ≤ q2 ∧ (q = q2 ∨ tyP sk q (q2 - q) = some [true])
section OO
variable {orc ordr : Int32} {q q2 : Nat} {xD xW xEd sk sp mD mB mEd mo mw ma : Nat → Int32}
theorem ow_m : WM (OW orc ordr q xD xW xEd sk sp mD mB mEd mo mw ma) := by
  rintro nt who who2 t t2 od wM h1 h2 h3 ⟨r, a1, a2, a3, a4, a5, a6⟩
  exact ⟨r, a1, a2, a3, a4, a5, fun i hi => str_mono (a6 i hi) h1 (by omega) h3⟩
theorem oe_nt {nt nt2 r : Nat} {wM : Nat → Int32} (h : nt ≤ nt2) (h2 : OE nt r q xD xW xEd sk mD mB mEd wM) : OE nt2 r q xD xW xEd sk mD mB mEd wM := by
  obtain ⟨E, e1, e2⟩ := h2
  refine ⟨E, e1, fun k hk => ?_⟩
  obtain ⟨b1, b2, b3, b4, b5, b6, b7, j, b8, b9⟩ := e2 k hk
  exact ⟨b1, b2, b3, b4, b5, b6, b7, j, by omega, b9⟩
theorem ow_m2 : WM2 (OW orc ordr q xD xW xEd sk sp mD mB mEd mo mw ma) := by
  rintro nt nt2 who t od wM h1 ⟨r, a1, a2, a3, a4, a5, a6⟩
  exact ⟨r, a1, a2, a3, a4, oe_nt h1 a5, fun i hi => str_nt h1 (a6 i hi)⟩
theorem ov_m {Z : Nat → Int32 → Prop} : WM (OV orc ordr q q2 xD xW xEd sk sp mD mB mEd mo mw ma Z) := by
  rintro nt who who2 t t2 od wM h1 h2 h3 ⟨r, a1, a2, a3, a4, a5, a6, a7, a8⟩
  exact ⟨r, a1, a2, a3, a4, a5, a6, fun i hi => str_mono (a7 i hi) h1 (by omega) h3, a8⟩
theorem oe_wm {nt r : Nat} {wM wM2 : Nat → Int32} (h : ∀ k, k < r → wM2 k = wM k) (h2 : OE nt r q xD xW xEd sk mD mB mEd wM) : OE nt r q xD xW xEd sk mD mB mEd wM2 := by
  obtain ⟨E, e1, e2⟩ := h2
  refine ⟨E, e1, fun k hk => ?_⟩
  rw [h k hk]
  exact e2 k hk
theorem oe_sk {nt r : Nat} {wM sk2 : Nat → Int32} (h : ∀ i, i < q → sk2 i = sk i) (h2 : OE nt r q xD xW xEd sk mD mB mEd wM) : OE nt r q xD xW xEd sk2 mD mB mEd wM := by
  obtain ⟨E, e1, e2⟩ := h2
  refine ⟨E, e1, fun k hk => ?_⟩
  obtain ⟨b1, b2, b3, b4, b5, b6, b7⟩ := e2 k hk
  refine ⟨b1, b2, b3, b4, b5, ?_, b7⟩
  rcases b6 with b6 | b6
  · exact Or.inl b6
  · refine Or.inr ?_
    rw [tyP_R] at b6 ⊢
    rw [tyR_congr (K := sk) _ _ _ (fun i x y => h i (by omega))]
    exact b6
theorem oe_add {nt r : Nat} {wM : Nat → Int32} {c d r1 : Int32} (h2 : OE nt r q xD xW xEd sk mD mB mEd wM) (hq : q ≤ q2) (ht : q = q2 ∨ tyP sk q (q2 - q) = some [true]) (hc : c = if d = 7 then 1 else 0) (h3 : wM r = r1) (h4 : ∃ j, j < nt ∧ r1 = nI j) :
    OE nt (r + 1) q2 (upd xD r c) (upd xW r r1) (upd xEd r (nI q2)) sk (upd mD r d) (upd mB r (nI q)) (upd mEd r (nI q2)) wM := by
  obtain ⟨E, e1, e2⟩ := h2
  have hs : ∀ k, k ≤ r → stE (fun k => if k = r then q2 else E k) k = stE E k := by
    intro k hk
    unfold stE
    by_cases h0 : k = 0
    · rw [if_pos h0, if_pos h0]
    · rw [if_neg h0, if_neg h0]
      exact if_neg (by omega)
  refine ⟨fun k => if k = r then q2 else E k, ?_, fun k hk => ?_⟩
  · unfold stE
    rw [if_neg (by omega)]
    exact if_pos (by omega)
  · by_cases h0 : k = r
    · subst h0
      rw [hs k (Nat.le_refl _), e1]
      simp only [upd_at, if_true]
      obtain ⟨j, j1, j2⟩ := h4
      exact ⟨trivial, trivial, trivial, hq, Nat.le_refl _, ht, hc, j, j1, j2, h3.trans j2⟩
    · have hk2 : k < r := by omega
      rw [hs k (by omega), upd_lt hk2, upd_lt hk2, upd_lt hk2, upd_lt hk2, upd_lt hk2, upd_lt hk2]
      simp only [if_neg h0]
      obtain ⟨b1, b2, b3, b4, b5, b6⟩ := e2 k hk2
      exact ⟨b1, b2, b3, b4, by omega, b6⟩
end OO
theorem min15 {r : Nat} (hr : r < 1000) : ∃ s, s < 16 ∧ f_J9_min_7cf53 15 (nI r) = nI s ∧ (r < 16 → s = r) := by
  unfold f_J9_min_7cf53
  by_cases h : r < 15
  · rw [if_pos (show nI r < 15 from nI_lt (b := 15) h (by decide))]
    exact ⟨r, by omega, rfl, fun _ => rfl⟩
  · rw [if_neg (show ¬ nI r < 15 from nI_nlt (b := 15) (by omega) (by omega))]
    exact ⟨15, by decide, rfl, fun _ => by omega⟩
section OL
variable {N : Nat} {mk mf xk xs xn : Nat → Int32} {mv xw : Nat → Int64} {s0 : S2} {T : Nat} {ec tc clc orc ordr : Int32} {ew tw : Nat → Int64} {xT xK xE xF xL : Nat → Int32} {q q2 : Nat} {xD xW xEd sk sp mD mB mEd mo mw ma : Nat → Int32}
theorem lnp_w {W W2 : WT} {t : Nat} (hw : ∀ nt who od wM, W nt who t od wM → W2 nt who t od wM) (st : S2) (h : LnP ec tc ew tw W clc xT xK xE xF xL t st) : LnP ec tc ew tw W2 clc xT xK xE xF xL t st := by
  obtain ⟨ne, nt, m, who, od, event, teller, kd, bY, oF, oT, lA, wM, a1, a3, a4, a5, a6, a7⟩ := h
  exact ⟨ne, nt, m, who, od, event, teller, kd, bY, oF, oT, lA, wM, a1, a3, a4, a5, a6, hw _ _ _ _ a7⟩
def Z1 (r1 : Int32) : Nat → Int32 → Prop := fun nt w => w = r1 ∧ ∃ j, j < nt ∧ r1 = nI j
/-- the order is whole -/
theorem ord_fin {t2 s : Nat} {mm2 : Nat → Int32} {e3 ep3 : Int32} (a k dp c d r1 : Int32) (hcd : c = if d = 7 then 1 else 0) (hc1 : f_Main_one c = c) {r0 : Nat} (ho : ordr = nI r0) (hr0 : r0 < 1000) (hs : r0 < 16 → s = r0) (h : CI N mk mf mv s0 (LnP ec tc ew tw (OV orc ordr q q2 xD xW xEd sk sp mD mB mEd mo mw ma (Z1 r1)) clc xT xK xE xF xL t2) t2 mm2 e3 ep3) :
    ∃ orc2 xD2 xW2 xEd2, (if e3 = 0 then (oB none (f_Or_add orc (nI q2) xD xW xEd c r1) (fun (r429 : Int32 × (Nat → Int32) × (Nat → Int32) × (Nat → Int32)) => (some (a, k, dp, e3, ep3, r429.1, nI q2, r429.2.1, r429.2.2.1, r429.2.2.2, sk, sp)))) else (some (a, k, dp, e3, ep3, orc, nI q2, xD, xW, xEd, sk, sp))) = some (a, k, dp, e3, ep3, orc2, nI q2, xD2, xW2, xEd2, sk, sp) ∧
      CI N mk mf mv s0 (LnP ec tc ew tw (OW orc2 (nI (r0 + 1)) q2 xD2 xW2 xEd2 sk sp (upd mD s d) (upd mB s (nI q)) (upd mEd s (nI q2)) mo mw ma) clc xT xK xE xF xL t2) t2 mm2 e3 ep3 := by
  rcases h with ⟨h1, h2, st, h3, ne, nt, m, who, od, event, teller, kd, bY, oF, oT, lA, wM, a1, a3, a4, a5, a6, r, b1, b2, b3, b4, ⟨b5, b6⟩, b7, b8, b9, b10⟩ | ⟨h1, h2, h3⟩
  · have er : r0 = r := (nI_eq (by omega) (by omega)).mp (ho.symm.trans b4)
    subst er
    have es := hs (by omega)
    subst es
    refine ⟨nI (s + 1), upd xD s c, upd xW s r1, upd xEd s (nI q2), ?_, Or.inl ⟨h1, h2, st, h3, ne, nt, m, who, od, event, teller, kd, bY, oF, oT, lA, wM, a1, a3, a4, a5, a6, s + 1, by omega, b2, rfl, rfl, oe_add b7 b9 b10 hcd b5 b6, b8⟩⟩
    have hf : f_Or_isFull orc = 0 := by
      unfold f_Or_isFull
      rw [b3, if_pos (show nI s < 16 from nI_lt (b := 16) b1 (by decide))]
    rw [if_pos h1]
    unfold f_Or_add
    rw [if_pos hf, b3, rs b1 (by decide), rs b1 (by decide), rs b1 (by decide), ← nI_succ, hc1]
    rfl
  · exact ⟨orc, xD, xW, xEd, if_neg h1, Or.inr ⟨h1, h2, h3⟩⟩
end OL
