/-! a test, read by both sides alike -/
section PS
variable {xk xs xn mk mf : Nat → Int32} {xw mv : Nat → Int64} {T nt ne : Nat} {xec xtc : Int32} {xew xtw : Nat → Int64} {Q : Nat → (Nat → Int32) → (Nat → Int32) → Prop} {QE : Nat → (Nat → Int32) → Int32 → Int32 → Prop}
def TS (Q : Nat → (Nat → Int32) → (Nat → Int32) → Prop) (QE : Nat → (Nat → Int32) → Int32 → Int32 → Prop) (T nt t q : Nat) (e ep : Int32) (mm who sk sp mo mw ma : Nat → Int32) : Prop :=
  t ≤ T ∧ q ≤ t ∧ ErrR Q QE t mm who e ep ∧ (∀ j, t ≤ j → j ≤ T → mm j = 0) ∧ (e = 0 → ∀ i, i < q → StR nt who t (sk i) (sp i) (mo i) (mw i) (ma i))
abbrev RXt := Option (Int32 × Int32 × Int32 × Int32 × Int32 × Int32 × (Nat → Int32) × (Nat → Int32))
abbrev RMt := Option (Int32 × Int32 × Int32 × (Nat → Int32) × Int32 × (Nat → Int32) × (Nat → Int32) × (Nat → Int32))
def OKp (xk : Nat → Int32) (Q : Nat → (Nat → Int32) → (Nat → Int32) → Prop) (QE : Nat → (Nat → Int32) → Int32 → Int32 → Prop) (T nt : Nat) (b : Bool) (t δ q : Nat) (sk : Nat → Int32) (X : RXt) (M : RMt) : Prop :=
  ∃ t2 q2 e2 ep2 mm2 who2 sk2 sp2 mo2 mw2 ma2, X = some (nI t2, xk t2, nI δ, e2, ep2, nI q2, sk2, sp2) ∧ M = some (1, nI t2, nI δ, mm2, nI q2, mo2, mw2, ma2) ∧ TS Q QE T nt t2 q2 e2 ep2 mm2 who2 sk2 sp2 mo2 mw2 ma2 ∧
    t < t2 ∧ q ≤ q2 ∧ q2 + t ≤ q + t2 ∧ (∀ l, tyR sk2 (q2 - q) q l = some (b :: l)) ∧ ∀ i, i < q → sk2 i = sk i
def FLp (mf : Nat → Int32) (T : Nat) (X : RXt) (M : RMt) : Prop :=
  ∃ t2 a dp sc sk sp dm mm q mo mw ma, X = some (a, 133, dp, 1, mf t2, sc, sk, sp) ∧ M = some (0, nI t2, dm, mm, q, mo, mw, ma) ∧ t2 ≤ T
def OutP (xk mf : Nat → Int32) (Q : Nat → (Nat → Int32) → (Nat → Int32) → Prop) (QE : Nat → (Nat → Int32) → Int32 → Int32 → Prop) (T nt : Nat) (b : Bool) (t δ q : Nat) (sk : Nat → Int32) (X : RXt) (M : RMt) : Prop := OKp xk Q QE T nt b t δ q sk X M ∨ FLp mf T X M
theorem upd_lt {f : Nat → Int32} {k j : Nat} {v : Int32} (h : j < k) : upd f k v j = f j := upd_ne (by omega)
theorem ts_push {t q t2 : Nat} {e ep e2 ep2 K P o w : Int32} {mm who sk sp mo mw ma mm2 who2 ma2 : Nat → Int32} (hT4 : T ≤ 400) (h : TS Q QE T nt t q e ep mm who sk sp mo mw ma) (h2 : t ≤ t2) (hq : q + 1 ≤ t2) (hT2 : t2 ≤ T) (he : ErrR Q QE t2 mm2 who2 e2 ep2) (hz : ∀ j, t2 ≤ j → j ≤ T → mm2 j = 0)
    (hs : e2 = 0 → e = 0 ∧ (∀ j, j < t → who2 j = who j) ∧ StR nt who2 t2 K P o w (ma2 q)) (hma : ∀ i, i < q → ma2 i = ma i) : TS Q QE T nt t2 (q + 1) e2 ep2 mm2 who2 (upd sk q K) (upd sp q P) (upd mo q o) (upd mw q w) ma2 := by
  obtain ⟨a1, a2, a3, a4, a5⟩ := h
  refine ⟨hT2, hq, he, hz, fun h0 i hi => ?_⟩
  obtain ⟨b1, b2, b3⟩ := hs h0
  by_cases hiq : i = q
  · subst hiq
    simp only [upd_at]
    exact b3
  · have hi2 : i < q := by omega
    rw [upd_lt hi2, upd_lt hi2, upd_lt hi2, upd_lt hi2, hma i hi2]
    exact str_mono (a5 b1 i hi2) h2 (by omega) b2
theorem ts_move {t q t2 : Nat} {e ep e2 ep2 : Int32} {mm who sk sp mo mw ma mm2 who2 : Nat → Int32} (hT4 : T ≤ 400) (h : TS Q QE T nt t q e ep mm who sk sp mo mw ma) (h2 : t ≤ t2) (hT2 : t2 ≤ T) (he : ErrR Q QE t2 mm2 who2 e2 ep2) (hz : ∀ j, t2 ≤ j → j ≤ T → mm2 j = 0)
    (hs : e2 = 0 → e = 0 ∧ (∀ j, j < t → who2 j = who j)) : TS Q QE T nt t2 q e2 ep2 mm2 who2 sk sp mo mw ma := by
  obtain ⟨a1, a2, a3, a4, a5⟩ := h
  refine ⟨hT2, by omega, he, hz, fun h0 i hi => ?_⟩
  obtain ⟨b1, b2⟩ := hs h0
  exact str_mono (a5 b1 i hi) h2 (by omega) b2
theorem ts_next (hq : QH mk mf mv T nt ne xec xtc xew xtw Q QE) (hT4 : T ≤ 400) {t q : Nat} {e ep : Int32} {mm who sk sp mo mw ma : Nat → Int32} (h : TS Q QE T nt t q e ep mm who sk sp mo mw ma) (ht : t < T) : TS Q QE T nt (t + 1) q e ep mm who sk sp mo mw ma :=
  ts_move hT4 h (by omega) ht (err_skip hq ht h.2.2.1 (h.2.2.2.1 t (Nat.le_refl _) (by omega))) (fun j a b => h.2.2.2.1 j (by omega) b) (fun h0 => ⟨h0, fun _ _ => rfl⟩)
theorem ty_leaf {sk : Nat → Int32} {q : Nat} {K : Int32} {b : Bool} (h : ∀ l, tyS K l = some (b :: l)) (l : List Bool) : tyR (upd sk q K) (q + 1 - q) q l = some (b :: l) := by
  rw [show q + 1 - q = 1 by omega]
  exact tyR_1 (by rw [upd_at]; exact h l)
theorem ty_un {sk : Nat → Int32} {q q1 : Nat} {K : Int32} {b b2 : Bool} (hq : q ≤ q1) (h1 : ∀ l, tyR sk (q1 - q) q l = some (b :: l)) (h : ∀ l, tyS K (b :: l) = some (b2 :: l)) (l : List Bool) : tyR (upd sk q1 K) (q1 + 1 - q) q l = some (b2 :: l) := by
  rw [show q1 + 1 - q = (q1 - q) + 1 by omega]
  have e : tyR (upd sk q1 K) (q1 - q) q l = some (b :: l) := by
    rw [tyR_congr (K := sk) (q1 - q) q l (fun i a c => upd_ne (by omega))]
    exact h1 l
  rw [tyR_add _ 1 q l _ e, show q + (q1 - q) = q1 by omega]
  exact tyR_1 (by rw [upd_at]; exact h l)
theorem ty_seq {sk sk2 : Nat → Int32} {q q1 q2 : Nat} {b b2 : Bool} (hq : q ≤ q1) (hq2 : q1 ≤ q2) (h1 : ∀ l, tyR sk (q1 - q) q l = some (b :: l)) (h2 : ∀ l, tyR sk2 (q2 - q1) q1 l = some (b2 :: l)) (hf : ∀ i, i < q1 → sk2 i = sk i) (l : List Bool) : tyR sk2 (q2 - q) q l = some (b2 :: b :: l) := by
  rw [show q2 - q = (q1 - q) + (q2 - q1) by omega]
  have e : tyR sk2 (q1 - q) q l = some (b :: l) := by
    rw [tyR_congr (K := sk) (q1 - q) q l (fun i a c => hf i (by omega))]
    exact h1 l
  rw [tyR_add _ _ q l _ e, show q + (q1 - q) = q1 by omega]
  exact h2 (b :: l)
theorem ty_bin {sk sk2 : Nat → Int32} {q q1 q2 : Nat} {K : Int32} {b b2 : Bool} (hq : q ≤ q1) (hq2 : q1 ≤ q2) (h1 : ∀ l, tyR sk (q1 - q) q l = some (b :: l)) (h2 : ∀ l, tyR sk2 (q2 - q1) q1 l = some (b :: l)) (hf : ∀ i, i < q1 → sk2 i = sk i) (h : ∀ l, tyS K (b :: b :: l) = some (b2 :: l)) (l : List Bool) : tyR (upd sk2 q2 K) (q2 + 1 - q) q l = some (b2 :: l) := by
  rw [show q2 + 1 - q = (q2 - q) + 1 by omega]
  have e : tyR (upd sk2 q2 K) (q2 - q) q l = some (b :: b :: l) := by
    rw [tyR_congr (K := sk2) (q2 - q) q l (fun i a c => upd_ne (by omega))]
    exact ty_seq hq hq2 h1 h2 hf l
  rw [tyR_add _ 1 q l _ e, show q + (q2 - q) = q2 by omega]
  exact tyR_1 (by rw [upd_at]; exact h l)
theorem deep_y (h : TKs xk xs xn mk mf xw mv T) {t δ : Nat} {e ep p : Int32} (ht : t < T) (hδ : δ < 8) (hp : mk t = p) : f_Re_deepen (nI t) (xk t) (nI δ) e ep xk xs = some (1, nI (t + 1), xk (t + 1), nI (δ + 1), e, ep) ∧ f_M_deeper (nI t) (nI δ) mk p = some (1, nI (t + 1), nI (δ + 1)) := by
  have n8 : ¬ nI δ = 8 := fun h5 => by have := (nI_eq (b := 8) (by omega) (by decide)).mp h5; omega
  unfold f_Re_deepen f_M_deeper
  rw [if_pos (show nI δ < 8 from nI_lt (b := 8) hδ (by decide)), adv h ht, oB_s, if_neg n8, eat_y h (by omega) hp, oB_s, if_neg n10, ← nI_succ]
  exact ⟨rfl, rfl⟩
theorem deep_n (h : TKs xk xs xn mk mf xw mv T) {t : Nat} {e ep p : Int32} (ht : t ≤ T) (he : ¬ e = 1) : f_Re_deepen (nI t) (xk t) (nI 8) e ep xk xs = some (0, nI t, 133, nI 8, 1, mf t) ∧ f_M_deeper (nI t) (nI 8) mk p = some (0, nI t, nI 8) := by
  unfold f_Re_deepen f_M_deeper
  rw [if_neg (show ¬ nI 8 < 8 by decide), failAt h ht _ he, oB_s, if_pos (show nI 8 = 8 from rfl)]
  exact ⟨rfl, rfl⟩
theorem close_y (h : TKs xk xs xn mk mf xw mv T) {t δ : Nat} {p : Int32} (ht : t ≤ T) (hp : mk t = p) : f_M_closes (nI t) (nI (δ + 1)) mk p = some (1, nI (t + 1), nI δ) := by
  unfold f_M_closes
  rw [eat_y h ht hp, oB_s, if_neg n10, nI_pred]
theorem close_n (h : TKs xk xs xn mk mf xw mv T) {t δ : Nat} {p : Int32} (ht : t ≤ T) (hp : ¬ mk t = p) : f_M_closes (nI t) (nI δ) mk p = some (0, nI t, nI δ) := by
  unfold f_M_closes
  rw [eat_n h ht hp, oB_s, if_pos rfl]
/-- what the class calls a token, against what the model does -/
theorem km_all : ∀ k, k ∈ kvs → (kmap k = 40 ↔ k = 40) ∧ (kmap k = 41 ↔ k = 41) ∧ (kmap k = 91 ↔ k = 91) ∧ (kmap k = 93 ↔ k = 93) ∧ (kmap k = 59 ↔ k = 59) ∧ (kmap k = 44 ↔ k = 44) ∧ (kmap k = 43 ↔ k = 43) ∧ (kmap k = 45 ↔ k = 45) ∧ (kmap k = 42 ↔ k = 42) ∧ (kmap k = 47 ↔ k = 47) ∧ (kmap k = 60 ↔ k = 60) ∧ (kmap k = 62 ↔ k = 62) ∧ (kmap k = 61 ↔ k = 61) ∧ (kmap k = 128 ↔ k = 316) ∧ (kmap k = 129 ↔ k = 318) := by decide
theorem km_all2 : ∀ k, k ∈ kvs → (kmap k = 131 ↔ k = 31) ∧ (kmap k = 210 ↔ k = 10) ∧ (kmap k = 211 ↔ k = 11) ∧ (kmap k = 212 ↔ k = 12) ∧ (kmap k = 213 ↔ k = 13) ∧ (kmap k = 214 ↔ k = 14) ∧ (kmap k = 215 ↔ k = 15) ∧ (kmap k = 216 ↔ k = 16) ∧ (kmap k = 217 ↔ k = 17) ∧ (kmap k = 218 ↔ k = 18) ∧ (kmap k = 219 ↔ k = 19) ∧ (kmap k = 220 ↔ k = 20) ∧ (kmap k = 221 ↔ k = 21) ∧ (kmap k = 222 ↔ k = 22) ∧ (kmap k = 223 ↔ k = 23) ∧ (kmap k = 224 ↔ k = 24) := by decide
def bsN (k : Nat) : Nat := if k = 6 then 2 else if k = 5 then 3 else if k = 4 then 4 else if k = 2 then 6 else if k = 1 then 7 else 8
def Sim (xk xs xn mk mf : Nat → Int32) (xw mv : Nat → Int64) (T nt : Nat) (xec xtc : Int32) (xew xtw : Nat → Int64) (Q : Nat → (Nat → Int32) → (Nat → Int32) → Prop) (QE : Nat → (Nat → Int32) → Int32 → Int32 → Prop) (N1 N2 k : Nat) (b : Bool) (m : Nat) : Prop :=
  ∀ δ DX DM, δ ≤ 8 → bsN k + 5 * (8 - δ) ≤ m → bsN k + 5 * (8 - δ) ≤ DX → bsN k + 5 * (8 - δ) ≤ DM → ∀ t q e ep mm who sk sp mo mw ma, TS Q QE T nt t q e ep mm who sk sp mo mw ma →
    OutP xk mf Q QE T nt b t δ q sk (f_Re_parse N1 xk xs xn xw xec xew xtc xtw DX k 0 0 (nI t, xk t, nI δ, e, ep, nI q, sk, sp)) (f_M_parse N2 mk mv DM k 0 0 (nI t, nI δ, mm, nI q, mo, mw, ma))
end PS
