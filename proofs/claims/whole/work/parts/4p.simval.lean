/-! values and single tests -/
section PS
variable {xk xs xn mk mf : Nat → Int32} {xw mv : Nat → Int64} {T nt ne : Nat} {xec xtc : Int32} {xew xtw : Nat → Int64} {Q : Nat → (Nat → Int32) → (Nat → Int32) → Prop} {QE : Nat → (Nat → Int32) → Int32 → Int32 → Prop}

theorem out_push {t q t2 δ : Nat} {b : Bool} {e ep e2 ep2 K P o w : Int32} {mm who sk sp mo mw ma mm2 who2 ma2 : Nat → Int32} (hT4 : T ≤ 400) (h : TS Q QE T nt t q e ep mm who sk sp mo mw ma) (h2 : t < t2) (hT2 : t2 ≤ T) (he : ErrR Q QE t2 mm2 who2 e2 ep2) (hz : ∀ j, t2 ≤ j → j ≤ T → mm2 j = 0)
    (hs : e2 = 0 → e = 0 ∧ (∀ j, j < t → who2 j = who j) ∧ StR nt who2 t2 K P o w (ma2 q)) (hma : ∀ i, i < q → ma2 i = ma i) (hty : ∀ l, tyS K l = some (b :: l)) :
    OutP xk mf Q QE T nt b t δ q sk (some (nI t2, xk t2, nI δ, e2, ep2, nI (q + 1), upd sk q K, upd sp q P)) (some (1, nI t2, nI δ, mm2, nI (q + 1), upd mo q o, upd mw q w, ma2)) := by
  have hq := h.2.1
  exact Or.inl ⟨t2, q + 1, e2, ep2, mm2, who2, _, _, _, _, ma2, rfl, rfl, ts_push hT4 h (by omega) (by omega) hT2 he hz hs hma, h2, by omega, by omega, ty_leaf hty, fun i hi => upd_lt hi⟩
theorem out_fail {t t2 δ q0 : Nat} {b : Bool} {sk0 : Nat → Int32} {a dp sc dm q : Int32} {sk sp mm mo mw ma : Nat → Int32} (h : t2 ≤ T) : OutP xk mf Q QE T nt b t δ q0 sk0 (some (a, 133, dp, 1, mf t2, sc, sk, sp)) (some (0, nI t2, dm, mm, q, mo, mw, ma)) :=
  Or.inr ⟨t2, a, dp, sc, sk, sp, dm, mm, q, mo, mw, ma, rfl, rfl, h⟩
theorem str_name {o K r a : Int32} {who : Nat → Int32} {s t2 : Nat} (hn : nmd o = true) (h17 : ¬ o = 17) (hSF : ∀ P a, SF nt K P o P a) (hs : s < t2) (hs4 : s < 401) : StR nt (upd who s r) t2 K r o (nI s) a := by
  refine ⟨?_, fun _ => ⟨s, hs, rfl⟩, fun h => absurd h h17⟩
  rw [if_pos hn, if_neg h17, nI_clamp (by omega), upd_at]
  exact Or.inl (hSF r a)
theorem i64_32 (x : Int32) : x.toInt64.toInt32 = x := by simp
theorem zb1 : zB (1 : Int32) = true := rfl
theorem zb0 : zB (0 : Int32) = true := rfl
theorem about1 (H : TKs xk xs xn mk mf xw mv T) {t q : Nat} {its as : Int32} {mm mo mw ma : Nat → Int32} (ht : t + 1 ≤ T) (hq : q < 400) (h14 : ¬ its = 14) (h15 : ¬ its = 15) :
    f_M_isAbout (nI t) mk mm (nI q) mo mw ma its as 0 = if mk (t + 1) = 30 then some (1, nI (t + 1 + 1), upd mm (t + 1) as, nI (q + 1), upd mo q its, upd mw q (nI (t + 1)), upd ma q (nI (t + 1 + 1))) else some (0, nI (t + 1), upd mm (t + 1) as, nI q, mo, mw, ma) := by
  unfold f_M_isAbout
  rw [if_neg h14, if_neg h15, ← nI_succ]
  by_cases h : mk (t + 1) = 30
  · rw [if_pos h, eatAs_y H ht mm as h, oB_s]
    simp only [if_neg n10, ib_nI (show q < 800 by omega) (show 800 < 2147483648 by decide), if_true, put_y hq, oB_s, nI_clamp (show q < 2 ^ 31 by omega)]
  · rw [if_neg h, eatAs_n H ht mm as h, oB_s]
    simp only [if_true]
theorem about2 (H : TKs xk xs xn mk mf xw mv T) {t q : Nat} {mm mo mw ma : Nat → Int32} (ht : t + 1 ≤ T) (hq : q < 400) :
    (¬ mk (t + 1) = 30 → f_M_isAbout (nI t) mk mm (nI q) mo mw ma 17 12 1 = some (0, nI (t + 1), upd mm (t + 1) 12, nI q, mo, mw, ma)) ∧
    (mk (t + 1) = 30 → t + 1 + 1 ≤ T → ¬ mk (t + 1 + 1) = 30 → f_M_isAbout (nI t) mk mm (nI q) mo mw ma 17 12 1 = some (0, nI (t + 1 + 1), upd (upd mm (t + 1) 12) (t + 1 + 1) 12, nI q, mo, mw, upd ma q (nI (t + 1 + 1)))) ∧
    (mk (t + 1) = 30 → t + 1 + 1 ≤ T → mk (t + 1 + 1) = 30 → f_M_isAbout (nI t) mk mm (nI q) mo mw ma 17 12 1 = some (1, nI (t + 1 + 1 + 1), upd (upd mm (t + 1) 12) (t + 1 + 1) 12, nI (q + 1), upd mo q 17, upd mw q (nI (t + 1)), upd ma q (nI (t + 1 + 1)))) := by
  unfold f_M_isAbout
  rw [if_neg (show ¬ (17 : Int32) = 14 by decide), if_neg (show ¬ (17 : Int32) = 15 by decide), ← nI_succ]
  refine ⟨fun h => ?_, fun h h2 h3 => ?_, fun h h2 h3 => ?_⟩
  · rw [eatAs_n H ht mm 12 h, oB_s]
    simp only [if_true]
  · rw [eatAs_y H ht mm 12 h, oB_s]
    simp only [if_neg n10, ib_nI (show q < 800 by omega) (show 800 < 2147483648 by decide), if_true, eatAs_n H h2 _ 12 h3, oB_s, nI_clamp (show q < 2 ^ 31 by omega)]
  · rw [eatAs_y H ht mm 12 h, oB_s]
    simp only [if_neg n10, ib_nI (show q < 800 by omega) (show 800 < 2147483648 by decide), if_true, eatAs_y H h2 _ 12 h3, oB_s, put_y hq, nI_clamp (show q < 2 ^ 31 by omega)]
theorem aboutOf (H : TKs xk xs xn mk mf xw mv T) {t q : Nat} {its as : Int32} {mm mo mw ma : Nat → Int32} (ht : t + 1 ≤ T) (hq : q < 400) (hi : its = 14 ∨ its = 15) :
    (¬ mk (t + 1) = 16 → f_M_isAbout (nI t) mk mm (nI q) mo mw ma its as 0 = some (0, nI (t + 1), mm, nI q, mo, mw, ma)) ∧
    (mk (t + 1) = 16 → t + 1 + 1 ≤ T → ¬ mk (t + 1 + 1) = 30 → f_M_isAbout (nI t) mk mm (nI q) mo mw ma its as 0 = some (0, nI (t + 1 + 1), upd mm (t + 1 + 1) as, nI q, mo, mw, ma)) ∧
    (mk (t + 1) = 16 → t + 1 + 1 ≤ T → mk (t + 1 + 1) = 30 → f_M_isAbout (nI t) mk mm (nI q) mo mw ma its as 0 = some (1, nI (t + 1 + 1 + 1), upd mm (t + 1 + 1) as, nI (q + 1), upd mo q its, upd mw q (nI (t + 1 + 1)), upd ma q (nI (t + 1 + 1 + 1)))) := by
  unfold f_M_isAbout
  rw [← nI_succ]
  rcases hi with rfl | rfl
  · rw [if_pos rfl]
    refine ⟨fun h => ?_, fun h h2 h3 => ?_, fun h h2 h3 => ?_⟩
    · rw [eat_n H ht h, oB_s]
      simp only [if_true]
    · rw [eat_y H ht h, oB_s]
      simp only [if_neg n10, eatAs_n H h2 mm as h3, oB_s, if_true]
    · rw [eat_y H ht h, oB_s]
      simp only [if_neg n10, eatAs_y H h2 mm as h3, oB_s, ib_nI (show q < 800 by omega) (show 800 < 2147483648 by decide), if_true, put_y hq, nI_clamp (show q < 2 ^ 31 by omega)]
  · rw [if_neg (show ¬ (15 : Int32) = 14 by decide), if_pos rfl]
    refine ⟨fun h => ?_, fun h h2 h3 => ?_, fun h h2 h3 => ?_⟩
    · rw [eat_n H ht h, oB_s]
      simp only [if_true]
    · rw [eat_y H ht h, oB_s]
      simp only [if_neg n10, eatAs_n H h2 mm as h3, oB_s, if_true]
    · rw [eat_y H ht h, oB_s]
      simp only [if_neg n10, eatAs_y H h2 mm as h3, oB_s, ib_nI (show q < 800 by omega) (show 800 < 2147483648 by decide), if_true, put_y hq, nI_clamp (show q < 2 ^ 31 by omega)]
theorem two_part : ∀ p, p < 10 → ∀ q, q < 10 → (nI p <<< ((4 : Int32) &&& 31)) ||| nI q = nI (16 * p + q) := by decide +kernel
theorem kin : ∀ k, k ∈ kvs → ¬ k = 10 → ¬ k = 11 → ¬ k = 12 → f_M_isIn k 10 12 = 0 := by
  have h : ∀ k, k ∈ kvs → (k = 10 ∨ k = 11 ∨ k = 12 ∨ f_M_isIn k 10 12 = 0) := by decide
  intro k hk a b c
  exact (((h k hk).resolve_left a).resolve_left b).resolve_left c
theorem sim_value (H : TKs xk xs xn mk mf xw mv T) (hq : QH mk mf mv T nt ne xec xtc xew xtw Q QE) {N1 N2 m : Nat} (hN1 : 500 < N1) (hN2 : 500 < N2) (H4' : Sim xk xs xn mk mf xw mv T nt xec xtc xew xtw Q QE N1 N2 4 false m) (H6 : Sim xk xs xn mk mf xw mv T nt xec xtc xew xtw Q QE N1 N2 6 false m) : Sim xk xs xn mk mf xw mv T nt xec xtc xew xtw Q QE N1 N2 6 false (m + 1) := by
  intro δ DX DM hδ hm hX hM t q e ep mm who sk sp mo mw ma hTS
  have H4 := H.1
  have hT := hTS.1
  have hqt := hTS.2.1
  have hz := hTS.2.2.2.1
  have he1 := err1 hTS.2.2.1
  obtain ⟨a1, a2, a3, a4, a5⟩ := H.2.1 t hT
  have g1 : ib (nI t) 401 = true := ib_nI (by omega) (by decide)
  have g2 : (nI t).toNatClampNeg = t := nI_clamp (by omega)
  have bs4 : bsN 4 = 4 := rfl
  have bs6 : bsN 6 = 2 := rfl
  have bs2 : bsN 2 = 6 := rfl
  have bs0 : bsN 0 = 8 := rfl
  rw [bs6] at hm hX hM
  obtain ⟨DX, rfl⟩ : ∃ D, DX = D + 1 := ⟨DX - 1, by omega⟩
  obtain ⟨DM, rfl⟩ : ∃ D, DM = D + 1 := ⟨DM - 1, by omega⟩
  obtain ⟨DX, rfl⟩ : ∃ D, DX = D + 1 := ⟨DX - 1, by omega⟩
  obtain ⟨DM, rfl⟩ : ∃ D, DM = D + 1 := ⟨DM - 1, by omega⟩
  show OutP xk mf Q QE T nt false t δ q sk (f_Re_readValue N1 (f_Re_parse N1 xk xs xn xw xec xew xtc xtw (DX + 1)) (nI t) (xk t) (nI δ) e ep xk xs xn xw (nI q) sk sp xec xew xtc xtw) (f_M_isValue N2 (f_M_parse N2 mk mv (DM + 1)) (nI t) (nI δ) mk mm mv (nI q) mo mw ma)
  by_cases hk : mk t = 45
  · have hx : xk t = 45 := by rw [a1]; exact (km_all _ a2).2.2.2.2.2.2.2.1.mpr hk
    have ht : t < T := tk_lt H hT (by rw [hk]; decide) (by rw [hk]; decide)
    have hq4 : q < 400 := by omega
    have En := err_skip hq ht hTS.2.2.1 (hz t (Nat.le_refl _) (by omega))
    by_cases hδ8 : δ = 8
    · subst hδ8
      obtain ⟨d1, d2⟩ := deep_n (e := e) (ep := ep) (p := 45) H (show t ≤ T by omega) he1
      rw [hx] at d1
      have eX : f_Re_readValue N1 (f_Re_parse N1 xk xs xn xw xec xew xtc xtw (DX + 1)) (nI t) (xk t) (nI 8) e ep xk xs xn xw (nI q) sk sp xec xew xtc xtw = some (nI t, 133, nI 8, 1, mf t, nI q, sk, sp) := by
        unfold f_Re_readValue
        simp only [hx, if_neg (show ¬ (45 : Int32) = 40 by decide), if_neg (show ¬ (45 : Int32) = 131 by decide), if_neg (show ¬ (45 : Int32) = 210 by decide), if_neg (show ¬ (45 : Int32) = 211 by decide), if_neg (show ¬ (45 : Int32) = 212 by decide), if_neg (show ¬ (45 : Int32) = 214 by decide), if_neg (show ¬ (45 : Int32) = 215 by decide), if_neg (show ¬ (45 : Int32) = 223 by decide), if_neg (show ¬ (45 : Int32) = 224 by decide), if_true, d1, oB_s]
      have eM : f_M_isValue N2 (f_M_parse N2 mk mv (DM + 1)) (nI t) (nI 8) mk mm mv (nI q) mo mw ma = some (0, nI t, nI 8, mm, nI q, mo, mw, ma) := by
        unfold f_M_isValue
        simp only [g1, g2, hk, if_neg (show ¬ (45 : Int32) = 40 by decide), if_neg (show ¬ (45 : Int32) = 23 by decide), if_neg (show ¬ (45 : Int32) = 24 by decide), if_neg (show ¬ (45 : Int32) = 14 by decide), if_neg (show ¬ (45 : Int32) = 15 by decide), if_neg (show ¬ (45 : Int32) = 31 by decide), if_true, d2, oB_s]
      
      rw [eX, eM]
      exact out_fail (by omega)
    · obtain ⟨d1, d2⟩ := deep_y (e := e) (ep := ep) H ht (show δ < 8 by omega) hk
      rw [hx] at d1
      rcases H6 (δ + 1) (DX + 1) (DM + 1) (by omega) (by omega) (by omega) (by omega) (t + 1) q e ep mm who sk sp mo mw ma (ts_next hq H4 hTS ht) with ⟨t1, q1, e1, ep1, mm1, who1, sk1, sp1, mo1, mw1, ma1, x1, m1, T1, l1, l2, l3, ty1, fr1⟩ | ⟨t1, a, dp, sc, sk1, sp1, dm, mm1, q1, mo1, mw1, ma1, x1, m1, l1⟩
      · have hq1 : q1 < 400 := by have := T1.1; omega
        have eX : f_Re_readValue N1 (f_Re_parse N1 xk xs xn xw xec xew xtc xtw (DX + 1)) (nI t) (xk t) (nI δ) e ep xk xs xn xw (nI q) sk sp xec xew xtc xtw = some (nI t1, xk t1, nI δ, e1, ep1, nI (q1 + 1), upd sk1 q1 134, upd sp1 q1 0) := by
          unfold f_Re_readValue
          simp only [hx, if_neg (show ¬ (45 : Int32) = 40 by decide), if_neg (show ¬ (45 : Int32) = 131 by decide), if_neg (show ¬ (45 : Int32) = 210 by decide), if_neg (show ¬ (45 : Int32) = 211 by decide), if_neg (show ¬ (45 : Int32) = 212 by decide), if_neg (show ¬ (45 : Int32) = 214 by decide), if_neg (show ¬ (45 : Int32) = 215 by decide), if_neg (show ¬ (45 : Int32) = 223 by decide), if_neg (show ¬ (45 : Int32) = 224 by decide), if_true, d1, oB_s, if_neg n10, x1, add_y hq1, nI_pred]
        have eM : f_M_isValue N2 (f_M_parse N2 mk mv (DM + 1)) (nI t) (nI δ) mk mm mv (nI q) mo mw ma = some (1, nI t1, nI δ, mm1, nI (q1 + 1), upd mo1 q1 105, upd mw1 q1 0, ma1) := by
          unfold f_M_isValue
          simp only [g1, g2, hk, if_neg (show ¬ (45 : Int32) = 40 by decide), if_neg (show ¬ (45 : Int32) = 23 by decide), if_neg (show ¬ (45 : Int32) = 24 by decide), if_neg (show ¬ (45 : Int32) = 14 by decide), if_neg (show ¬ (45 : Int32) = 15 by decide), if_neg (show ¬ (45 : Int32) = 31 by decide), if_true, d2, oB_s, if_neg n10, m1, put_y hq1, nI_pred]
        
        rw [eX, eM]
        exact Or.inl ⟨t1, q1 + 1, e1, ep1, mm1, who1, _, _, _, _, ma1, rfl, rfl, ts_push H4 T1 (Nat.le_refl _) (by omega) T1.1 T1.2.2.1 T1.2.2.2.1 (fun h0 => ⟨h0, fun _ _ => rfl, ⟨Or.inr (Or.inl ⟨rfl, rfl⟩), fun h9 => absurd h9 (by decide), fun h9 => absurd h9 (by decide)⟩⟩) (fun _ _ => rfl), by omega, by omega, by omega, ty_un l2 ty1 (fun _ => rfl), fun i hi => by rw [upd_lt (show i < q1 by omega)]; exact fr1 i hi⟩
      · obtain ⟨b1, b2, b3, b4⟩ := addSome sc sk1 sp1 134 0
        have eX : f_Re_readValue N1 (f_Re_parse N1 xk xs xn xw xec xew xtc xtw (DX + 1)) (nI t) (xk t) (nI δ) e ep xk xs xn xw (nI q) sk sp xec xew xtc xtw = some (a, 133, dp - 1, 1, mf t1, b1, b2, b3) := by
          unfold f_Re_readValue
          simp only [hx, if_neg (show ¬ (45 : Int32) = 40 by decide), if_neg (show ¬ (45 : Int32) = 131 by decide), if_neg (show ¬ (45 : Int32) = 210 by decide), if_neg (show ¬ (45 : Int32) = 211 by decide), if_neg (show ¬ (45 : Int32) = 212 by decide), if_neg (show ¬ (45 : Int32) = 214 by decide), if_neg (show ¬ (45 : Int32) = 215 by decide), if_neg (show ¬ (45 : Int32) = 223 by decide), if_neg (show ¬ (45 : Int32) = 224 by decide), if_true, d1, oB_s, if_neg n10, x1, b4]
        have eM : f_M_isValue N2 (f_M_parse N2 mk mv (DM + 1)) (nI t) (nI δ) mk mm mv (nI q) mo mw ma = some (0, nI t1, dm, mm1, q1, mo1, mw1, ma1) := by
          unfold f_M_isValue
          simp only [g1, g2, hk, if_neg (show ¬ (45 : Int32) = 40 by decide), if_neg (show ¬ (45 : Int32) = 23 by decide), if_neg (show ¬ (45 : Int32) = 24 by decide), if_neg (show ¬ (45 : Int32) = 14 by decide), if_neg (show ¬ (45 : Int32) = 15 by decide), if_neg (show ¬ (45 : Int32) = 31 by decide), if_true, d2, oB_s, if_neg n10, m1]
        
        rw [eX, eM]
        exact out_fail l1
  have n45 := hk
  clear hk
  by_cases hk : mk t = 40
  · have hx : xk t = 40 := by rw [a1]; exact (km_all _ a2).1.mpr hk
    have ht : t < T := tk_lt H hT (by rw [hk]; decide) (by rw [hk]; decide)
    have hq4 : q < 400 := by omega
    have En := err_skip hq ht hTS.2.2.1 (hz t (Nat.le_refl _) (by omega))
    by_cases hδ8 : δ = 8
    · subst hδ8
      obtain ⟨d1, d2⟩ := deep_n (e := e) (ep := ep) (p := 40) H (show t ≤ T by omega) he1
      rw [hx] at d1
      have eX : f_Re_readValue N1 (f_Re_parse N1 xk xs xn xw xec xew xtc xtw (DX + 1)) (nI t) (xk t) (nI 8) e ep xk xs xn xw (nI q) sk sp xec xew xtc xtw = some (nI t, 133, nI 8, 1, mf t, nI q, sk, sp) := by
        unfold f_Re_readValue
        simp only [hx, if_neg (show ¬ (40 : Int32) = 45 by decide), if_neg (show ¬ (40 : Int32) = 131 by decide), if_neg (show ¬ (40 : Int32) = 210 by decide), if_neg (show ¬ (40 : Int32) = 211 by decide), if_neg (show ¬ (40 : Int32) = 212 by decide), if_neg (show ¬ (40 : Int32) = 214 by decide), if_neg (show ¬ (40 : Int32) = 215 by decide), if_neg (show ¬ (40 : Int32) = 223 by decide), if_neg (show ¬ (40 : Int32) = 224 by decide), if_true, d1, oB_s]
      have eM : f_M_isValue N2 (f_M_parse N2 mk mv (DM + 1)) (nI t) (nI 8) mk mm mv (nI q) mo mw ma = some (0, nI t, nI 8, mm, nI q, mo, mw, ma) := by
        unfold f_M_isValue
        simp only [g1, g2, hk, if_neg (show ¬ (40 : Int32) = 45 by decide), if_neg (show ¬ (40 : Int32) = 23 by decide), if_neg (show ¬ (40 : Int32) = 24 by decide), if_neg (show ¬ (40 : Int32) = 14 by decide), if_neg (show ¬ (40 : Int32) = 15 by decide), if_neg (show ¬ (40 : Int32) = 31 by decide), if_true, d2, oB_s]
      
      rw [eX, eM]
      exact out_fail (by omega)
    · obtain ⟨d1, d2⟩ := deep_y (e := e) (ep := ep) H ht (show δ < 8 by omega) hk
      rw [hx] at d1
      rcases H4' (δ + 1) (DX + 1) (DM + 1) (by omega) (by omega) (by omega) (by omega) (t + 1) q e ep mm who sk sp mo mw ma (ts_next hq H4 hTS ht) with ⟨t1, q1, e1, ep1, mm1, who1, sk1, sp1, mo1, mw1, ma1, x1, m1, T1, l1, l2, l3, ty1, fr1⟩ | ⟨t1, a, dp, sc, sk1, sp1, dm, mm1, q1, mo1, mw1, ma1, x1, m1, l1⟩
      · have hT1 := T1.1
        obtain ⟨c1, c2, -⟩ := H.2.1 t1 hT1
        by_cases hc : mk t1 = 41
        · have hxc : xk t1 = 41 := by rw [c1]; exact (km_all _ c2).2.1.mpr hc
          have ht1 : t1 < T := tk_lt H hT1 (by rw [hc]; decide) (by rw [hc]; decide)
          have ex := expectY (e := e1) (ep := ep1) H ht1 hxc
          have cl := close_y (δ := δ) H hT1 hc
          have eX : f_Re_readValue N1 (f_Re_parse N1 xk xs xn xw xec xew xtc xtw (DX + 1)) (nI t) (xk t) (nI δ) e ep xk xs xn xw (nI q) sk sp xec xew xtc xtw = some (nI (t1 + 1), xk (t1 + 1), nI δ, e1, ep1, nI q1, sk1, sp1) := by
            unfold f_Re_readValue
            simp only [hx, if_neg (show ¬ (40 : Int32) = 45 by decide), if_neg (show ¬ (40 : Int32) = 131 by decide), if_neg (show ¬ (40 : Int32) = 210 by decide), if_neg (show ¬ (40 : Int32) = 211 by decide), if_neg (show ¬ (40 : Int32) = 212 by decide), if_neg (show ¬ (40 : Int32) = 214 by decide), if_neg (show ¬ (40 : Int32) = 215 by decide), if_neg (show ¬ (40 : Int32) = 223 by decide), if_neg (show ¬ (40 : Int32) = 224 by decide), if_true, d1, oB_s, if_neg n10, x1, ex, nI_pred]
          have eM : f_M_isValue N2 (f_M_parse N2 mk mv (DM + 1)) (nI t) (nI δ) mk mm mv (nI q) mo mw ma = some (1, nI (t1 + 1), nI δ, mm1, nI q1, mo1, mw1, ma1) := by
            unfold f_M_isValue
            simp only [g1, g2, hk, if_neg (show ¬ (40 : Int32) = 45 by decide), if_neg (show ¬ (40 : Int32) = 23 by decide), if_neg (show ¬ (40 : Int32) = 24 by decide), if_neg (show ¬ (40 : Int32) = 14 by decide), if_neg (show ¬ (40 : Int32) = 15 by decide), if_neg (show ¬ (40 : Int32) = 31 by decide), if_true, d2, oB_s, if_neg n10, m1, cl]
          
          rw [eX, eM]
          exact Or.inl ⟨t1 + 1, q1, e1, ep1, mm1, who1, _, _, _, _, ma1, rfl, rfl, ts_next hq H4 T1 ht1, by omega, by omega, by omega, ty1, fr1⟩
        · have hxc : ¬ xk t1 = 41 := by rw [c1]; exact fun h9 => hc ((km_all _ c2).2.1.mp h9)
          have ex := expectF (e := e1) (ep := ep1) H hT1 hxc (err1 T1.2.2.1)
          have cl := close_n (δ := δ + 1) H hT1 hc
          have eX : f_Re_readValue N1 (f_Re_parse N1 xk xs xn xw xec xew xtc xtw (DX + 1)) (nI t) (xk t) (nI δ) e ep xk xs xn xw (nI q) sk sp xec xew xtc xtw = some (nI t1, 133, nI δ, 1, mf t1, nI q1, sk1, sp1) := by
            unfold f_Re_readValue
            simp only [hx, if_neg (show ¬ (40 : Int32) = 45 by decide), if_neg (show ¬ (40 : Int32) = 131 by decide), if_neg (show ¬ (40 : Int32) = 210 by decide), if_neg (show ¬ (40 : Int32) = 211 by decide), if_neg (show ¬ (40 : Int32) = 212 by decide), if_neg (show ¬ (40 : Int32) = 214 by decide), if_neg (show ¬ (40 : Int32) = 215 by decide), if_neg (show ¬ (40 : Int32) = 223 by decide), if_neg (show ¬ (40 : Int32) = 224 by decide), if_true, d1, oB_s, if_neg n10, x1, ex, nI_pred]
          have eM : f_M_isValue N2 (f_M_parse N2 mk mv (DM + 1)) (nI t) (nI δ) mk mm mv (nI q) mo mw ma = some (0, nI t1, nI (δ + 1), mm1, nI q1, mo1, mw1, ma1) := by
            unfold f_M_isValue
            simp only [g1, g2, hk, if_neg (show ¬ (40 : Int32) = 45 by decide), if_neg (show ¬ (40 : Int32) = 23 by decide), if_neg (show ¬ (40 : Int32) = 24 by decide), if_neg (show ¬ (40 : Int32) = 14 by decide), if_neg (show ¬ (40 : Int32) = 15 by decide), if_neg (show ¬ (40 : Int32) = 31 by decide), if_true, d2, oB_s, if_neg n10, m1, cl]
          
          rw [eX, eM]
          exact out_fail hT1
      · have ex := expectF2 (xk := xk) (xs := xs) a (mf t1) 41 (by decide)
        have eX : f_Re_readValue N1 (f_Re_parse N1 xk xs xn xw xec xew xtc xtw (DX + 1)) (nI t) (xk t) (nI δ) e ep xk xs xn xw (nI q) sk sp xec xew xtc xtw = some (a, 133, dp - 1, 1, mf t1, sc, sk1, sp1) := by
          unfold f_Re_readValue
          simp only [hx, if_neg (show ¬ (40 : Int32) = 45 by decide), if_neg (show ¬ (40 : Int32) = 131 by decide), if_neg (show ¬ (40 : Int32) = 210 by decide), if_neg (show ¬ (40 : Int32) = 211 by decide), if_neg (show ¬ (40 : Int32) = 212 by decide), if_neg (show ¬ (40 : Int32) = 214 by decide), if_neg (show ¬ (40 : Int32) = 215 by decide), if_neg (show ¬ (40 : Int32) = 223 by decide), if_neg (show ¬ (40 : Int32) = 224 by decide), if_true, d1, oB_s, if_neg n10, x1, ex]
        have eM : f_M_isValue N2 (f_M_parse N2 mk mv (DM + 1)) (nI t) (nI δ) mk mm mv (nI q) mo mw ma = some (0, nI t1, dm, mm1, q1, mo1, mw1, ma1) := by
          unfold f_M_isValue
          simp only [g1, g2, hk, if_neg (show ¬ (40 : Int32) = 45 by decide), if_neg (show ¬ (40 : Int32) = 23 by decide), if_neg (show ¬ (40 : Int32) = 24 by decide), if_neg (show ¬ (40 : Int32) = 14 by decide), if_neg (show ¬ (40 : Int32) = 15 by decide), if_neg (show ¬ (40 : Int32) = 31 by decide), if_true, d2, oB_s, if_neg n10, m1]
        
        rw [eX, eM]
        exact out_fail l1
  have n40 := hk
  clear hk
  by_cases hk : mk t = 23
  · have hx : xk t = 223 := by rw [a1]; exact (km_all2 _ a2).2.2.2.2.2.2.2.2.2.2.2.2.2.2.1.mpr hk
    have ht : t < T := tk_lt H hT (by rw [hk]; decide) (by rw [hk]; decide)
    have hq4 : q < 400 := by omega
    have En := err_skip hq ht hTS.2.2.1 (hz t (Nat.le_refl _) (by omega))
    obtain ⟨b1, b2, -⟩ := H.2.1 (t + 1) (by omega)
    have hz1 := hz
    by_cases hk1 : mk (t + 1) = 40
    · have hx1 : xk (t + 1) = 40 := by rw [b1]; exact (km_all _ b2).1.mpr hk1
      have ht1 : t + 1 < T := tk_lt H (by omega) (by rw [hk1]; decide) (by rw [hk1]; decide)
      by_cases hδ8 : δ = 8
      · subst hδ8
        obtain ⟨d1, d2⟩ := deep_n (e := e) (ep := ep) (p := 40) H (show t + 1 ≤ T by omega) he1
        rw [hx1] at d1
        have eR : f_Re_parse N1 xk xs xn xw xec xew xtc xtw (DX + 1) 7 0 0 (nI (t + 1), xk (t + 1), nI 8, e, ep, nI q, sk, sp) = some (nI (t + 1), 133, nI 8, 1, mf (t + 1), nI q, sk, sp) := by
          show f_Re_readTwoSums N1 (f_Re_parse N1 xk xs xn xw xec xew xtc xtw DX) (nI (t + 1)) (xk (t + 1)) (nI 8) e ep xk xs xn xw (nI q) sk sp xec xew xtc xtw = _
          unfold f_Re_readTwoSums
          simp only [hx1, if_true, d1, oB_s]
        have eN : f_M_parse N2 mk mv (DM + 1) 7 23 0 (nI t, nI 8, mm, nI q, mo, mw, ma) = some (0, nI (t + 1), nI 8, mm, nI q, mo, mw, ma) := by
          show f_M_isOfTwo N2 (f_M_parse N2 mk mv (DM + 1)) (nI t) (nI 8) mk mm mv (nI q) mo mw ma 23 = _
          unfold f_M_isOfTwo
          simp only [← nI_succ, d2, oB_s, if_true]
        obtain ⟨z1, z2, z3, z4⟩ := addSome (nI q) sk sp 223 0
        have eX : f_Re_readValue N1 (f_Re_parse N1 xk xs xn xw xec xew xtc xtw (DX + 1)) (nI t) (xk t) (nI 8) e ep xk xs xn xw (nI q) sk sp xec xew xtc xtw = some (nI (t + 1), 133, nI 8, 1, mf (t + 1), z1, z2, z3) := by
          unfold f_Re_readValue
          simp only [hx, if_neg (show ¬ (223 : Int32) = 40 by decide), if_neg (show ¬ (223 : Int32) = 45 by decide), if_neg (show ¬ (223 : Int32) = 131 by decide), if_neg (show ¬ (223 : Int32) = 210 by decide), if_neg (show ¬ (223 : Int32) = 211 by decide), if_neg (show ¬ (223 : Int32) = 212 by decide), if_neg (show ¬ (223 : Int32) = 214 by decide), if_neg (show ¬ (223 : Int32) = 215 by decide), if_neg (show ¬ (223 : Int32) = 224 by decide), if_true, adv H ht, oB_s, eR, z4]
        have eM : f_M_isValue N2 (f_M_parse N2 mk mv (DM + 1)) (nI t) (nI 8) mk mm mv (nI q) mo mw ma = some (0, nI (t + 1), nI 8, mm, nI q, mo, mw, ma) := by
          unfold f_M_isValue
          simp only [g1, g2, hk, if_neg (show ¬ (23 : Int32) = 45 by decide), if_neg (show ¬ (23 : Int32) = 40 by decide), if_neg (show ¬ (23 : Int32) = 24 by decide), if_neg (show ¬ (23 : Int32) = 14 by decide), if_neg (show ¬ (23 : Int32) = 15 by decide), if_neg (show ¬ (23 : Int32) = 31 by decide), if_true, eN, oB_s, zb0]
        
        rw [eX, eM]
        exact out_fail (by omega)
      · obtain ⟨d1, d2⟩ := deep_y (e := e) (ep := ep) H ht1 (show δ < 8 by omega) hk1
        rw [hx1] at d1
        rcases H4' (δ + 1) DX DM (by omega) (by omega) (by omega) (by omega) (t + 1 + 1) q e ep mm who sk sp mo mw ma (ts_next hq H4 (ts_next hq H4 hTS ht) ht1) with ⟨t1, q1, e1, ep1, mm1, who1, sk1, sp1, mo1, mw1, ma1, x1, m1, T1, l1, l2, l3, ty1, fr1⟩ | ⟨t1, a, dp, sc, sk1, sp1, dm, mm1, q1, mo1, mw1, ma1, x1, m1, l1⟩
        · have hT1 := T1.1
          obtain ⟨c1, c2, -⟩ := H.2.1 t1 hT1
          by_cases hc : mk t1 = 44
          · have hxc : xk t1 = 44 := by rw [c1]; exact (km_all _ c2).2.2.2.2.2.1.mpr hc
            have htc : t1 < T := tk_lt H hT1 (by rw [hc]; decide) (by rw [hc]; decide)
            have ex1 := expectY (e := e1) (ep := ep1) H htc hxc
            have ea1 := eat_y H hT1 hc
            rcases H4' (δ + 1) DX DM (by omega) (by omega) (by omega) (by omega) (t1 + 1) q1 e1 ep1 mm1 who1 sk1 sp1 mo1 mw1 ma1 (ts_next hq H4 T1 htc) with ⟨t2, q2, e2, ep2, mm2, who2, sk2, sp2, mo2, mw2, ma2, x2, m2, T2, l4, l5, l6, ty2, fr2⟩ | ⟨t2, a, dp, sc, sk2, sp2, dm, mm2, q2, mo2, mw2, ma2, x2, m2, l4⟩
            · have hT2 := T2.1
              have hqq := T1.2.1
              obtain ⟨f1, f2, -⟩ := H.2.1 t2 hT2
              by_cases hc2 : mk t2 = 41
              · have hxc2 : xk t2 = 41 := by rw [f1]; exact (km_all _ f2).2.1.mpr hc2
                have htc2 : t2 < T := tk_lt H hT2 (by rw [hc2]; decide) (by rw [hc2]; decide)
                have ex2 := expectY (e := e2) (ep := ep2) H htc2 hxc2
                have cl2 := close_y (δ := δ) H hT2 hc2
                have hq2 : q2 < 400 := by omega
                have eR : f_Re_parse N1 xk xs xn xw xec xew xtc xtw (DX + 1) 7 0 0 (nI (t + 1), xk (t + 1), nI δ, e, ep, nI q, sk, sp) = some (nI (t2 + 1), xk (t2 + 1), nI δ, e2, ep2, nI q2, sk2, sp2) := by
                  show f_Re_readTwoSums N1 (f_Re_parse N1 xk xs xn xw xec xew xtc xtw DX) (nI (t + 1)) (xk (t + 1)) (nI δ) e ep xk xs xn xw (nI q) sk sp xec xew xtc xtw = _
                  unfold f_Re_readTwoSums
                  simp only [hx1, if_true, d1, oB_s, if_neg n10, x1, ex1, x2, ex2, nI_pred]
                have eN : f_M_parse N2 mk mv (DM + 1) 7 23 0 (nI t, nI δ, mm, nI q, mo, mw, ma) = some (1, nI (t2 + 1), nI δ, mm2, nI (q2 + 1), upd mo2 q2 23, upd mw2 q2 0, ma2) := by
                  show f_M_isOfTwo N2 (f_M_parse N2 mk mv DM) (nI t) (nI δ) mk mm mv (nI q) mo mw ma 23 = _
                  unfold f_M_isOfTwo
                  simp only [← nI_succ, d2, oB_s, if_neg n10, m1, ea1, m2, cl2, put_y hq2]
                have eX : f_Re_readValue N1 (f_Re_parse N1 xk xs xn xw xec xew xtc xtw (DX + 1)) (nI t) (xk t) (nI δ) e ep xk xs xn xw (nI q) sk sp xec xew xtc xtw = some (nI (t2 + 1), xk (t2 + 1), nI δ, e2, ep2, nI (q2 + 1), upd sk2 q2 223, upd sp2 q2 0) := by
                  unfold f_Re_readValue
                  simp only [hx, if_neg (show ¬ (223 : Int32) = 40 by decide), if_neg (show ¬ (223 : Int32) = 45 by decide), if_neg (show ¬ (223 : Int32) = 131 by decide), if_neg (show ¬ (223 : Int32) = 210 by decide), if_neg (show ¬ (223 : Int32) = 211 by decide), if_neg (show ¬ (223 : Int32) = 212 by decide), if_neg (show ¬ (223 : Int32) = 214 by decide), if_neg (show ¬ (223 : Int32) = 215 by decide), if_neg (show ¬ (223 : Int32) = 224 by decide), if_true, adv H ht, oB_s, eR, add_y hq2]
                have eM : f_M_isValue N2 (f_M_parse N2 mk mv (DM + 1)) (nI t) (nI δ) mk mm mv (nI q) mo mw ma = some (1, nI (t2 + 1), nI δ, mm2, nI (q2 + 1), upd mo2 q2 23, upd mw2 q2 0, ma2) := by
                  unfold f_M_isValue
                  simp only [g1, g2, hk, if_neg (show ¬ (23 : Int32) = 45 by decide), if_neg (show ¬ (23 : Int32) = 40 by decide), if_neg (show ¬ (23 : Int32) = 24 by decide), if_neg (show ¬ (23 : Int32) = 14 by decide), if_neg (show ¬ (23 : Int32) = 15 by decide), if_neg (show ¬ (23 : Int32) = 31 by decide), if_true, eN, oB_s, zb1]
                
                rw [eX, eM]
                have T2n := ts_next hq H4 T2 htc2
                exact Or.inl ⟨t2 + 1, q2 + 1, e2, ep2, mm2, who2, _, _, _, _, ma2, rfl, rfl, ts_push H4 T2n (Nat.le_refl _) (by omega) T2n.1 T2n.2.2.1 T2n.2.2.2.1 (fun h0 => ⟨h0, fun _ _ => rfl, ⟨Or.inr (Or.inr (Or.inr (by unfold SB; decide))), fun h9 => absurd h9 (by decide), fun h9 => absurd h9 (by decide)⟩⟩) (fun _ _ => rfl), by omega, by omega, by omega, ty_bin l2 l5 ty1 ty2 fr2 (fun _ => rfl), fun i hi => by rw [upd_lt (show i < q2 by omega), fr2 i (by omega)]; exact fr1 i hi⟩
              · have hxc2 : ¬ xk t2 = 41 := by rw [f1]; exact fun h9 => hc2 ((km_all _ f2).2.1.mp h9)
                have ex2 := expectF (e := e2) (ep := ep2) H hT2 hxc2 (err1 T2.2.2.1)
                have cl2 := close_n (δ := δ + 1) H hT2 hc2
                have eR : f_Re_parse N1 xk xs xn xw xec xew xtc xtw (DX + 1) 7 0 0 (nI (t + 1), xk (t + 1), nI δ, e, ep, nI q, sk, sp) = some (nI t2, 133, nI δ, 1, mf t2, nI q2, sk2, sp2) := by
                  show f_Re_readTwoSums N1 (f_Re_parse N1 xk xs xn xw xec xew xtc xtw DX) (nI (t + 1)) (xk (t + 1)) (nI δ) e ep xk xs xn xw (nI q) sk sp xec xew xtc xtw = _
                  unfold f_Re_readTwoSums
                  simp only [hx1, if_true, d1, oB_s, if_neg n10, x1, ex1, x2, ex2, nI_pred]
                have eN : f_M_parse N2 mk mv (DM + 1) 7 23 0 (nI t, nI δ, mm, nI q, mo, mw, ma) = some (0, nI t2, nI (δ + 1), mm2, nI q2, mo2, mw2, ma2) := by
                  show f_M_isOfTwo N2 (f_M_parse N2 mk mv DM) (nI t) (nI δ) mk mm mv (nI q) mo mw ma 23 = _
                  unfold f_M_isOfTwo
                  simp only [← nI_succ, d2, oB_s, if_neg n10, m1, ea1, m2, cl2, if_true]
                obtain ⟨z1, z2, z3, z4⟩ := addSome (nI q2) sk2 sp2 223 0
                have eX : f_Re_readValue N1 (f_Re_parse N1 xk xs xn xw xec xew xtc xtw (DX + 1)) (nI t) (xk t) (nI δ) e ep xk xs xn xw (nI q) sk sp xec xew xtc xtw = some (nI t2, 133, nI δ, 1, mf t2, z1, z2, z3) := by
                  unfold f_Re_readValue
                  simp only [hx, if_neg (show ¬ (223 : Int32) = 40 by decide), if_neg (show ¬ (223 : Int32) = 45 by decide), if_neg (show ¬ (223 : Int32) = 131 by decide), if_neg (show ¬ (223 : Int32) = 210 by decide), if_neg (show ¬ (223 : Int32) = 211 by decide), if_neg (show ¬ (223 : Int32) = 212 by decide), if_neg (show ¬ (223 : Int32) = 214 by decide), if_neg (show ¬ (223 : Int32) = 215 by decide), if_neg (show ¬ (223 : Int32) = 224 by decide), if_true, adv H ht, oB_s, eR, z4]
                have eM : f_M_isValue N2 (f_M_parse N2 mk mv (DM + 1)) (nI t) (nI δ) mk mm mv (nI q) mo mw ma = some (0, nI t2, nI (δ + 1), mm2, nI q2, mo2, mw2, ma2) := by
                  unfold f_M_isValue
                  simp only [g1, g2, hk, if_neg (show ¬ (23 : Int32) = 45 by decide), if_neg (show ¬ (23 : Int32) = 40 by decide), if_neg (show ¬ (23 : Int32) = 24 by decide), if_neg (show ¬ (23 : Int32) = 14 by decide), if_neg (show ¬ (23 : Int32) = 15 by decide), if_neg (show ¬ (23 : Int32) = 31 by decide), if_true, eN, oB_s, zb0]
                
                rw [eX, eM]
                exact out_fail hT2
            · have ex2 := expectF2 (xk := xk) (xs := xs) a (mf t2) 41 (by decide)
              have eR : f_Re_parse N1 xk xs xn xw xec xew xtc xtw (DX + 1) 7 0 0 (nI (t + 1), xk (t + 1), nI δ, e, ep, nI q, sk, sp) = some (a, 133, dp - 1, 1, mf t2, sc, sk2, sp2) := by
                show f_Re_readTwoSums N1 (f_Re_parse N1 xk xs xn xw xec xew xtc xtw DX) (nI (t + 1)) (xk (t + 1)) (nI δ) e ep xk xs xn xw (nI q) sk sp xec xew xtc xtw = _
                unfold f_Re_readTwoSums
                simp only [hx1, if_true, d1, oB_s, if_neg n10, x1, ex1, x2, ex2]
              have eN : f_M_parse N2 mk mv (DM + 1) 7 23 0 (nI t, nI δ, mm, nI q, mo, mw, ma) = some (0, nI t2, dm, mm2, q2, mo2, mw2, ma2) := by
                show f_M_isOfTwo N2 (f_M_parse N2 mk mv DM) (nI t) (nI δ) mk mm mv (nI q) mo mw ma 23 = _
                unfold f_M_isOfTwo
                simp only [← nI_succ, d2, oB_s, if_neg n10, m1, ea1, m2, if_true]
              obtain ⟨z1, z2, z3, z4⟩ := addSome sc sk2 sp2 223 0
              have eX : f_Re_readValue N1 (f_Re_parse N1 xk xs xn xw xec xew xtc xtw (DX + 1)) (nI t) (xk t) (nI δ) e ep xk xs xn xw (nI q) sk sp xec xew xtc xtw = some (a, 133, dp - 1, 1, mf t2, z1, z2, z3) := by
                unfold f_Re_readValue
                simp only [hx, if_neg (show ¬ (223 : Int32) = 40 by decide), if_neg (show ¬ (223 : Int32) = 45 by decide), if_neg (show ¬ (223 : Int32) = 131 by decide), if_neg (show ¬ (223 : Int32) = 210 by decide), if_neg (show ¬ (223 : Int32) = 211 by decide), if_neg (show ¬ (223 : Int32) = 212 by decide), if_neg (show ¬ (223 : Int32) = 214 by decide), if_neg (show ¬ (223 : Int32) = 215 by decide), if_neg (show ¬ (223 : Int32) = 224 by decide), if_true, adv H ht, oB_s, eR, z4]
              have eM : f_M_isValue N2 (f_M_parse N2 mk mv (DM + 1)) (nI t) (nI δ) mk mm mv (nI q) mo mw ma = some (0, nI t2, dm, mm2, q2, mo2, mw2, ma2) := by
                unfold f_M_isValue
                simp only [g1, g2, hk, if_neg (show ¬ (23 : Int32) = 45 by decide), if_neg (show ¬ (23 : Int32) = 40 by decide), if_neg (show ¬ (23 : Int32) = 24 by decide), if_neg (show ¬ (23 : Int32) = 14 by decide), if_neg (show ¬ (23 : Int32) = 15 by decide), if_neg (show ¬ (23 : Int32) = 31 by decide), if_true, eN, oB_s, zb0]
              
              rw [eX, eM]
              exact out_fail l4
          · have hxc : ¬ xk t1 = 44 := by rw [c1]; exact fun h9 => hc ((km_all _ c2).2.2.2.2.2.1.mp h9)
            have ex1 := expectF (e := e1) (ep := ep1) H hT1 hxc (err1 T1.2.2.1)
            have ea1 := eat_n H hT1 hc
            obtain ⟨a2', d2', s2', k2', p2', x2⟩ := failX (xk := xk) (xs := xs) (xn := xn) (xw := xw) (xec := xec) (xew := xew) (xtc := xtc) (xtw := xtw) (N := N1) (by omega) (mf t1) DX 4 (by decide) (show 3 ≤ DX by omega) (nI t1) (nI (δ + 1)) (nI q1) sk1 sp1
            have ex2 := expectF2 (xk := xk) (xs := xs) a2' (mf t1) 41 (by decide)
            have eR : f_Re_parse N1 xk xs xn xw xec xew xtc xtw (DX + 1) 7 0 0 (nI (t + 1), xk (t + 1), nI δ, e, ep, nI q, sk, sp) = some (a2', 133, d2' - 1, 1, mf t1, s2', k2', p2') := by
              show f_Re_readTwoSums N1 (f_Re_parse N1 xk xs xn xw xec xew xtc xtw DX) (nI (t + 1)) (xk (t + 1)) (nI δ) e ep xk xs xn xw (nI q) sk sp xec xew xtc xtw = _
              unfold f_Re_readTwoSums
              simp only [hx1, if_true, d1, oB_s, if_neg n10, x1, ex1, x2, ex2]
            have eN : f_M_parse N2 mk mv (DM + 1) 7 23 0 (nI t, nI δ, mm, nI q, mo, mw, ma) = some (0, nI t1, nI (δ + 1), mm1, nI q1, mo1, mw1, ma1) := by
              show f_M_isOfTwo N2 (f_M_parse N2 mk mv DM) (nI t) (nI δ) mk mm mv (nI q) mo mw ma 23 = _
              unfold f_M_isOfTwo
              simp only [← nI_succ, d2, oB_s, if_neg n10, m1, ea1, if_true]
            obtain ⟨z1, z2, z3, z4⟩ := addSome s2' k2' p2' 223 0
            have eX : f_Re_readValue N1 (f_Re_parse N1 xk xs xn xw xec xew xtc xtw (DX + 1)) (nI t) (xk t) (nI δ) e ep xk xs xn xw (nI q) sk sp xec xew xtc xtw = some (a2', 133, d2' - 1, 1, mf t1, z1, z2, z3) := by
              unfold f_Re_readValue
              simp only [hx, if_neg (show ¬ (223 : Int32) = 40 by decide), if_neg (show ¬ (223 : Int32) = 45 by decide), if_neg (show ¬ (223 : Int32) = 131 by decide), if_neg (show ¬ (223 : Int32) = 210 by decide), if_neg (show ¬ (223 : Int32) = 211 by decide), if_neg (show ¬ (223 : Int32) = 212 by decide), if_neg (show ¬ (223 : Int32) = 214 by decide), if_neg (show ¬ (223 : Int32) = 215 by decide), if_neg (show ¬ (223 : Int32) = 224 by decide), if_true, adv H ht, oB_s, eR, z4]
            have eM : f_M_isValue N2 (f_M_parse N2 mk mv (DM + 1)) (nI t) (nI δ) mk mm mv (nI q) mo mw ma = some (0, nI t1, nI (δ + 1), mm1, nI q1, mo1, mw1, ma1) := by
              unfold f_M_isValue
              simp only [g1, g2, hk, if_neg (show ¬ (23 : Int32) = 45 by decide), if_neg (show ¬ (23 : Int32) = 40 by decide), if_neg (show ¬ (23 : Int32) = 24 by decide), if_neg (show ¬ (23 : Int32) = 14 by decide), if_neg (show ¬ (23 : Int32) = 15 by decide), if_neg (show ¬ (23 : Int32) = 31 by decide), if_true, eN, oB_s, zb0]
            
            rw [eX, eM]
            exact out_fail hT1
        · have ex1 := expectF2 (xk := xk) (xs := xs) a (mf t1) 44 (by decide)
          obtain ⟨a2', d2', s2', k2', p2', x2⟩ := failX (xk := xk) (xs := xs) (xn := xn) (xw := xw) (xec := xec) (xew := xew) (xtc := xtc) (xtw := xtw) (N := N1) (by omega) (mf t1) DX 4 (by decide) (show 3 ≤ DX by omega) a dp sc sk1 sp1
          have ex2 := expectF2 (xk := xk) (xs := xs) a2' (mf t1) 41 (by decide)
          have eR : f_Re_parse N1 xk xs xn xw xec xew xtc xtw (DX + 1) 7 0 0 (nI (t + 1), xk (t + 1), nI δ, e, ep, nI q, sk, sp) = some (a2', 133, d2' - 1, 1, mf t1, s2', k2', p2') := by
            show f_Re_readTwoSums N1 (f_Re_parse N1 xk xs xn xw xec xew xtc xtw DX) (nI (t + 1)) (xk (t + 1)) (nI δ) e ep xk xs xn xw (nI q) sk sp xec xew xtc xtw = _
            unfold f_Re_readTwoSums
            simp only [hx1, if_true, d1, oB_s, if_neg n10, x1, ex1, x2, ex2]
          have eN : f_M_parse N2 mk mv (DM + 1) 7 23 0 (nI t, nI δ, mm, nI q, mo, mw, ma) = some (0, nI t1, dm, mm1, q1, mo1, mw1, ma1) := by
            show f_M_isOfTwo N2 (f_M_parse N2 mk mv DM) (nI t) (nI δ) mk mm mv (nI q) mo mw ma 23 = _
            unfold f_M_isOfTwo
            simp only [← nI_succ, d2, oB_s, if_neg n10, m1, if_true]
          obtain ⟨z1, z2, z3, z4⟩ := addSome s2' k2' p2' 223 0
          have eX : f_Re_readValue N1 (f_Re_parse N1 xk xs xn xw xec xew xtc xtw (DX + 1)) (nI t) (xk t) (nI δ) e ep xk xs xn xw (nI q) sk sp xec xew xtc xtw = some (a2', 133, d2' - 1, 1, mf t1, z1, z2, z3) := by
            unfold f_Re_readValue
            simp only [hx, if_neg (show ¬ (223 : Int32) = 40 by decide), if_neg (show ¬ (223 : Int32) = 45 by decide), if_neg (show ¬ (223 : Int32) = 131 by decide), if_neg (show ¬ (223 : Int32) = 210 by decide), if_neg (show ¬ (223 : Int32) = 211 by decide), if_neg (show ¬ (223 : Int32) = 212 by decide), if_neg (show ¬ (223 : Int32) = 214 by decide), if_neg (show ¬ (223 : Int32) = 215 by decide), if_neg (show ¬ (223 : Int32) = 224 by decide), if_true, adv H ht, oB_s, eR, z4]
          have eM : f_M_isValue N2 (f_M_parse N2 mk mv (DM + 1)) (nI t) (nI δ) mk mm mv (nI q) mo mw ma = some (0, nI t1, dm, mm1, q1, mo1, mw1, ma1) := by
            unfold f_M_isValue
            simp only [g1, g2, hk, if_neg (show ¬ (23 : Int32) = 45 by decide), if_neg (show ¬ (23 : Int32) = 40 by decide), if_neg (show ¬ (23 : Int32) = 24 by decide), if_neg (show ¬ (23 : Int32) = 14 by decide), if_neg (show ¬ (23 : Int32) = 15 by decide), if_neg (show ¬ (23 : Int32) = 31 by decide), if_true, eN, oB_s, zb0]
          
          rw [eX, eM]
          exact out_fail l1
    · have hx1 : ¬ xk (t + 1) = 40 := by rw [b1]; exact fun h9 => hk1 ((km_all _ b2).1.mp h9)
      have de : f_M_deeper (nI (t + 1)) (nI δ) mk 40 = some (0, nI (t + 1), nI δ) := by
        unfold f_M_deeper
        rw [eat_n H (by omega) hk1, oB_s, if_pos rfl]
        split
        · rfl
        · rfl
      have fa := failAt (e := e) (ep := ep) H (show t + 1 ≤ T by omega) (xk (t + 1)) he1
      have eR : f_Re_parse N1 xk xs xn xw xec xew xtc xtw (DX + 1) 7 0 0 (nI (t + 1), xk (t + 1), nI δ, e, ep, nI q, sk, sp) = some (nI (t + 1), 133, nI δ, 1, mf (t + 1), nI q, sk, sp) := by
        show f_Re_readTwoSums N1 (f_Re_parse N1 xk xs xn xw xec xew xtc xtw DX) (nI (t + 1)) (xk (t + 1)) (nI δ) e ep xk xs xn xw (nI q) sk sp xec xew xtc xtw = _
        unfold f_Re_readTwoSums
        simp only [if_neg hx1, fa, oB_s]
      have eN : f_M_parse N2 mk mv (DM + 1) 7 23 0 (nI t, nI δ, mm, nI q, mo, mw, ma) = some (0, nI (t + 1), nI δ, mm, nI q, mo, mw, ma) := by
        show f_M_isOfTwo N2 (f_M_parse N2 mk mv DM) (nI t) (nI δ) mk mm mv (nI q) mo mw ma 23 = _
        unfold f_M_isOfTwo
        simp only [← nI_succ, de, oB_s, if_true]
      obtain ⟨z1, z2, z3, z4⟩ := addSome (nI q) sk sp 223 0
      have eX : f_Re_readValue N1 (f_Re_parse N1 xk xs xn xw xec xew xtc xtw (DX + 1)) (nI t) (xk t) (nI δ) e ep xk xs xn xw (nI q) sk sp xec xew xtc xtw = some (nI (t + 1), 133, nI δ, 1, mf (t + 1), z1, z2, z3) := by
        unfold f_Re_readValue
        simp only [hx, if_neg (show ¬ (223 : Int32) = 40 by decide), if_neg (show ¬ (223 : Int32) = 45 by decide), if_neg (show ¬ (223 : Int32) = 131 by decide), if_neg (show ¬ (223 : Int32) = 210 by decide), if_neg (show ¬ (223 : Int32) = 211 by decide), if_neg (show ¬ (223 : Int32) = 212 by decide), if_neg (show ¬ (223 : Int32) = 214 by decide), if_neg (show ¬ (223 : Int32) = 215 by decide), if_neg (show ¬ (223 : Int32) = 224 by decide), if_true, adv H ht, oB_s, eR, z4]
      have eM : f_M_isValue N2 (f_M_parse N2 mk mv (DM + 1)) (nI t) (nI δ) mk mm mv (nI q) mo mw ma = some (0, nI (t + 1), nI δ, mm, nI q, mo, mw, ma) := by
        unfold f_M_isValue
        simp only [g1, g2, hk, if_neg (show ¬ (23 : Int32) = 45 by decide), if_neg (show ¬ (23 : Int32) = 40 by decide), if_neg (show ¬ (23 : Int32) = 24 by decide), if_neg (show ¬ (23 : Int32) = 14 by decide), if_neg (show ¬ (23 : Int32) = 15 by decide), if_neg (show ¬ (23 : Int32) = 31 by decide), if_true, eN, oB_s, zb0]
      
      rw [eX, eM]
      exact out_fail (by omega)
  have n23 := hk
  clear hk
  by_cases hk : mk t = 24
  · have hx : xk t = 224 := by rw [a1]; exact (km_all2 _ a2).2.2.2.2.2.2.2.2.2.2.2.2.2.2.2.mpr hk
    have ht : t < T := tk_lt H hT (by rw [hk]; decide) (by rw [hk]; decide)
    have hq4 : q < 400 := by omega
    have En := err_skip hq ht hTS.2.2.1 (hz t (Nat.le_refl _) (by omega))
    obtain ⟨b1, b2, -⟩ := H.2.1 (t + 1) (by omega)
    have hz1 := hz
    by_cases hk1 : mk (t + 1) = 40
    · have hx1 : xk (t + 1) = 40 := by rw [b1]; exact (km_all _ b2).1.mpr hk1
      have ht1 : t + 1 < T := tk_lt H (by omega) (by rw [hk1]; decide) (by rw [hk1]; decide)
      by_cases hδ8 : δ = 8
      · subst hδ8
        obtain ⟨d1, d2⟩ := deep_n (e := e) (ep := ep) (p := 40) H (show t + 1 ≤ T by omega) he1
        rw [hx1] at d1
        have eR : f_Re_parse N1 xk xs xn xw xec xew xtc xtw (DX + 1) 7 0 0 (nI (t + 1), xk (t + 1), nI 8, e, ep, nI q, sk, sp) = some (nI (t + 1), 133, nI 8, 1, mf (t + 1), nI q, sk, sp) := by
          show f_Re_readTwoSums N1 (f_Re_parse N1 xk xs xn xw xec xew xtc xtw DX) (nI (t + 1)) (xk (t + 1)) (nI 8) e ep xk xs xn xw (nI q) sk sp xec xew xtc xtw = _
          unfold f_Re_readTwoSums
          simp only [hx1, if_true, d1, oB_s]
        have eN : f_M_parse N2 mk mv (DM + 1) 7 24 0 (nI t, nI 8, mm, nI q, mo, mw, ma) = some (0, nI (t + 1), nI 8, mm, nI q, mo, mw, ma) := by
          show f_M_isOfTwo N2 (f_M_parse N2 mk mv (DM + 1)) (nI t) (nI 8) mk mm mv (nI q) mo mw ma 24 = _
          unfold f_M_isOfTwo
          simp only [← nI_succ, d2, oB_s, if_true]
        obtain ⟨z1, z2, z3, z4⟩ := addSome (nI q) sk sp 224 0
        have eX : f_Re_readValue N1 (f_Re_parse N1 xk xs xn xw xec xew xtc xtw (DX + 1)) (nI t) (xk t) (nI 8) e ep xk xs xn xw (nI q) sk sp xec xew xtc xtw = some (nI (t + 1), 133, nI 8, 1, mf (t + 1), z1, z2, z3) := by
          unfold f_Re_readValue
          simp only [hx, if_neg (show ¬ (224 : Int32) = 40 by decide), if_neg (show ¬ (224 : Int32) = 45 by decide), if_neg (show ¬ (224 : Int32) = 131 by decide), if_neg (show ¬ (224 : Int32) = 210 by decide), if_neg (show ¬ (224 : Int32) = 211 by decide), if_neg (show ¬ (224 : Int32) = 212 by decide), if_neg (show ¬ (224 : Int32) = 214 by decide), if_neg (show ¬ (224 : Int32) = 215 by decide), if_neg (show ¬ (224 : Int32) = 223 by decide), if_true, adv H ht, oB_s, eR, z4]
        have eM : f_M_isValue N2 (f_M_parse N2 mk mv (DM + 1)) (nI t) (nI 8) mk mm mv (nI q) mo mw ma = some (0, nI (t + 1), nI 8, mm, nI q, mo, mw, ma) := by
          unfold f_M_isValue
          simp only [g1, g2, hk, if_neg (show ¬ (24 : Int32) = 45 by decide), if_neg (show ¬ (24 : Int32) = 40 by decide), if_neg (show ¬ (24 : Int32) = 23 by decide), if_neg (show ¬ (24 : Int32) = 14 by decide), if_neg (show ¬ (24 : Int32) = 15 by decide), if_neg (show ¬ (24 : Int32) = 31 by decide), if_true, eN, oB_s, zb0]
        
        rw [eX, eM]
        exact out_fail (by omega)
      · obtain ⟨d1, d2⟩ := deep_y (e := e) (ep := ep) H ht1 (show δ < 8 by omega) hk1
        rw [hx1] at d1
        rcases H4' (δ + 1) DX DM (by omega) (by omega) (by omega) (by omega) (t + 1 + 1) q e ep mm who sk sp mo mw ma (ts_next hq H4 (ts_next hq H4 hTS ht) ht1) with ⟨t1, q1, e1, ep1, mm1, who1, sk1, sp1, mo1, mw1, ma1, x1, m1, T1, l1, l2, l3, ty1, fr1⟩ | ⟨t1, a, dp, sc, sk1, sp1, dm, mm1, q1, mo1, mw1, ma1, x1, m1, l1⟩
        · have hT1 := T1.1
          obtain ⟨c1, c2, -⟩ := H.2.1 t1 hT1
          by_cases hc : mk t1 = 44
          · have hxc : xk t1 = 44 := by rw [c1]; exact (km_all _ c2).2.2.2.2.2.1.mpr hc
            have htc : t1 < T := tk_lt H hT1 (by rw [hc]; decide) (by rw [hc]; decide)
            have ex1 := expectY (e := e1) (ep := ep1) H htc hxc
            have ea1 := eat_y H hT1 hc
            rcases H4' (δ + 1) DX DM (by omega) (by omega) (by omega) (by omega) (t1 + 1) q1 e1 ep1 mm1 who1 sk1 sp1 mo1 mw1 ma1 (ts_next hq H4 T1 htc) with ⟨t2, q2, e2, ep2, mm2, who2, sk2, sp2, mo2, mw2, ma2, x2, m2, T2, l4, l5, l6, ty2, fr2⟩ | ⟨t2, a, dp, sc, sk2, sp2, dm, mm2, q2, mo2, mw2, ma2, x2, m2, l4⟩
            · have hT2 := T2.1
              have hqq := T1.2.1
              obtain ⟨f1, f2, -⟩ := H.2.1 t2 hT2
              by_cases hc2 : mk t2 = 41
              · have hxc2 : xk t2 = 41 := by rw [f1]; exact (km_all _ f2).2.1.mpr hc2
                have htc2 : t2 < T := tk_lt H hT2 (by rw [hc2]; decide) (by rw [hc2]; decide)
                have ex2 := expectY (e := e2) (ep := ep2) H htc2 hxc2
                have cl2 := close_y (δ := δ) H hT2 hc2
                have hq2 : q2 < 400 := by omega
                have eR : f_Re_parse N1 xk xs xn xw xec xew xtc xtw (DX + 1) 7 0 0 (nI (t + 1), xk (t + 1), nI δ, e, ep, nI q, sk, sp) = some (nI (t2 + 1), xk (t2 + 1), nI δ, e2, ep2, nI q2, sk2, sp2) := by
                  show f_Re_readTwoSums N1 (f_Re_parse N1 xk xs xn xw xec xew xtc xtw DX) (nI (t + 1)) (xk (t + 1)) (nI δ) e ep xk xs xn xw (nI q) sk sp xec xew xtc xtw = _
                  unfold f_Re_readTwoSums
                  simp only [hx1, if_true, d1, oB_s, if_neg n10, x1, ex1, x2, ex2, nI_pred]
                have eN : f_M_parse N2 mk mv (DM + 1) 7 24 0 (nI t, nI δ, mm, nI q, mo, mw, ma) = some (1, nI (t2 + 1), nI δ, mm2, nI (q2 + 1), upd mo2 q2 24, upd mw2 q2 0, ma2) := by
                  show f_M_isOfTwo N2 (f_M_parse N2 mk mv DM) (nI t) (nI δ) mk mm mv (nI q) mo mw ma 24 = _
                  unfold f_M_isOfTwo
                  simp only [← nI_succ, d2, oB_s, if_neg n10, m1, ea1, m2, cl2, put_y hq2]
                have eX : f_Re_readValue N1 (f_Re_parse N1 xk xs xn xw xec xew xtc xtw (DX + 1)) (nI t) (xk t) (nI δ) e ep xk xs xn xw (nI q) sk sp xec xew xtc xtw = some (nI (t2 + 1), xk (t2 + 1), nI δ, e2, ep2, nI (q2 + 1), upd sk2 q2 224, upd sp2 q2 0) := by
                  unfold f_Re_readValue
                  simp only [hx, if_neg (show ¬ (224 : Int32) = 40 by decide), if_neg (show ¬ (224 : Int32) = 45 by decide), if_neg (show ¬ (224 : Int32) = 131 by decide), if_neg (show ¬ (224 : Int32) = 210 by decide), if_neg (show ¬ (224 : Int32) = 211 by decide), if_neg (show ¬ (224 : Int32) = 212 by decide), if_neg (show ¬ (224 : Int32) = 214 by decide), if_neg (show ¬ (224 : Int32) = 215 by decide), if_neg (show ¬ (224 : Int32) = 223 by decide), if_true, adv H ht, oB_s, eR, add_y hq2]
                have eM : f_M_isValue N2 (f_M_parse N2 mk mv (DM + 1)) (nI t) (nI δ) mk mm mv (nI q) mo mw ma = some (1, nI (t2 + 1), nI δ, mm2, nI (q2 + 1), upd mo2 q2 24, upd mw2 q2 0, ma2) := by
                  unfold f_M_isValue
                  simp only [g1, g2, hk, if_neg (show ¬ (24 : Int32) = 45 by decide), if_neg (show ¬ (24 : Int32) = 40 by decide), if_neg (show ¬ (24 : Int32) = 23 by decide), if_neg (show ¬ (24 : Int32) = 14 by decide), if_neg (show ¬ (24 : Int32) = 15 by decide), if_neg (show ¬ (24 : Int32) = 31 by decide), if_true, eN, oB_s, zb1]
                
                rw [eX, eM]
                have T2n := ts_next hq H4 T2 htc2
                exact Or.inl ⟨t2 + 1, q2 + 1, e2, ep2, mm2, who2, _, _, _, _, ma2, rfl, rfl, ts_push H4 T2n (Nat.le_refl _) (by omega) T2n.1 T2n.2.2.1 T2n.2.2.2.1 (fun h0 => ⟨h0, fun _ _ => rfl, ⟨Or.inr (Or.inr (Or.inr (by unfold SB; decide))), fun h9 => absurd h9 (by decide), fun h9 => absurd h9 (by decide)⟩⟩) (fun _ _ => rfl), by omega, by omega, by omega, ty_bin l2 l5 ty1 ty2 fr2 (fun _ => rfl), fun i hi => by rw [upd_lt (show i < q2 by omega), fr2 i (by omega)]; exact fr1 i hi⟩
              · have hxc2 : ¬ xk t2 = 41 := by rw [f1]; exact fun h9 => hc2 ((km_all _ f2).2.1.mp h9)
                have ex2 := expectF (e := e2) (ep := ep2) H hT2 hxc2 (err1 T2.2.2.1)
                have cl2 := close_n (δ := δ + 1) H hT2 hc2
                have eR : f_Re_parse N1 xk xs xn xw xec xew xtc xtw (DX + 1) 7 0 0 (nI (t + 1), xk (t + 1), nI δ, e, ep, nI q, sk, sp) = some (nI t2, 133, nI δ, 1, mf t2, nI q2, sk2, sp2) := by
                  show f_Re_readTwoSums N1 (f_Re_parse N1 xk xs xn xw xec xew xtc xtw DX) (nI (t + 1)) (xk (t + 1)) (nI δ) e ep xk xs xn xw (nI q) sk sp xec xew xtc xtw = _
                  unfold f_Re_readTwoSums
                  simp only [hx1, if_true, d1, oB_s, if_neg n10, x1, ex1, x2, ex2, nI_pred]
                have eN : f_M_parse N2 mk mv (DM + 1) 7 24 0 (nI t, nI δ, mm, nI q, mo, mw, ma) = some (0, nI t2, nI (δ + 1), mm2, nI q2, mo2, mw2, ma2) := by
                  show f_M_isOfTwo N2 (f_M_parse N2 mk mv DM) (nI t) (nI δ) mk mm mv (nI q) mo mw ma 24 = _
                  unfold f_M_isOfTwo
                  simp only [← nI_succ, d2, oB_s, if_neg n10, m1, ea1, m2, cl2, if_true]
                obtain ⟨z1, z2, z3, z4⟩ := addSome (nI q2) sk2 sp2 224 0
                have eX : f_Re_readValue N1 (f_Re_parse N1 xk xs xn xw xec xew xtc xtw (DX + 1)) (nI t) (xk t) (nI δ) e ep xk xs xn xw (nI q) sk sp xec xew xtc xtw = some (nI t2, 133, nI δ, 1, mf t2, z1, z2, z3) := by
                  unfold f_Re_readValue
                  simp only [hx, if_neg (show ¬ (224 : Int32) = 40 by decide), if_neg (show ¬ (224 : Int32) = 45 by decide), if_neg (show ¬ (224 : Int32) = 131 by decide), if_neg (show ¬ (224 : Int32) = 210 by decide), if_neg (show ¬ (224 : Int32) = 211 by decide), if_neg (show ¬ (224 : Int32) = 212 by decide), if_neg (show ¬ (224 : Int32) = 214 by decide), if_neg (show ¬ (224 : Int32) = 215 by decide), if_neg (show ¬ (224 : Int32) = 223 by decide), if_true, adv H ht, oB_s, eR, z4]
                have eM : f_M_isValue N2 (f_M_parse N2 mk mv (DM + 1)) (nI t) (nI δ) mk mm mv (nI q) mo mw ma = some (0, nI t2, nI (δ + 1), mm2, nI q2, mo2, mw2, ma2) := by
                  unfold f_M_isValue
                  simp only [g1, g2, hk, if_neg (show ¬ (24 : Int32) = 45 by decide), if_neg (show ¬ (24 : Int32) = 40 by decide), if_neg (show ¬ (24 : Int32) = 23 by decide), if_neg (show ¬ (24 : Int32) = 14 by decide), if_neg (show ¬ (24 : Int32) = 15 by decide), if_neg (show ¬ (24 : Int32) = 31 by decide), if_true, eN, oB_s, zb0]
                
                rw [eX, eM]
                exact out_fail hT2
            · have ex2 := expectF2 (xk := xk) (xs := xs) a (mf t2) 41 (by decide)
              have eR : f_Re_parse N1 xk xs xn xw xec xew xtc xtw (DX + 1) 7 0 0 (nI (t + 1), xk (t + 1), nI δ, e, ep, nI q, sk, sp) = some (a, 133, dp - 1, 1, mf t2, sc, sk2, sp2) := by
                show f_Re_readTwoSums N1 (f_Re_parse N1 xk xs xn xw xec xew xtc xtw DX) (nI (t + 1)) (xk (t + 1)) (nI δ) e ep xk xs xn xw (nI q) sk sp xec xew xtc xtw = _
                unfold f_Re_readTwoSums
                simp only [hx1, if_true, d1, oB_s, if_neg n10, x1, ex1, x2, ex2]
              have eN : f_M_parse N2 mk mv (DM + 1) 7 24 0 (nI t, nI δ, mm, nI q, mo, mw, ma) = some (0, nI t2, dm, mm2, q2, mo2, mw2, ma2) := by
                show f_M_isOfTwo N2 (f_M_parse N2 mk mv DM) (nI t) (nI δ) mk mm mv (nI q) mo mw ma 24 = _
                unfold f_M_isOfTwo
                simp only [← nI_succ, d2, oB_s, if_neg n10, m1, ea1, m2, if_true]
              obtain ⟨z1, z2, z3, z4⟩ := addSome sc sk2 sp2 224 0
              have eX : f_Re_readValue N1 (f_Re_parse N1 xk xs xn xw xec xew xtc xtw (DX + 1)) (nI t) (xk t) (nI δ) e ep xk xs xn xw (nI q) sk sp xec xew xtc xtw = some (a, 133, dp - 1, 1, mf t2, z1, z2, z3) := by
                unfold f_Re_readValue
                simp only [hx, if_neg (show ¬ (224 : Int32) = 40 by decide), if_neg (show ¬ (224 : Int32) = 45 by decide), if_neg (show ¬ (224 : Int32) = 131 by decide), if_neg (show ¬ (224 : Int32) = 210 by decide), if_neg (show ¬ (224 : Int32) = 211 by decide), if_neg (show ¬ (224 : Int32) = 212 by decide), if_neg (show ¬ (224 : Int32) = 214 by decide), if_neg (show ¬ (224 : Int32) = 215 by decide), if_neg (show ¬ (224 : Int32) = 223 by decide), if_true, adv H ht, oB_s, eR, z4]
              have eM : f_M_isValue N2 (f_M_parse N2 mk mv (DM + 1)) (nI t) (nI δ) mk mm mv (nI q) mo mw ma = some (0, nI t2, dm, mm2, q2, mo2, mw2, ma2) := by
                unfold f_M_isValue
                simp only [g1, g2, hk, if_neg (show ¬ (24 : Int32) = 45 by decide), if_neg (show ¬ (24 : Int32) = 40 by decide), if_neg (show ¬ (24 : Int32) = 23 by decide), if_neg (show ¬ (24 : Int32) = 14 by decide), if_neg (show ¬ (24 : Int32) = 15 by decide), if_neg (show ¬ (24 : Int32) = 31 by decide), if_true, eN, oB_s, zb0]
              
              rw [eX, eM]
              exact out_fail l4
          · have hxc : ¬ xk t1 = 44 := by rw [c1]; exact fun h9 => hc ((km_all _ c2).2.2.2.2.2.1.mp h9)
            have ex1 := expectF (e := e1) (ep := ep1) H hT1 hxc (err1 T1.2.2.1)
            have ea1 := eat_n H hT1 hc
            obtain ⟨a2', d2', s2', k2', p2', x2⟩ := failX (xk := xk) (xs := xs) (xn := xn) (xw := xw) (xec := xec) (xew := xew) (xtc := xtc) (xtw := xtw) (N := N1) (by omega) (mf t1) DX 4 (by decide) (show 3 ≤ DX by omega) (nI t1) (nI (δ + 1)) (nI q1) sk1 sp1
            have ex2 := expectF2 (xk := xk) (xs := xs) a2' (mf t1) 41 (by decide)
            have eR : f_Re_parse N1 xk xs xn xw xec xew xtc xtw (DX + 1) 7 0 0 (nI (t + 1), xk (t + 1), nI δ, e, ep, nI q, sk, sp) = some (a2', 133, d2' - 1, 1, mf t1, s2', k2', p2') := by
              show f_Re_readTwoSums N1 (f_Re_parse N1 xk xs xn xw xec xew xtc xtw DX) (nI (t + 1)) (xk (t + 1)) (nI δ) e ep xk xs xn xw (nI q) sk sp xec xew xtc xtw = _
              unfold f_Re_readTwoSums
              simp only [hx1, if_true, d1, oB_s, if_neg n10, x1, ex1, x2, ex2]
            have eN : f_M_parse N2 mk mv (DM + 1) 7 24 0 (nI t, nI δ, mm, nI q, mo, mw, ma) = some (0, nI t1, nI (δ + 1), mm1, nI q1, mo1, mw1, ma1) := by
              show f_M_isOfTwo N2 (f_M_parse N2 mk mv DM) (nI t) (nI δ) mk mm mv (nI q) mo mw ma 24 = _
              unfold f_M_isOfTwo
              simp only [← nI_succ, d2, oB_s, if_neg n10, m1, ea1, if_true]
            obtain ⟨z1, z2, z3, z4⟩ := addSome s2' k2' p2' 224 0
            have eX : f_Re_readValue N1 (f_Re_parse N1 xk xs xn xw xec xew xtc xtw (DX + 1)) (nI t) (xk t) (nI δ) e ep xk xs xn xw (nI q) sk sp xec xew xtc xtw = some (a2', 133, d2' - 1, 1, mf t1, z1, z2, z3) := by
              unfold f_Re_readValue
              simp only [hx, if_neg (show ¬ (224 : Int32) = 40 by decide), if_neg (show ¬ (224 : Int32) = 45 by decide), if_neg (show ¬ (224 : Int32) = 131 by decide), if_neg (show ¬ (224 : Int32) = 210 by decide), if_neg (show ¬ (224 : Int32) = 211 by decide), if_neg (show ¬ (224 : Int32) = 212 by decide), if_neg (show ¬ (224 : Int32) = 214 by decide), if_neg (show ¬ (224 : Int32) = 215 by decide), if_neg (show ¬ (224 : Int32) = 223 by decide), if_true, adv H ht, oB_s, eR, z4]
            have eM : f_M_isValue N2 (f_M_parse N2 mk mv (DM + 1)) (nI t) (nI δ) mk mm mv (nI q) mo mw ma = some (0, nI t1, nI (δ + 1), mm1, nI q1, mo1, mw1, ma1) := by
              unfold f_M_isValue
              simp only [g1, g2, hk, if_neg (show ¬ (24 : Int32) = 45 by decide), if_neg (show ¬ (24 : Int32) = 40 by decide), if_neg (show ¬ (24 : Int32) = 23 by decide), if_neg (show ¬ (24 : Int32) = 14 by decide), if_neg (show ¬ (24 : Int32) = 15 by decide), if_neg (show ¬ (24 : Int32) = 31 by decide), if_true, eN, oB_s, zb0]
            
            rw [eX, eM]
            exact out_fail hT1
        · have ex1 := expectF2 (xk := xk) (xs := xs) a (mf t1) 44 (by decide)
          obtain ⟨a2', d2', s2', k2', p2', x2⟩ := failX (xk := xk) (xs := xs) (xn := xn) (xw := xw) (xec := xec) (xew := xew) (xtc := xtc) (xtw := xtw) (N := N1) (by omega) (mf t1) DX 4 (by decide) (show 3 ≤ DX by omega) a dp sc sk1 sp1
          have ex2 := expectF2 (xk := xk) (xs := xs) a2' (mf t1) 41 (by decide)
          have eR : f_Re_parse N1 xk xs xn xw xec xew xtc xtw (DX + 1) 7 0 0 (nI (t + 1), xk (t + 1), nI δ, e, ep, nI q, sk, sp) = some (a2', 133, d2' - 1, 1, mf t1, s2', k2', p2') := by
            show f_Re_readTwoSums N1 (f_Re_parse N1 xk xs xn xw xec xew xtc xtw DX) (nI (t + 1)) (xk (t + 1)) (nI δ) e ep xk xs xn xw (nI q) sk sp xec xew xtc xtw = _
            unfold f_Re_readTwoSums
            simp only [hx1, if_true, d1, oB_s, if_neg n10, x1, ex1, x2, ex2]
          have eN : f_M_parse N2 mk mv (DM + 1) 7 24 0 (nI t, nI δ, mm, nI q, mo, mw, ma) = some (0, nI t1, dm, mm1, q1, mo1, mw1, ma1) := by
            show f_M_isOfTwo N2 (f_M_parse N2 mk mv DM) (nI t) (nI δ) mk mm mv (nI q) mo mw ma 24 = _
            unfold f_M_isOfTwo
            simp only [← nI_succ, d2, oB_s, if_neg n10, m1, if_true]
          obtain ⟨z1, z2, z3, z4⟩ := addSome s2' k2' p2' 224 0
          have eX : f_Re_readValue N1 (f_Re_parse N1 xk xs xn xw xec xew xtc xtw (DX + 1)) (nI t) (xk t) (nI δ) e ep xk xs xn xw (nI q) sk sp xec xew xtc xtw = some (a2', 133, d2' - 1, 1, mf t1, z1, z2, z3) := by
            unfold f_Re_readValue
            simp only [hx, if_neg (show ¬ (224 : Int32) = 40 by decide), if_neg (show ¬ (224 : Int32) = 45 by decide), if_neg (show ¬ (224 : Int32) = 131 by decide), if_neg (show ¬ (224 : Int32) = 210 by decide), if_neg (show ¬ (224 : Int32) = 211 by decide), if_neg (show ¬ (224 : Int32) = 212 by decide), if_neg (show ¬ (224 : Int32) = 214 by decide), if_neg (show ¬ (224 : Int32) = 215 by decide), if_neg (show ¬ (224 : Int32) = 223 by decide), if_true, adv H ht, oB_s, eR, z4]
          have eM : f_M_isValue N2 (f_M_parse N2 mk mv (DM + 1)) (nI t) (nI δ) mk mm mv (nI q) mo mw ma = some (0, nI t1, dm, mm1, q1, mo1, mw1, ma1) := by
            unfold f_M_isValue
            simp only [g1, g2, hk, if_neg (show ¬ (24 : Int32) = 45 by decide), if_neg (show ¬ (24 : Int32) = 40 by decide), if_neg (show ¬ (24 : Int32) = 23 by decide), if_neg (show ¬ (24 : Int32) = 14 by decide), if_neg (show ¬ (24 : Int32) = 15 by decide), if_neg (show ¬ (24 : Int32) = 31 by decide), if_true, eN, oB_s, zb0]
          
          rw [eX, eM]
          exact out_fail l1
    · have hx1 : ¬ xk (t + 1) = 40 := by rw [b1]; exact fun h9 => hk1 ((km_all _ b2).1.mp h9)
      have de : f_M_deeper (nI (t + 1)) (nI δ) mk 40 = some (0, nI (t + 1), nI δ) := by
        unfold f_M_deeper
        rw [eat_n H (by omega) hk1, oB_s, if_pos rfl]
        split
        · rfl
        · rfl
      have fa := failAt (e := e) (ep := ep) H (show t + 1 ≤ T by omega) (xk (t + 1)) he1
      have eR : f_Re_parse N1 xk xs xn xw xec xew xtc xtw (DX + 1) 7 0 0 (nI (t + 1), xk (t + 1), nI δ, e, ep, nI q, sk, sp) = some (nI (t + 1), 133, nI δ, 1, mf (t + 1), nI q, sk, sp) := by
        show f_Re_readTwoSums N1 (f_Re_parse N1 xk xs xn xw xec xew xtc xtw DX) (nI (t + 1)) (xk (t + 1)) (nI δ) e ep xk xs xn xw (nI q) sk sp xec xew xtc xtw = _
        unfold f_Re_readTwoSums
        simp only [if_neg hx1, fa, oB_s]
      have eN : f_M_parse N2 mk mv (DM + 1) 7 24 0 (nI t, nI δ, mm, nI q, mo, mw, ma) = some (0, nI (t + 1), nI δ, mm, nI q, mo, mw, ma) := by
        show f_M_isOfTwo N2 (f_M_parse N2 mk mv DM) (nI t) (nI δ) mk mm mv (nI q) mo mw ma 24 = _
        unfold f_M_isOfTwo
        simp only [← nI_succ, de, oB_s, if_true]
      obtain ⟨z1, z2, z3, z4⟩ := addSome (nI q) sk sp 224 0
      have eX : f_Re_readValue N1 (f_Re_parse N1 xk xs xn xw xec xew xtc xtw (DX + 1)) (nI t) (xk t) (nI δ) e ep xk xs xn xw (nI q) sk sp xec xew xtc xtw = some (nI (t + 1), 133, nI δ, 1, mf (t + 1), z1, z2, z3) := by
        unfold f_Re_readValue
        simp only [hx, if_neg (show ¬ (224 : Int32) = 40 by decide), if_neg (show ¬ (224 : Int32) = 45 by decide), if_neg (show ¬ (224 : Int32) = 131 by decide), if_neg (show ¬ (224 : Int32) = 210 by decide), if_neg (show ¬ (224 : Int32) = 211 by decide), if_neg (show ¬ (224 : Int32) = 212 by decide), if_neg (show ¬ (224 : Int32) = 214 by decide), if_neg (show ¬ (224 : Int32) = 215 by decide), if_neg (show ¬ (224 : Int32) = 223 by decide), if_true, adv H ht, oB_s, eR, z4]
      have eM : f_M_isValue N2 (f_M_parse N2 mk mv (DM + 1)) (nI t) (nI δ) mk mm mv (nI q) mo mw ma = some (0, nI (t + 1), nI δ, mm, nI q, mo, mw, ma) := by
        unfold f_M_isValue
        simp only [g1, g2, hk, if_neg (show ¬ (24 : Int32) = 45 by decide), if_neg (show ¬ (24 : Int32) = 40 by decide), if_neg (show ¬ (24 : Int32) = 23 by decide), if_neg (show ¬ (24 : Int32) = 14 by decide), if_neg (show ¬ (24 : Int32) = 15 by decide), if_neg (show ¬ (24 : Int32) = 31 by decide), if_true, eN, oB_s, zb0]
      
      rw [eX, eM]
      exact out_fail (by omega)
  have n24 := hk
  clear hk
  by_cases hk : mk t = 14
  · have hx : xk t = 214 := by rw [a1]; exact (km_all2 _ a2).2.2.2.2.2.1.mpr hk
    have ht : t < T := tk_lt H hT (by rw [hk]; decide) (by rw [hk]; decide)
    have hq4 : q < 400 := by omega
    have En := err_skip hq ht hTS.2.2.1 (hz t (Nat.le_refl _) (by omega))
    obtain ⟨b1, b2, -⟩ := H.2.1 (t + 1) (by omega)
    obtain ⟨ab1, ab2, ab3⟩ := aboutOf H (mm := mm) (mo := mo) (mw := mw) (ma := ma) (as := 12) (its := 14) (show t + 1 ≤ T by omega) hq4 (Or.inl rfl)
    by_cases hk1 : mk (t + 1) = 16
    · have hx1 : xk (t + 1) = 216 := by rw [b1]; exact (km_all2 _ b2).2.2.2.2.2.2.2.1.mpr hk1
      have ht1 : t + 1 < T := tk_lt H (by omega) (by rw [hk1]; decide) (by rw [hk1]; decide)
      have En1 := err_skip hq ht1 En (hz (t + 1) (by omega) (by omega))
      have ex := fun e ep => expectY (e := e) (ep := ep) H ht1 hx1
      rw [hx1] at ex
      by_cases hk2 : mk (t + 1 + 1) = 30
      · have ht2 : t + 1 + 1 < T := tk_lt H (by omega) (by rw [hk2]; decide) (by rw [hk2]; decide)
        obtain ⟨r, e2, ep2, w1, w2, w3⟩ := known_t H hq ht2 hk2 En1
        have ab := ab3 hk1 (by omega) hk2
        have eX : f_Re_readValue N1 (f_Re_parse N1 xk xs xn xw xec xew xtc xtw (DX + 1)) (nI t) (xk t) (nI δ) e ep xk xs xn xw (nI q) sk sp xec xew xtc xtw = some (nI (t + 1 + 1 + 1), xk (t + 1 + 1 + 1), nI δ, e2, ep2, nI (q + 1), upd sk q 214, upd sp q r) := by
          unfold f_Re_readValue
          simp only [hx, if_neg (show ¬ (214 : Int32) = 40 by decide), if_neg (show ¬ (214 : Int32) = 45 by decide), if_neg (show ¬ (214 : Int32) = 131 by decide), if_neg (show ¬ (214 : Int32) = 210 by decide), if_neg (show ¬ (214 : Int32) = 211 by decide), if_neg (show ¬ (214 : Int32) = 212 by decide), if_neg (show ¬ (214 : Int32) = 215 by decide), if_neg (show ¬ (214 : Int32) = 223 by decide), if_neg (show ¬ (214 : Int32) = 224 by decide), if_true, adv H ht, oB_s, hx1, ex, w1, add_y hq4]
        have eM : f_M_isValue N2 (f_M_parse N2 mk mv (DM + 1)) (nI t) (nI δ) mk mm mv (nI q) mo mw ma = some (1, nI (t + 1 + 1 + 1), nI δ, upd mm (t + 1 + 1) 12, nI (q + 1), upd mo q 14, upd mw q (nI (t + 1 + 1)), upd ma q (nI (t + 1 + 1 + 1))) := by
          unfold f_M_isValue
          simp only [g1, g2, hk, if_neg (show ¬ (14 : Int32) = 45 by decide), if_neg (show ¬ (14 : Int32) = 40 by decide), if_neg (show ¬ (14 : Int32) = 23 by decide), if_neg (show ¬ (14 : Int32) = 24 by decide), if_neg (show ¬ (14 : Int32) = 15 by decide), if_neg (show ¬ (14 : Int32) = 31 by decide), if_true, ab, oB_s, zb1]
        
        rw [eX, eM]
        exact out_push H4 hTS (by omega) (by omega) w2 (fun j c1 c2 => by rw [upd_ne (by omega)]; exact hz j (by omega) c2) (fun h0 => ⟨(w3 h0).1, fun j hj => upd_ne (by omega), str_name (by decide) (by decide) (fun P a => by unfold SF; simp) (by omega) (by omega)⟩) (fun i hi => upd_lt hi) (fun _ => rfl)
      · have ab := ab2 hk1 (by omega) hk2
        have eX : f_Re_readValue N1 (f_Re_parse N1 xk xs xn xw xec xew xtc xtw (DX + 1)) (nI t) (xk t) (nI δ) e ep xk xs xn xw (nI q) sk sp xec xew xtc xtw = some (nI (t + 1 + 1), 133, nI δ, 1, mf (t + 1 + 1), nI (q + 1), upd sk q 214, upd sp q (-1)) := by
          unfold f_Re_readValue
          simp only [hx, if_neg (show ¬ (214 : Int32) = 40 by decide), if_neg (show ¬ (214 : Int32) = 45 by decide), if_neg (show ¬ (214 : Int32) = 131 by decide), if_neg (show ¬ (214 : Int32) = 210 by decide), if_neg (show ¬ (214 : Int32) = 211 by decide), if_neg (show ¬ (214 : Int32) = 212 by decide), if_neg (show ¬ (214 : Int32) = 215 by decide), if_neg (show ¬ (214 : Int32) = 223 by decide), if_neg (show ¬ (214 : Int32) = 224 by decide), if_true, adv H ht, oB_s, hx1, ex, known_tF H (show t + 1 + 1 ≤ T by omega) hk2 he1, add_y hq4]
        have eM : f_M_isValue N2 (f_M_parse N2 mk mv (DM + 1)) (nI t) (nI δ) mk mm mv (nI q) mo mw ma = some (0, nI (t + 1 + 1), nI δ, upd mm (t + 1 + 1) 12, nI q, mo, mw, ma) := by
          unfold f_M_isValue
          simp only [g1, g2, hk, if_neg (show ¬ (14 : Int32) = 45 by decide), if_neg (show ¬ (14 : Int32) = 40 by decide), if_neg (show ¬ (14 : Int32) = 23 by decide), if_neg (show ¬ (14 : Int32) = 24 by decide), if_neg (show ¬ (14 : Int32) = 15 by decide), if_neg (show ¬ (14 : Int32) = 31 by decide), if_true, ab, oB_s, zb0]
        
        rw [eX, eM]
        exact out_fail (by omega)
    · have hx1 : ¬ xk (t + 1) = 216 := by rw [b1]; exact fun h9 => hk1 ((km_all2 _ b2).2.2.2.2.2.2.2.1.mp h9)
      have ab := ab1 hk1
      have eX : f_Re_readValue N1 (f_Re_parse N1 xk xs xn xw xec xew xtc xtw (DX + 1)) (nI t) (xk t) (nI δ) e ep xk xs xn xw (nI q) sk sp xec xew xtc xtw = some (nI (t + 1), 133, nI δ, 1, mf (t + 1), nI (q + 1), upd sk q 214, upd sp q (-1)) := by
        unfold f_Re_readValue
        simp only [hx, if_neg (show ¬ (214 : Int32) = 40 by decide), if_neg (show ¬ (214 : Int32) = 45 by decide), if_neg (show ¬ (214 : Int32) = 131 by decide), if_neg (show ¬ (214 : Int32) = 210 by decide), if_neg (show ¬ (214 : Int32) = 211 by decide), if_neg (show ¬ (214 : Int32) = 212 by decide), if_neg (show ¬ (214 : Int32) = 215 by decide), if_neg (show ¬ (214 : Int32) = 223 by decide), if_neg (show ¬ (214 : Int32) = 224 by decide), if_true, adv H ht, oB_s, expectF H (show t + 1 ≤ T by omega) hx1 he1, known_tF2, add_y hq4]
      have eM : f_M_isValue N2 (f_M_parse N2 mk mv (DM + 1)) (nI t) (nI δ) mk mm mv (nI q) mo mw ma = some (0, nI (t + 1), nI δ, mm, nI q, mo, mw, ma) := by
        unfold f_M_isValue
        simp only [g1, g2, hk, if_neg (show ¬ (14 : Int32) = 45 by decide), if_neg (show ¬ (14 : Int32) = 40 by decide), if_neg (show ¬ (14 : Int32) = 23 by decide), if_neg (show ¬ (14 : Int32) = 24 by decide), if_neg (show ¬ (14 : Int32) = 15 by decide), if_neg (show ¬ (14 : Int32) = 31 by decide), if_true, ab, oB_s, zb0]
      
      rw [eX, eM]
      exact out_fail (by omega)
  have n14 := hk
  clear hk
  by_cases hk : mk t = 15
  · have hx : xk t = 215 := by rw [a1]; exact (km_all2 _ a2).2.2.2.2.2.2.1.mpr hk
    have ht : t < T := tk_lt H hT (by rw [hk]; decide) (by rw [hk]; decide)
    have hq4 : q < 400 := by omega
    have En := err_skip hq ht hTS.2.2.1 (hz t (Nat.le_refl _) (by omega))
    obtain ⟨b1, b2, -⟩ := H.2.1 (t + 1) (by omega)
    obtain ⟨ab1, ab2, ab3⟩ := aboutOf H (mm := mm) (mo := mo) (mw := mw) (ma := ma) (as := 11) (its := 15) (show t + 1 ≤ T by omega) hq4 (Or.inr rfl)
    by_cases hk1 : mk (t + 1) = 16
    · have hx1 : xk (t + 1) = 216 := by rw [b1]; exact (km_all2 _ b2).2.2.2.2.2.2.2.1.mpr hk1
      have ht1 : t + 1 < T := tk_lt H (by omega) (by rw [hk1]; decide) (by rw [hk1]; decide)
      have En1 := err_skip hq ht1 En (hz (t + 1) (by omega) (by omega))
      have ex := fun e ep => expectY (e := e) (ep := ep) H ht1 hx1
      rw [hx1] at ex
      by_cases hk2 : mk (t + 1 + 1) = 30
      · have ht2 : t + 1 + 1 < T := tk_lt H (by omega) (by rw [hk2]; decide) (by rw [hk2]; decide)
        obtain ⟨r, e2, ep2, w1, w2, w3⟩ := known_e H hq ht2 hk2 En1
        have ab := ab3 hk1 (by omega) hk2
        have eX : f_Re_readValue N1 (f_Re_parse N1 xk xs xn xw xec xew xtc xtw (DX + 1)) (nI t) (xk t) (nI δ) e ep xk xs xn xw (nI q) sk sp xec xew xtc xtw = some (nI (t + 1 + 1 + 1), xk (t + 1 + 1 + 1), nI δ, e2, ep2, nI (q + 1), upd sk q 215, upd sp q r) := by
          unfold f_Re_readValue
          simp only [hx, if_neg (show ¬ (215 : Int32) = 40 by decide), if_neg (show ¬ (215 : Int32) = 45 by decide), if_neg (show ¬ (215 : Int32) = 131 by decide), if_neg (show ¬ (215 : Int32) = 210 by decide), if_neg (show ¬ (215 : Int32) = 211 by decide), if_neg (show ¬ (215 : Int32) = 212 by decide), if_neg (show ¬ (215 : Int32) = 214 by decide), if_neg (show ¬ (215 : Int32) = 223 by decide), if_neg (show ¬ (215 : Int32) = 224 by decide), if_true, adv H ht, oB_s, hx1, ex, w1, add_y hq4]
        have eM : f_M_isValue N2 (f_M_parse N2 mk mv (DM + 1)) (nI t) (nI δ) mk mm mv (nI q) mo mw ma = some (1, nI (t + 1 + 1 + 1), nI δ, upd mm (t + 1 + 1) 11, nI (q + 1), upd mo q 15, upd mw q (nI (t + 1 + 1)), upd ma q (nI (t + 1 + 1 + 1))) := by
          unfold f_M_isValue
          simp only [g1, g2, hk, if_neg (show ¬ (15 : Int32) = 45 by decide), if_neg (show ¬ (15 : Int32) = 40 by decide), if_neg (show ¬ (15 : Int32) = 23 by decide), if_neg (show ¬ (15 : Int32) = 24 by decide), if_neg (show ¬ (15 : Int32) = 14 by decide), if_neg (show ¬ (15 : Int32) = 31 by decide), if_true, ab, oB_s, zb1]
        
        rw [eX, eM]
        exact out_push H4 hTS (by omega) (by omega) w2 (fun j c1 c2 => by rw [upd_ne (by omega)]; exact hz j (by omega) c2) (fun h0 => ⟨(w3 h0).1, fun j hj => upd_ne (by omega), str_name (by decide) (by decide) (fun P a => by unfold SF; simp) (by omega) (by omega)⟩) (fun i hi => upd_lt hi) (fun _ => rfl)
      · have ab := ab2 hk1 (by omega) hk2
        have eX : f_Re_readValue N1 (f_Re_parse N1 xk xs xn xw xec xew xtc xtw (DX + 1)) (nI t) (xk t) (nI δ) e ep xk xs xn xw (nI q) sk sp xec xew xtc xtw = some (nI (t + 1 + 1), 133, nI δ, 1, mf (t + 1 + 1), nI (q + 1), upd sk q 215, upd sp q (-1)) := by
          unfold f_Re_readValue
          simp only [hx, if_neg (show ¬ (215 : Int32) = 40 by decide), if_neg (show ¬ (215 : Int32) = 45 by decide), if_neg (show ¬ (215 : Int32) = 131 by decide), if_neg (show ¬ (215 : Int32) = 210 by decide), if_neg (show ¬ (215 : Int32) = 211 by decide), if_neg (show ¬ (215 : Int32) = 212 by decide), if_neg (show ¬ (215 : Int32) = 214 by decide), if_neg (show ¬ (215 : Int32) = 223 by decide), if_neg (show ¬ (215 : Int32) = 224 by decide), if_true, adv H ht, oB_s, hx1, ex, known_eF H (show t + 1 + 1 ≤ T by omega) hk2 he1, add_y hq4]
        have eM : f_M_isValue N2 (f_M_parse N2 mk mv (DM + 1)) (nI t) (nI δ) mk mm mv (nI q) mo mw ma = some (0, nI (t + 1 + 1), nI δ, upd mm (t + 1 + 1) 11, nI q, mo, mw, ma) := by
          unfold f_M_isValue
          simp only [g1, g2, hk, if_neg (show ¬ (15 : Int32) = 45 by decide), if_neg (show ¬ (15 : Int32) = 40 by decide), if_neg (show ¬ (15 : Int32) = 23 by decide), if_neg (show ¬ (15 : Int32) = 24 by decide), if_neg (show ¬ (15 : Int32) = 14 by decide), if_neg (show ¬ (15 : Int32) = 31 by decide), if_true, ab, oB_s, zb0]
        
        rw [eX, eM]
        exact out_fail (by omega)
    · have hx1 : ¬ xk (t + 1) = 216 := by rw [b1]; exact fun h9 => hk1 ((km_all2 _ b2).2.2.2.2.2.2.2.1.mp h9)
      have ab := ab1 hk1
      have eX : f_Re_readValue N1 (f_Re_parse N1 xk xs xn xw xec xew xtc xtw (DX + 1)) (nI t) (xk t) (nI δ) e ep xk xs xn xw (nI q) sk sp xec xew xtc xtw = some (nI (t + 1), 133, nI δ, 1, mf (t + 1), nI (q + 1), upd sk q 215, upd sp q (-1)) := by
        unfold f_Re_readValue
        simp only [hx, if_neg (show ¬ (215 : Int32) = 40 by decide), if_neg (show ¬ (215 : Int32) = 45 by decide), if_neg (show ¬ (215 : Int32) = 131 by decide), if_neg (show ¬ (215 : Int32) = 210 by decide), if_neg (show ¬ (215 : Int32) = 211 by decide), if_neg (show ¬ (215 : Int32) = 212 by decide), if_neg (show ¬ (215 : Int32) = 214 by decide), if_neg (show ¬ (215 : Int32) = 223 by decide), if_neg (show ¬ (215 : Int32) = 224 by decide), if_true, adv H ht, oB_s, expectF H (show t + 1 ≤ T by omega) hx1 he1, known_eF2, add_y hq4]
      have eM : f_M_isValue N2 (f_M_parse N2 mk mv (DM + 1)) (nI t) (nI δ) mk mm mv (nI q) mo mw ma = some (0, nI (t + 1), nI δ, mm, nI q, mo, mw, ma) := by
        unfold f_M_isValue
        simp only [g1, g2, hk, if_neg (show ¬ (15 : Int32) = 45 by decide), if_neg (show ¬ (15 : Int32) = 40 by decide), if_neg (show ¬ (15 : Int32) = 23 by decide), if_neg (show ¬ (15 : Int32) = 24 by decide), if_neg (show ¬ (15 : Int32) = 14 by decide), if_neg (show ¬ (15 : Int32) = 31 by decide), if_true, ab, oB_s, zb0]
      
      rw [eX, eM]
      exact out_fail (by omega)
  have n15 := hk
  clear hk
  by_cases hk : mk t = 31
  · have hx : xk t = 131 := by rw [a1]; exact (km_all2 _ a2).1.mpr hk
    have ht : t < T := tk_lt H hT (by rw [hk]; decide) (by rw [hk]; decide)
    have hq4 : q < 400 := by omega
    have En := err_skip hq ht hTS.2.2.1 (hz t (Nat.le_refl _) (by omega))
    have eX : f_Re_readValue N1 (f_Re_parse N1 xk xs xn xw xec xew xtc xtw (DX + 1)) (nI t) (xk t) (nI δ) e ep xk xs xn xw (nI q) sk sp xec xew xtc xtw = some (nI (t + 1), xk (t + 1), nI δ, e, ep, nI (q + 1), upd sk q 131, upd sp q (xn t)) := by
      unfold f_Re_readValue
      simp only [hx, if_neg (show ¬ (131 : Int32) = 40 by decide), if_neg (show ¬ (131 : Int32) = 45 by decide), if_neg (show ¬ (131 : Int32) = 210 by decide), if_neg (show ¬ (131 : Int32) = 211 by decide), if_neg (show ¬ (131 : Int32) = 212 by decide), if_neg (show ¬ (131 : Int32) = 214 by decide), if_neg (show ¬ (131 : Int32) = 215 by decide), if_neg (show ¬ (131 : Int32) = 223 by decide), if_neg (show ¬ (131 : Int32) = 224 by decide), if_true, adv H ht, oB_s, add_y hq4, (show rget 401 xn (nI t) = xn t from rg (by omega) (by decide))]
    have eM : f_M_isValue N2 (f_M_parse N2 mk mv (DM + 1)) (nI t) (nI δ) mk mm mv (nI q) mo mw ma = some (1, nI (t + 1), nI δ, mm, nI (q + 1), upd mo q 100, upd mw q (xn t), ma) := by
      unfold f_M_isValue
      simp only [g1, g2, hk, if_neg (show ¬ (31 : Int32) = 45 by decide), if_neg (show ¬ (31 : Int32) = 40 by decide), if_neg (show ¬ (31 : Int32) = 23 by decide), if_neg (show ¬ (31 : Int32) = 24 by decide), if_neg (show ¬ (31 : Int32) = 14 by decide), if_neg (show ¬ (31 : Int32) = 15 by decide), if_true, oB_s, put_y hq4, ← nI_succ, show (mv t).toInt32 = xn t from (by rw [a5 hk]; exact i64_32 _)]
    
    rw [eX, eM]
    exact out_push H4 hTS (by omega) (by omega) En (fun j c1 c2 => hz j (by omega) c2) (fun h0 => ⟨h0, fun _ _ => rfl, ⟨Or.inl (Or.inl ⟨rfl, rfl, rfl⟩), fun h9 => absurd h9 (by decide), fun h9 => absurd h9 (by decide)⟩⟩) (fun _ _ => rfl) (fun _ => rfl)
  have n31 := hk
  clear hk
  by_cases hk : mk t = 10
  · have hx : xk t = 210 := by rw [a1]; exact (km_all2 _ a2).2.1.mpr hk
    have ht : t < T := tk_lt H hT (by rw [hk]; decide) (by rw [hk]; decide)
    have hq4 : q < 400 := by omega
    have En := err_skip hq ht hTS.2.2.1 (hz t (Nat.le_refl _) (by omega))
    have eX : f_Re_readValue N1 (f_Re_parse N1 xk xs xn xw xec xew xtc xtw (DX + 1)) (nI t) (xk t) (nI δ) e ep xk xs xn xw (nI q) sk sp xec xew xtc xtw = some (nI (t + 1), xk (t + 1), nI δ, e, ep, nI (q + 1), upd sk q 210, upd sp q 0) := by
      unfold f_Re_readValue
      simp only [hx, if_neg (show ¬ (210 : Int32) = 40 by decide), if_neg (show ¬ (210 : Int32) = 45 by decide), if_neg (show ¬ (210 : Int32) = 131 by decide), if_neg (show ¬ (210 : Int32) = 211 by decide), if_neg (show ¬ (210 : Int32) = 212 by decide), if_neg (show ¬ (210 : Int32) = 214 by decide), if_neg (show ¬ (210 : Int32) = 215 by decide), if_neg (show ¬ (210 : Int32) = 223 by decide), if_neg (show ¬ (210 : Int32) = 224 by decide), if_true, adv H ht, oB_s, add_y hq4]
    have eM : f_M_isValue N2 (f_M_parse N2 mk mv (DM + 1)) (nI t) (nI δ) mk mm mv (nI q) mo mw ma = some (1, nI (t + 1), nI δ, mm, nI (q + 1), upd mo q 10, upd mw q 0, ma) := by
      unfold f_M_isValue
      simp only [g1, g2, hk, if_neg (show ¬ (10 : Int32) = 45 by decide), if_neg (show ¬ (10 : Int32) = 40 by decide), if_neg (show ¬ (10 : Int32) = 23 by decide), if_neg (show ¬ (10 : Int32) = 24 by decide), if_neg (show ¬ (10 : Int32) = 14 by decide), if_neg (show ¬ (10 : Int32) = 15 by decide), if_neg (show ¬ (10 : Int32) = 31 by decide), if_true, oB_s, put_y hq4, ← nI_succ, show ¬ f_M_isIn 10 10 12 = 0 by decide, if_false]
    
    rw [eX, eM]
    exact out_push H4 hTS (by omega) (by omega) En (fun j c1 c2 => hz j (by omega) c2) (fun h0 => ⟨h0, fun _ _ => rfl, ⟨Or.inl (by unfold SF; simp), fun h9 => absurd h9 (by decide), fun h9 => absurd h9 (by decide)⟩⟩) (fun _ _ => rfl) (fun _ => rfl)
  have n10' := hk
  clear hk
  by_cases hk : mk t = 11
  · have hx : xk t = 211 := by rw [a1]; exact (km_all2 _ a2).2.2.1.mpr hk
    have ht : t < T := tk_lt H hT (by rw [hk]; decide) (by rw [hk]; decide)
    have hq4 : q < 400 := by omega
    have En := err_skip hq ht hTS.2.2.1 (hz t (Nat.le_refl _) (by omega))
    have eX : f_Re_readValue N1 (f_Re_parse N1 xk xs xn xw xec xew xtc xtw (DX + 1)) (nI t) (xk t) (nI δ) e ep xk xs xn xw (nI q) sk sp xec xew xtc xtw = some (nI (t + 1), xk (t + 1), nI δ, e, ep, nI (q + 1), upd sk q 211, upd sp q 0) := by
      unfold f_Re_readValue
      simp only [hx, if_neg (show ¬ (211 : Int32) = 40 by decide), if_neg (show ¬ (211 : Int32) = 45 by decide), if_neg (show ¬ (211 : Int32) = 131 by decide), if_neg (show ¬ (211 : Int32) = 210 by decide), if_neg (show ¬ (211 : Int32) = 212 by decide), if_neg (show ¬ (211 : Int32) = 214 by decide), if_neg (show ¬ (211 : Int32) = 215 by decide), if_neg (show ¬ (211 : Int32) = 223 by decide), if_neg (show ¬ (211 : Int32) = 224 by decide), if_true, adv H ht, oB_s, add_y hq4]
    have eM : f_M_isValue N2 (f_M_parse N2 mk mv (DM + 1)) (nI t) (nI δ) mk mm mv (nI q) mo mw ma = some (1, nI (t + 1), nI δ, mm, nI (q + 1), upd mo q 11, upd mw q 0, ma) := by
      unfold f_M_isValue
      simp only [g1, g2, hk, if_neg (show ¬ (11 : Int32) = 45 by decide), if_neg (show ¬ (11 : Int32) = 40 by decide), if_neg (show ¬ (11 : Int32) = 23 by decide), if_neg (show ¬ (11 : Int32) = 24 by decide), if_neg (show ¬ (11 : Int32) = 14 by decide), if_neg (show ¬ (11 : Int32) = 15 by decide), if_neg (show ¬ (11 : Int32) = 31 by decide), if_true, oB_s, put_y hq4, ← nI_succ, show ¬ f_M_isIn 11 10 12 = 0 by decide, if_false]
    
    rw [eX, eM]
    exact out_push H4 hTS (by omega) (by omega) En (fun j c1 c2 => hz j (by omega) c2) (fun h0 => ⟨h0, fun _ _ => rfl, ⟨Or.inl (by unfold SF; simp), fun h9 => absurd h9 (by decide), fun h9 => absurd h9 (by decide)⟩⟩) (fun _ _ => rfl) (fun _ => rfl)
  have n11 := hk
  clear hk
  by_cases hk : mk t = 12
  · have hx : xk t = 212 := by rw [a1]; exact (km_all2 _ a2).2.2.2.1.mpr hk
    have ht : t < T := tk_lt H hT (by rw [hk]; decide) (by rw [hk]; decide)
    have hq4 : q < 400 := by omega
    have En := err_skip hq ht hTS.2.2.1 (hz t (Nat.le_refl _) (by omega))
    have eX : f_Re_readValue N1 (f_Re_parse N1 xk xs xn xw xec xew xtc xtw (DX + 1)) (nI t) (xk t) (nI δ) e ep xk xs xn xw (nI q) sk sp xec xew xtc xtw = some (nI (t + 1), xk (t + 1), nI δ, e, ep, nI (q + 1), upd sk q 212, upd sp q 0) := by
      unfold f_Re_readValue
      simp only [hx, if_neg (show ¬ (212 : Int32) = 40 by decide), if_neg (show ¬ (212 : Int32) = 45 by decide), if_neg (show ¬ (212 : Int32) = 131 by decide), if_neg (show ¬ (212 : Int32) = 210 by decide), if_neg (show ¬ (212 : Int32) = 211 by decide), if_neg (show ¬ (212 : Int32) = 214 by decide), if_neg (show ¬ (212 : Int32) = 215 by decide), if_neg (show ¬ (212 : Int32) = 223 by decide), if_neg (show ¬ (212 : Int32) = 224 by decide), if_true, adv H ht, oB_s, add_y hq4]
    have eM : f_M_isValue N2 (f_M_parse N2 mk mv (DM + 1)) (nI t) (nI δ) mk mm mv (nI q) mo mw ma = some (1, nI (t + 1), nI δ, mm, nI (q + 1), upd mo q 12, upd mw q 0, ma) := by
      unfold f_M_isValue
      simp only [g1, g2, hk, if_neg (show ¬ (12 : Int32) = 45 by decide), if_neg (show ¬ (12 : Int32) = 40 by decide), if_neg (show ¬ (12 : Int32) = 23 by decide), if_neg (show ¬ (12 : Int32) = 24 by decide), if_neg (show ¬ (12 : Int32) = 14 by decide), if_neg (show ¬ (12 : Int32) = 15 by decide), if_neg (show ¬ (12 : Int32) = 31 by decide), if_true, oB_s, put_y hq4, ← nI_succ, show ¬ f_M_isIn 12 10 12 = 0 by decide, if_false]
    
    rw [eX, eM]
    exact out_push H4 hTS (by omega) (by omega) En (fun j c1 c2 => hz j (by omega) c2) (fun h0 => ⟨h0, fun _ _ => rfl, ⟨Or.inl (by unfold SF; simp), fun h9 => absurd h9 (by decide), fun h9 => absurd h9 (by decide)⟩⟩) (fun _ _ => rfl) (fun _ => rfl)
  have n12 := hk
  clear hk
  have isn : f_M_isIn (mk t) 10 12 = 0 := kin _ a2 n10' n11 n12
  have fa := failAt (e := e) (ep := ep) H hT (xk t) he1
  have eX : f_Re_readValue N1 (f_Re_parse N1 xk xs xn xw xec xew xtc xtw (DX + 1)) (nI t) (xk t) (nI δ) e ep xk xs xn xw (nI q) sk sp xec xew xtc xtw = some (nI t, 133, nI δ, 1, mf t, nI q, sk, sp) := by
    unfold f_Re_readValue
    simp only [if_neg (show ¬ xk t = 40 from (by rw [a1]; exact fun h9 => n40 ((km_all _ a2).1.mp h9))), if_neg (show ¬ xk t = 45 from (by rw [a1]; exact fun h9 => n45 ((km_all _ a2).2.2.2.2.2.2.2.1.mp h9))), if_neg (show ¬ xk t = 131 from (by rw [a1]; exact fun h9 => n31 ((km_all2 _ a2).1.mp h9))), if_neg (show ¬ xk t = 210 from (by rw [a1]; exact fun h9 => n10' ((km_all2 _ a2).2.1.mp h9))), if_neg (show ¬ xk t = 211 from (by rw [a1]; exact fun h9 => n11 ((km_all2 _ a2).2.2.1.mp h9))), if_neg (show ¬ xk t = 212 from (by rw [a1]; exact fun h9 => n12 ((km_all2 _ a2).2.2.2.1.mp h9))), if_neg (show ¬ xk t = 214 from (by rw [a1]; exact fun h9 => n14 ((km_all2 _ a2).2.2.2.2.2.1.mp h9))), if_neg (show ¬ xk t = 215 from (by rw [a1]; exact fun h9 => n15 ((km_all2 _ a2).2.2.2.2.2.2.1.mp h9))), if_neg (show ¬ xk t = 223 from (by rw [a1]; exact fun h9 => n23 ((km_all2 _ a2).2.2.2.2.2.2.2.2.2.2.2.2.2.2.1.mp h9))), if_neg (show ¬ xk t = 224 from (by rw [a1]; exact fun h9 => n24 ((km_all2 _ a2).2.2.2.2.2.2.2.2.2.2.2.2.2.2.2.mp h9))), fa, oB_s]
  have eM : f_M_isValue N2 (f_M_parse N2 mk mv (DM + 1)) (nI t) (nI δ) mk mm mv (nI q) mo mw ma = some (0, nI t, nI δ, mm, nI q, mo, mw, ma) := by
    unfold f_M_isValue
    simp only [g1, g2, if_true, if_neg n45, if_neg n40, if_neg n23, if_neg n24, if_neg n14, if_neg n15, if_neg n31, isn]
  rw [eX, eM]
  exact out_fail hT
end PS
