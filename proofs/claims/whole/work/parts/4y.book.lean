/-! the whole tape, line by line, on both sides -/
section BK
variable {N : Nat} {mk mf xk xs xn : Nat → Int32} {mv xw : Nat → Int64} {s0 : S2} {T : Nat}
abbrev ZX := Int32 × Int32 × Int32 × Int32 × Int32 × Int32 × Int32 × (Nat → Int32) × (Nat → Int32) × (Nat → Int32) × (Nat → Int32) × (Nat → Int32) × Int32 × Int32 × (Nat → Int32) × (Nat → Int32) × (Nat → Int32) × (Nat → Int32) × (Nat → Int32) × Int32 × (Nat → Int64) × Int32 × (Nat → Int64)
abbrev ZM := Int32 × Int32 × Int32 × (Nat → Int32) × Int32 × (Nat → Int32) × (Nat → Int32) × (Nat → Int32) × (Nat → Int32) × (Nat → Int32) × (Nat → Int32)
abbrev RBk := Option (Int32 × Int32 × Int32 × Int32 × Int32 × Int32 × Int32 × Int32 × Int32 × Int64 × (Nat → Int32) × (Nat → Int32) × (Nat → Int32) × (Nat → Int64) × Int32 × Int32 × Int32 × (Nat → Int32) × (Nat → Int32) × (Nat → Int32) × (Nat → Int32) × (Nat → Int32) × Int32 × Int32 × (Nat → Int32) × (Nat → Int32) × (Nat → Int32) × (Nat → Int32) × (Nat → Int32) × Int32 × (Nat → Int64) × Int32 × (Nat → Int64))
def endX (a1 a2 a3 : Int32) (a4 : Int64) (xk xs xn : Nat → Int32) (xw : Nat → Int64) (z : ZX) : RBk :=
  some (z.2.2.2.2.1, z.2.1, z.2.2.1, z.2.2.2.1, z.2.2.2.2.1, z.2.2.2.2.2.1, a1, a2, a3, a4, xk, xs, xn, xw, z.2.2.2.2.2.2.2.2.2.2.2.2.2.2.2.2.2.2.2.1, z.2.2.2.2.2.2.2.2.2.2.2.2.2.2.2.2.2.2.2.2.2.1, z.2.2.2.2.2.2)
def LI (N : Nat) (mk mf xk : Nat → Int32) (mv : Nat → Int64) (s0 : S2) (T j : Nat) (s1 : ZM) (s2 : ZX) : Prop :=
  ∃ t q r e ep mm mD mB mEd mo mw ma clc xT xK xE xF xL orc xD xW xEd sk sp ec ew tc tw, s1 = (nI t, nI 0, nI r, mm, nI q, mD, mB, mEd, mo, mw, ma) ∧ s2 = (nI j, nI t, xk t, nI 0, e, ep, clc, xT, xK, xE, xF, xL, orc, nI q, xD, xW, xEd, sk, sp, ec, ew, tc, tw) ∧
    2 * j ≤ t ∧ t ≤ T ∧ q ≤ t ∧ r ≤ t ∧ (∀ j, t ≤ j → j ≤ T → mm j = 0) ∧ CI N mk mf mv s0 (LnP ec tc ew tw (OW orc (nI r) q xD xW xEd sk sp mD mB mEd mo mw ma) clc xT xK xE xF xL t) t mm e ep
def BookOut (N : Nat) (mk mf : Nat → Int32) (mv : Nat → Int64) (s0 : S2) (T : Nat) (a1 a2 a3 : Int32) (a4 : Int64) (xk xs xn : Nat → Int32) (xw : Nat → Int64) (a : Option OM) (b : RBk) : Prop :=
  (∃ j s1 s2, LI N mk mf xk mv s0 T j s1 s2 ∧ s1.1 = nI T ∧ a = some (1, s1) ∧ b = endX a1 a2 a3 a4 xk xs xn xw s2) ∨
  (∃ t s1 s2, t ≤ T ∧ s1.1 = nI t ∧ s2.2.2.2.2.1 = 1 ∧ s2.2.2.2.2.2.1 = mf t ∧ a = some (0, s1) ∧ b = endX a1 a2 a3 a4 xk xs xn xw s2)
theorem x_stop {N1 : Nat} {a1 a2 a3 : Int32} {a4 : Int64} (z : ZX) (h : z.2.2.1 = 132 ∨ z.2.2.2.2.1 = 1) : f_Re_read_L7 N1 a1 a2 a3 a4 xk xs xn xw z = .inr (endX a1 a2 a3 a4 xk xs xn xw z) := by
  unfold f_Re_read_L7 endX
  by_cases h1 : (400 : Int32) ≤ z.1
  · rw [if_pos h1]
  · rw [if_neg h1]
    by_cases h2 : z.2.2.1 = 132
    · rw [if_pos h2]
    · rw [if_neg h2, if_pos (h.resolve_left h2)]
theorem tail_y {SX TX : Type} (H : TKs xk xs xn mk mf xw mv T) {t2 : Nat} {e ep : Int32} {f : TX} (G : Int32 → Int32 → Int32 → Int32 → SX) (ht : t2 ≤ T) (hk : mk t2 = 59) : t2 < T ∧ oB (Sum.inr f : SX ⊕ TX) (f_Re_expect (nI t2) (xk t2) e ep xk xs (59 : Int32)) (fun (r642 : Int32 × Int32 × Int32 × Int32) => (.inl (G r642.1 r642.2.1 r642.2.2.1 r642.2.2.2))) = .inl (G (nI (t2 + 1)) (xk (t2 + 1)) e ep) := by
  have t1 : t2 < T := tk_lt H ht (by rw [hk]; decide) (by rw [hk]; decide)
  obtain ⟨g1, g2, -⟩ := H.2.1 t2 ht
  refine ⟨t1, ?_⟩
  rw [expectY H t1 (show xk t2 = 59 by rw [g1]; exact (km_all _ g2).2.2.2.2.1.mpr hk), oB_s]
theorem tail_n {SX TX : Type} (H : TKs xk xs xn mk mf xw mv T) {t2 : Nat} {e ep : Int32} {f : TX} (G : Int32 → Int32 → Int32 → Int32 → SX) (ht : t2 ≤ T) (hk : ¬ mk t2 = 59) (he : ¬ e = 1) : oB (Sum.inr f : SX ⊕ TX) (f_Re_expect (nI t2) (xk t2) e ep xk xs (59 : Int32)) (fun (r642 : Int32 × Int32 × Int32 × Int32) => (.inl (G r642.1 r642.2.1 r642.2.2.1 r642.2.2.2))) = .inl (G (nI t2) 133 1 (mf t2)) := by
  obtain ⟨g1, g2, -⟩ := H.2.1 t2 ht
  rw [expectF H ht (show ¬ xk t2 = 59 by rw [g1]; exact fun h => hk ((km_all _ g2).2.2.2.2.1.mp h)) he, oB_s]
theorem tail_b {SX TX : Type} {a ep : Int32} {f : TX} (G : Int32 → Int32 → Int32 → Int32 → SX) : oB (Sum.inr f : SX ⊕ TX) (f_Re_expect a 133 1 ep xk xs (59 : Int32)) (fun (r642 : Int32 × Int32 × Int32 × Int32) => (.inl (G r642.1 r642.2.1 r642.2.2.1 r642.2.2.2))) = .inl (G a 133 1 ep) := by
  rw [expectF2 _ _ _ (show ¬ (133 : Int32) = 59 by decide), oB_s]
theorem m_book (H : TKs xk xs xn mk mf xw mv T) {N2 t : Nat} {mm : Nat → Int32} {dp od many : Int32} {mD mB mEd mo mw ma : Nat → Int32} (ht : t ≤ T) (h33 : ¬ mk t = 33) {c : Int32} {s1 : ZM} (h : f_M_isLine N2 (nI t) dp od mk mm mv many mD mB mEd mo mw ma = some (c, s1)) :
    f_M_isBook_L0 N2 mk mv (nI t, dp, od, mm, many, mD, mB, mEd, mo, mw, ma) = if c = 0 then .inr (some (0, s1)) else (oB (.inr none) (f_M_eat s1.1 mk (59 : Int32)) (fun (r1981 : Int32 × Int32) => (if r1981.1 = 0 then (.inr (some ((0 : Int32), r1981.2, s1.2))) else (.inl (r1981.2, s1.2))))) := by
  have h4 := H.1
  unfold f_M_isBook_L0
  simp only [if_pos (show ib (nI t) 401 = true from ib_nI (by omega) (by decide)), nI_clamp (show t < 2 ^ 31 by omega), if_neg h33, h, oB_s]
/-- a line that holds, then what ends it -/
theorem after_ok (H : TKs xk xs xn mk mf xw mv T) {N1 N2 j t2 q r : Nat} {a1 a2 a3 : Int32} {a4 : Int64} {s1 : ZM} {s2 : ZX} {e ep : Int32} {mm mD mB mEd mo mw ma : Nat → Int32} (hM : f_M_isBook_L0 N2 mk mv s1 = if (1 : Int32) = 0 then .inr (some (0, (nI t2, nI 0, nI r, mm, nI q, mD, mB, mEd, mo, mw, ma))) else (oB (.inr none) (f_M_eat (nI t2) mk (59 : Int32)) (fun (r1981 : Int32 × Int32) => (if r1981.1 = 0 then (.inr (some ((0 : Int32), r1981.2, (nI 0, nI r, mm, nI q, mD, mB, mEd, mo, mw, ma)))) else (.inl (r1981.2, (nI 0, nI r, mm, nI q, mD, mB, mEd, mo, mw, ma)))))))
    {clc orc ec tc : Int32} {ew tw : Nat → Int64} {xT xK xE xF xL xD xW xEd sk sp : Nat → Int32}
    (hX : f_Re_read_L7 N1 a1 a2 a3 a4 xk xs xn xw s2 = oB (.inr none) (f_Re_expect (nI t2) (xk t2) e ep xk xs (59 : Int32)) (fun (r642 : Int32 × Int32 × Int32 × Int32) => (.inl (nI (j + 1), r642.1, r642.2.1, nI 0, r642.2.2.1, r642.2.2.2, clc, xT, xK, xE, xF, xL, orc, nI q, xD, xW, xEd, sk, sp, ec, ew, tc, tw))))
    (h1 : 2 * j < t2) (h2 : t2 ≤ T) (h3 : q ≤ t2) (h4 : r ≤ t2) (hz : ∀ j, t2 ≤ j → j ≤ T → mm j = 0) (hc : CI N mk mf mv s0 (LnP ec tc ew tw (OW orc (nI r) q xD xW xEd sk sp mD mB mEd mo mw ma) clc xT xK xE xF xL t2) t2 mm e ep) :
    (∃ a b, f_M_isBook_L0 N2 mk mv s1 = .inl a ∧ f_Re_read_L7 N1 a1 a2 a3 a4 xk xs xn xw s2 = .inl b ∧ LI N mk mf xk mv s0 T (j + 1) a b) ∨ (∃ a b, f_M_isBook_L0 N2 mk mv s1 = .inr a ∧ (∀ m, 1 < m → lpS (f_Re_read_L7 N1 a1 a2 a3 a4 xk xs xn xw) none m s2 = b) ∧ BookOut N mk mf mv s0 T a1 a2 a3 a4 xk xs xn xw a b) := by
  have hT := H.1
  rw [if_neg n10] at hM
  by_cases k : mk t2 = 59
  · obtain ⟨t3, e1⟩ := tail_y (e := e) (ep := ep) (f := (none : RBk)) H (fun a k e ep => ((nI (j + 1), a, k, nI 0, e, ep, clc, xT, xK, xE, xF, xL, orc, nI q, xD, xW, xEd, sk, sp, ec, ew, tc, tw) : ZX)) h2 k
    rw [eat_y H h2 k, oB_s] at hM
    refine Or.inl ⟨_, _, hM, hX.trans e1, t2 + 1, q, r, e, ep, mm, mD, mB, mEd, mo, mw, ma, clc, xT, xK, xE, xF, xL, orc, xD, xW, xEd, sk, sp, ec, ew, tc, tw, rfl, rfl, by omega, by omega, by omega, by omega, fun j a b => hz j (by omega) b, ?_⟩
    exact ci_skip hc (by omega) (hz t2 (Nat.le_refl _) (by omega)) (fun st hs => lnp_skip ow_m (by omega) st hs)
  · have e1 := tail_n (e := e) (ep := ep) (f := (none : RBk)) H (fun a k e ep => ((nI (j + 1), a, k, nI 0, e, ep, clc, xT, xK, xE, xF, xL, orc, nI q, xD, xW, xEd, sk, sp, ec, ew, tc, tw) : ZX)) h2 k (ci_1 hc)
    rw [eat_n H h2 k, oB_s] at hM
    refine Or.inr ⟨_, _, hM, fun m hm => ?_, Or.inr ⟨t2, _, (nI (j + 1), nI t2, 133, nI 0, 1, mf t2, clc, xT, xK, xE, xF, xL, orc, nI q, xD, xW, xEd, sk, sp, ec, ew, tc, tw), h2, rfl, rfl, rfl, rfl, rfl⟩⟩
    obtain ⟨M, rfl⟩ : ∃ M, m = M + 1 + 1 := ⟨m - 2, by omega⟩
    rw [lp_in (hX.trans e1)]
    exact lp_out (x_stop _ (Or.inr rfl))
/-- a line that doesn't hold -/
theorem after_bad (H : TKs xk xs xn mk mf xw mv T) {N1 N2 t2 : Nat} {a1 a2 a3 : Int32} {a4 : Int64} {s1 s3 : ZM} {s2 : ZX} (hM : f_M_isBook_L0 N2 mk mv s1 = .inr (some (0, s3))) (hs : s3.1 = nI t2) (h2 : t2 ≤ T)
    {n a dp clc orc sc ec tc : Int32} {ew tw : Nat → Int64} {xT xK xE xF xL xD xW xEd sk sp : Nat → Int32}
    (hX : f_Re_read_L7 N1 a1 a2 a3 a4 xk xs xn xw s2 = oB (.inr none) (f_Re_expect a 133 1 (mf t2) xk xs (59 : Int32)) (fun (r642 : Int32 × Int32 × Int32 × Int32) => (.inl (n, r642.1, r642.2.1, dp, r642.2.2.1, r642.2.2.2, clc, xT, xK, xE, xF, xL, orc, sc, xD, xW, xEd, sk, sp, ec, ew, tc, tw)))) :
    ∃ a b, f_M_isBook_L0 N2 mk mv s1 = .inr a ∧ (∀ m, 1 < m → lpS (f_Re_read_L7 N1 a1 a2 a3 a4 xk xs xn xw) none m s2 = b) ∧ BookOut N mk mf mv s0 T a1 a2 a3 a4 xk xs xn xw a b := by
  have e1 := tail_b (xk := xk) (xs := xs) (a := a) (ep := mf t2) (f := (none : RBk)) (fun a k e ep => ((n, a, k, dp, e, ep, clc, xT, xK, xE, xF, xL, orc, sc, xD, xW, xEd, sk, sp, ec, ew, tc, tw) : ZX))
  refine ⟨_, _, hM, fun m hm => ?_, Or.inr ⟨t2, s3, (n, a, 133, dp, 1, mf t2, clc, xT, xK, xE, xF, xL, orc, sc, xD, xW, xEd, sk, sp, ec, ew, tc, tw), h2, hs, rfl, rfl, rfl, rfl⟩⟩
  obtain ⟨M, rfl⟩ : ∃ M, m = M + 1 + 1 := ⟨m - 2, by omega⟩
  rw [lp_in (hX.trans e1)]
  exact lp_out (x_stop _ (Or.inr rfl))
theorem book_same (hN : 100 < N) (H : TKs xk xs xn mk mf xw mv T) (HN : ∀ i, i ≤ T → mk i = 31 → ∃ m, m < 1000000 ∧ xn i = nI m) {N1 N2 : Nat} (hN1 : 500 < N1) (hN2 : 500 < N2) (a1 a2 a3 : Int32) (a4 : Int64) {s1 : ZM} {s2 : ZX} (h0 : LI N mk mf xk mv s0 T 0 s1 s2) :
    ∃ a b, lpS (f_M_isBook_L0 N2 mk mv) none N2 s1 = a ∧ lpS (f_Re_read_L7 N1 a1 a2 a3 a4 xk xs xn xw) none N1 s2 = b ∧ BookOut N mk mf mv s0 T a1 a2 a3 a4 xk xs xn xw a b := by
  have hT := H.1
  refine lp_two3 (LI N mk mf xk mv s0 T) 401 _ ?_ (fun s1 s2 h => ?_) (by omega) (by omega) h0
  · intro j s1 s2 hj hI
    have hI2 := hI
    obtain ⟨t, q, r, e, ep, mm, mD, mB, mEd, mo, mw, ma, clc, xT, xK, xE, xF, xL, orc, xD, xW, xEd, sk, sp, ec, ew, tc, tw, rfl, rfl, h1, h2, h3, h4, hz, hc⟩ := hI2
    obtain ⟨g1, g2, -⟩ := H.2.1 t h2
    obtain ⟨y1, y2, y3, y4, y5, y6, y7, y8, y9, y10⟩ := km_tl _ g2
    by_cases k33 : mk t = 33
    · have eT : t = T := by
        rcases Nat.lt_or_eq_of_le h2 with h5 | h5
        · exact absurd k33 (H.2.2.1 t h5).1
        · exact h5
      refine Or.inr ⟨some (1, (nI t, nI 0, nI r, mm, nI q, mD, mB, mEd, mo, mw, ma)), _, ?_, fun m hm => ?_, Or.inl ⟨j, _, _, hI, by rw [eT], rfl, rfl⟩⟩
      · unfold f_M_isBook_L0
        simp only [if_pos (show ib (nI t) 401 = true from ib_nI (by omega) (by decide)), nI_clamp (show t < 2 ^ 31 by omega), if_pos k33]
      · obtain ⟨M, rfl⟩ : ∃ M, m = M + 1 := ⟨m - 1, by omega⟩
        exact lp_out (x_stop _ (Or.inl (by show xk t = 132; rw [g1, k33]; rfl)))
    · have x132 : ¬ xk t = 132 := by rw [g1]; exact fun h => k33 ((km_end _ g2).1.mp h)
      have x400 : ¬ (400 : Int32) ≤ nI j := nI_ge (b := 400) (by omega) (by decide)
      have e1 : ¬ e = 1 := ci_1 hc
      have hib : ib (nI t) 401 = true := ib_nI (by omega) (by decide)
      have hcl : (nI t).toNatClampNeg = t := nI_clamp (by omega)
      have zb1 : zB (1 : Int32) = true := rfl
      have zb0 : zB (0 : Int32) = true := rfl
      by_cases k0 : mk t = 0
      · have tT : t < T := tk_lt H h2 (by rw [k0]; decide) (by rw [k0]; decide)
        have xv : xk t = 200 := by rw [g1]; exact y5.mpr k0
        rcases newe_same hN H ow_m hc tT hz with ⟨t2, e2, ep2, mm2, c2, w2, x1, m1, p1, p2, p3, p4⟩ | ⟨t2, a, mm2, c2, w2, x1, m1, p1⟩
        · refine after_ok (e := e2) (ep := ep2) H (m_book H h2 k33 (c := 1) (s1 := (nI t2, nI 0, nI r, mm2, nI q, mD, mB, mEd, mo, mw, ma)) ?_) ?_ (by omega) p2 (by omega) (by omega) p3 p4
          · unfold f_M_isLine
            simp only [if_pos hib, hcl, if_pos k0, ← nI_succ, m1, oB_s, if_pos zb1]
          · unfold f_Re_read_L7
            simp only [if_neg x400, if_neg x132, if_neg e1, if_pos xv, x1, oB_s, ← nI_succ]
        · refine Or.inr (after_bad (t2 := t2) H (s3 := (nI t2, nI 0, nI r, mm2, nI q, mD, mB, mEd, mo, mw, ma)) ((m_book H h2 k33 (c := 0) (s1 := (nI t2, nI 0, nI r, mm2, nI q, mD, mB, mEd, mo, mw, ma)) ?_).trans (if_pos rfl)) rfl p1 (n := nI j + 1) (a := a) (dp := nI 0) (clc := clc) (orc := orc) (sc := nI q) (ec := c2) (tc := tc) (ew := w2) (tw := tw) (xT := xT) (xK := xK) (xE := xE) (xF := xF) (xL := xL) (xD := xD) (xW := xW) (xEd := xEd) (sk := sk) (sp := sp) ?_)
          · unfold f_M_isLine
            simp only [if_pos hib, hcl, if_pos k0, ← nI_succ, m1, oB_s, if_pos zb0]
          · unfold f_Re_read_L7
            simp only [if_neg x400, if_neg x132, if_neg e1, if_pos xv, x1, oB_s]
      · have nv0 : ¬ xk t = 200 := by rw [g1]; exact fun h => k0 (y5.mp h)
        by_cases k1 : mk t = 1
        · have tT : t < T := tk_lt H h2 (by rw [k1]; decide) (by rw [k1]; decide)
          have xv : xk t = 201 := by rw [g1]; exact y6.mpr k1
          rcases newt_same hN H ow_m ow_m2 hc tT hz with ⟨t2, e2, ep2, mm2, c2, w2, x1, m1, p1, p2, p3, p4⟩ | ⟨t2, a, mm2, c2, w2, x1, m1, p1⟩
          · refine after_ok (e := e2) (ep := ep2) H (m_book H h2 k33 (c := 1) (s1 := (nI t2, nI 0, nI r, mm2, nI q, mD, mB, mEd, mo, mw, ma)) ?_) ?_ (by omega) p2 (by omega) (by omega) p3 p4
            · unfold f_M_isLine
              simp only [if_pos hib, hcl, if_neg k0, if_pos k1, ← nI_succ, m1, oB_s, if_pos zb1]
            · unfold f_Re_read_L7
              simp only [if_neg x400, if_neg x132, if_neg e1, if_neg nv0, if_pos xv, x1, oB_s, ← nI_succ]
          · refine Or.inr (after_bad (t2 := t2) H (s3 := (nI t2, nI 0, nI r, mm2, nI q, mD, mB, mEd, mo, mw, ma)) ((m_book H h2 k33 (c := 0) (s1 := (nI t2, nI 0, nI r, mm2, nI q, mD, mB, mEd, mo, mw, ma)) ?_).trans (if_pos rfl)) rfl p1 (n := nI j + 1) (a := a) (dp := nI 0) (clc := clc) (orc := orc) (sc := nI q) (ec := ec) (tc := c2) (ew := ew) (tw := w2) (xT := xT) (xK := xK) (xE := xE) (xF := xF) (xL := xL) (xD := xD) (xW := xW) (xEd := xEd) (sk := sk) (sp := sp) ?_)
            · unfold f_M_isLine
              simp only [if_pos hib, hcl, if_neg k0, if_pos k1, ← nI_succ, m1, oB_s, if_pos zb0]
            · unfold f_Re_read_L7
              simp only [if_neg x400, if_neg x132, if_neg e1, if_neg nv0, if_pos xv, x1, oB_s]
        · have nv1 : ¬ xk t = 201 := by rw [g1]; exact fun h => k1 (y6.mp h)
          by_cases k2 : mk t = 2
          · have tT : t < T := tk_lt H h2 (by rw [k2]; decide) (by rw [k2]; decide)
            have xv : xk t = 202 := by rw [g1]; exact y7.mpr k2
            rcases told_same hN H HN ow_m hc tT hz with ⟨t2, e2, ep2, mm2, clc2, xT2, xK2, xE2, xF2, xL2, x1, m1, p1, p2, p3, p4⟩ | ⟨t2, a, mm2, clc2, xT2, xK2, xE2, xF2, xL2, x1, m1, p1⟩
            · refine after_ok (e := e2) (ep := ep2) H (m_book H h2 k33 (c := 1) (s1 := (nI t2, nI 0, nI r, mm2, nI q, mD, mB, mEd, mo, mw, ma)) ?_) ?_ (by omega) p2 (by omega) (by omega) p3 p4
              · unfold f_M_isLine
                simp only [if_pos hib, hcl, if_neg k0, if_neg k1, if_pos k2, m1, oB_s, if_pos zb1]
              · unfold f_Re_read_L7
                simp only [if_neg x400, if_neg x132, if_neg e1, if_neg nv0, if_neg nv1, if_pos xv, x1, oB_s, ← nI_succ]
            · refine Or.inr (after_bad (t2 := t2) H (s3 := (nI t2, nI 0, nI r, mm2, nI q, mD, mB, mEd, mo, mw, ma)) ((m_book H h2 k33 (c := 0) (s1 := (nI t2, nI 0, nI r, mm2, nI q, mD, mB, mEd, mo, mw, ma)) ?_).trans (if_pos rfl)) rfl p1 (n := nI j + 1) (a := a) (dp := nI 0) (clc := clc2) (orc := orc) (sc := nI q) (ec := ec) (tc := tc) (ew := ew) (tw := tw) (xT := xT2) (xK := xK2) (xE := xE2) (xF := xF2) (xL := xL2) (xD := xD) (xW := xW) (xEd := xEd) (sk := sk) (sp := sp) ?_)
              · unfold f_M_isLine
                simp only [if_pos hib, hcl, if_neg k0, if_neg k1, if_pos k2, m1, oB_s, if_pos zb0]
              · unfold f_Re_read_L7
                simp only [if_neg x400, if_neg x132, if_neg e1, if_neg nv0, if_neg nv1, if_pos xv, x1, oB_s]
          · have nv2 : ¬ xk t = 202 := by rw [g1]; exact fun h => k2 (y7.mp h)
            by_cases k7 : mk t = 7
            · have tT : t < T := tk_lt H h2 (by rw [k7]; decide) (by rw [k7]; decide)
              have xv : xk t = 207 := by rw [g1]; exact y8.mpr k7
              rcases order_same hN H hN1 hN2 tT h3 h4 hz (Or.inl k7) hc with ⟨t2, q2, e2, ep2, mm2, orc2, xD2, xW2, xEd2, sk2, sp2, mD2, mB2, mEd2, mo2, mw2, ma2, x1, m1, p1, p2, p5, p3, p4⟩ | ⟨t2, a, dp, ep2, orc2, sc2, xD2, xW2, xEd2, sk2, sp2, dm, ordr2, mm2, q2, mD2, mB2, mEd2, mo2, mw2, ma2, x1, rfl, m1, p1⟩
              · refine after_ok (e := e2) (ep := ep2) H (m_book H h2 k33 (c := 1) (s1 := (nI t2, nI 0, nI (r + 1), mm2, nI q2, mD2, mB2, mEd2, mo2, mw2, ma2)) ?_) ?_ (by omega) p2 (by omega) (by omega) p3 p4
                · unfold f_M_isLine
                  simp only [if_pos hib, hcl, if_neg k0, if_neg k1, if_neg k2, if_pos k7, m1, oB_s, if_neg n10]
                · unfold f_Re_read_L7
                  simp only [if_neg x400, if_neg x132, if_neg e1, if_neg nv0, if_neg nv1, if_neg nv2, if_pos xv, x1, oB_s, ← nI_succ]
              · refine Or.inr (after_bad (t2 := t2) H (s3 := (nI t2, dm, ordr2, mm2, q2, mD2, mB2, mEd2, mo2, mw2, ma2)) ((m_book H h2 k33 (c := 0) (s1 := (nI t2, dm, ordr2, mm2, q2, mD2, mB2, mEd2, mo2, mw2, ma2)) ?_).trans (if_pos rfl)) rfl p1 (n := nI j + 1) (a := a) (dp := dp) (clc := clc) (orc := orc2) (sc := sc2) (ec := ec) (tc := tc) (ew := ew) (tw := tw) (xT := xT) (xK := xK) (xE := xE) (xF := xF) (xL := xL) (xD := xD2) (xW := xW2) (xEd := xEd2) (sk := sk2) (sp := sp2) ?_)
                · unfold f_M_isLine
                  simp only [if_pos hib, hcl, if_neg k0, if_neg k1, if_neg k2, if_pos k7, m1, oB_s, if_true]
                · unfold f_Re_read_L7
                  simp only [if_neg x400, if_neg x132, if_neg e1, if_neg nv0, if_neg nv1, if_neg nv2, if_pos xv, x1, oB_s]
            · have nv7 : ¬ xk t = 207 := by rw [g1]; exact fun h => k7 (y8.mp h)
              by_cases k8 : mk t = 8
              · have tT : t < T := tk_lt H h2 (by rw [k8]; decide) (by rw [k8]; decide)
                have xv : xk t = 208 := by rw [g1]; exact y9.mpr k8
                rcases order_same hN H hN1 hN2 tT h3 h4 hz (Or.inr k8) hc with ⟨t2, q2, e2, ep2, mm2, orc2, xD2, xW2, xEd2, sk2, sp2, mD2, mB2, mEd2, mo2, mw2, ma2, x1, m1, p1, p2, p5, p3, p4⟩ | ⟨t2, a, dp, ep2, orc2, sc2, xD2, xW2, xEd2, sk2, sp2, dm, ordr2, mm2, q2, mD2, mB2, mEd2, mo2, mw2, ma2, x1, rfl, m1, p1⟩
                · refine after_ok (e := e2) (ep := ep2) H (m_book H h2 k33 (c := 1) (s1 := (nI t2, nI 0, nI (r + 1), mm2, nI q2, mD2, mB2, mEd2, mo2, mw2, ma2)) ?_) ?_ (by omega) p2 (by omega) (by omega) p3 p4
                  · unfold f_M_isLine
                    simp only [if_pos hib, hcl, if_neg k0, if_neg k1, if_neg k2, if_neg k7, if_pos k8, m1, oB_s, if_neg n10]
                  · unfold f_Re_read_L7
                    simp only [if_neg x400, if_neg x132, if_neg e1, if_neg nv0, if_neg nv1, if_neg nv2, if_neg nv7, if_pos xv, x1, oB_s, ← nI_succ]
                · refine Or.inr (after_bad (t2 := t2) H (s3 := (nI t2, dm, ordr2, mm2, q2, mD2, mB2, mEd2, mo2, mw2, ma2)) ((m_book H h2 k33 (c := 0) (s1 := (nI t2, dm, ordr2, mm2, q2, mD2, mB2, mEd2, mo2, mw2, ma2)) ?_).trans (if_pos rfl)) rfl p1 (n := nI j + 1) (a := a) (dp := dp) (clc := clc) (orc := orc2) (sc := sc2) (ec := ec) (tc := tc) (ew := ew) (tw := tw) (xT := xT) (xK := xK) (xE := xE) (xF := xF) (xL := xL) (xD := xD2) (xW := xW2) (xEd := xEd2) (sk := sk2) (sp := sp2) ?_)
                  · unfold f_M_isLine
                    simp only [if_pos hib, hcl, if_neg k0, if_neg k1, if_neg k2, if_neg k7, if_pos k8, m1, oB_s, if_true]
                  · unfold f_Re_read_L7
                    simp only [if_neg x400, if_neg x132, if_neg e1, if_neg nv0, if_neg nv1, if_neg nv2, if_neg nv7, if_pos xv, x1, oB_s]
              · have nv8 : ¬ xk t = 208 := by rw [g1]; exact fun h => k8 (y9.mp h)
                refine Or.inr (after_bad (t2 := t) H (s3 := (nI t, nI 0, nI r, mm, nI q, mD, mB, mEd, mo, mw, ma)) ((m_book H h2 k33 (c := 0) (s1 := (nI t, nI 0, nI r, mm, nI q, mD, mB, mEd, mo, mw, ma)) ?_).trans (if_pos rfl)) rfl h2 (n := nI j + 1) (a := nI t) (dp := nI 0) (clc := clc) (orc := orc) (sc := nI q) (ec := ec) (tc := tc) (ew := ew) (tw := tw) (xT := xT) (xK := xK) (xE := xE) (xF := xF) (xL := xL) (xD := xD) (xW := xW) (xEd := xEd) (sk := sk) (sp := sp) ?_)
                · unfold f_M_isLine
                  simp only [if_pos hib, hcl, if_neg k0, if_neg k1, if_neg k2, if_neg k7, if_neg k8]
                · unfold f_Re_read_L7
                  simp only [if_neg x400, if_neg x132, if_neg e1, if_neg nv0, if_neg nv1, if_neg nv2, if_neg nv7, if_neg nv8, failAt H h2 (xk t) e1, oB_s]
  · obtain ⟨t, q, r, e, ep, mm, mD, mB, mEd, mo, mw, ma, clc, xT, xK, xE, xF, xL, orc, xD, xW, xEd, sk, sp, ec, ew, tc, tw, -, -, h1, h2, -⟩ := h
    omega
end BK
