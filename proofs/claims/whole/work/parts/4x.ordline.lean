/-! the line of an order -/
section OS
variable {N : Nat} {mk mf xk xs xn : Nat → Int32} {mv xw : Nat → Int64} {s0 : S2} {T : Nat} {ec tc clc orc ordr : Int32} {ew tw : Nat → Int64} {xT xK xE xF xL : Nat → Int32} {q : Nat} {xD xW xEd sk sp mD mB mEd mo mw ma : Nat → Int32}
abbrev OX := Int32 × Int32 × Int32 × Int32 × Int32 × Int32 × Int32 × (Nat → Int32) × (Nat → Int32) × (Nat → Int32) × (Nat → Int32) × (Nat → Int32)
abbrev OM := Int32 × Int32 × Int32 × Int32 × (Nat → Int32) × Int32 × (Nat → Int32) × (Nat → Int32) × (Nat → Int32) × (Nat → Int32) × (Nat → Int32) × (Nat → Int32)
def ordK (N : Nat) (xk xs xn : Nat → Int32) (xw : Nat → Int64) (dp ec tc : Int32) (ew tw : Nat → Int64) (orc sc : Int32) (xD xW xEd sk sp : Nat → Int32) (c a k e ep : Int32) : Option OX :=
  oB none (f_Re_readKnown_v1 a k e ep xk xs xw tc tw) (fun (r418 : Int32 × Int32 × Int32 × Int32 × Int32) => (if r418.2.2.1 = (209 : Int32) then (oB none (f_Re_advance r418.2.1 r418.2.2.1 xk) (fun (r424 : Int32 × Int32) => (oB none (f_Re_parse N xk xs xn xw ec ew tc tw 64 0 0 0 (r424.1, r424.2, dp, r418.2.2.2.1, r418.2.2.2.2, sc, sk, sp)) (fun (r426 : Int32 × Int32 × Int32 × Int32 × Int32 × Int32 × (Nat → Int32) × (Nat → Int32)) => (if r426.2.2.2.1 = 0 then (oB none (f_Or_add orc r426.2.2.2.2.2.1 xD xW xEd c r418.1) (fun (r429 : Int32 × (Nat → Int32) × (Nat → Int32) × (Nat → Int32)) => (some (r426.1, r426.2.1, r426.2.2.1, r426.2.2.2.1, r426.2.2.2.2.1, r429.1, r426.2.2.2.2.2.1, r429.2.1, r429.2.2.1, r429.2.2.2, r426.2.2.2.2.2.2.1, r426.2.2.2.2.2.2.2)))) else (some (r426.1, r426.2.1, r426.2.2.1, r426.2.2.2.1, r426.2.2.2.2.1, orc, r426.2.2.2.2.2.1, xD, xW, xEd, r426.2.2.2.2.2.2.1, r426.2.2.2.2.2.2.2))))))) else (if r418.2.2.2.1 = 0 then (oB none (f_Or_add orc sc xD xW xEd c r418.1) (fun (r422 : Int32 × (Nat → Int32) × (Nat → Int32) × (Nat → Int32)) => (some (r418.2.1, r418.2.2.1, dp, r418.2.2.2.1, r418.2.2.2.2, r422.1, sc, r422.2.1, r422.2.2.1, r422.2.2.2, sk, sp)))) else (some (r418.2.1, r418.2.2.1, dp, r418.2.2.2.1, r418.2.2.2.2, orc, sc, xD, xW, xEd, sk, sp)))))
theorem ord_eq {N : Nat} (dp sc a k e ep : Int32) : f_Re_readOrder N a k dp e ep xk xs xn xw orc sc xD xW xEd sk sp ec ew tc tw =
    if k = 207 then (if f_Or_isFull orc = 0 then (oB none (f_Re_advance a k xk) (fun (r416 : Int32 × Int32) => ordK N xk xs xn xw dp ec tc ew tw orc sc xD xW xEd sk sp 1 r416.1 r416.2 e ep)) else (oB none (f_Re_note a e ep xs (4 : Int32)) (fun (r431 : Int32 × Int32) => (oB none (f_Re_advance a k xk) (fun (r433 : Int32 × Int32) => ordK N xk xs xn xw dp ec tc ew tw orc sc xD xW xEd sk sp 1 r433.1 r433.2 r431.1 r431.2)))))
    else (if f_Or_isFull orc = 0 then (oB none (f_Re_advance a k xk) (fun (r416 : Int32 × Int32) => ordK N xk xs xn xw dp ec tc ew tw orc sc xD xW xEd sk sp 0 r416.1 r416.2 e ep)) else (oB none (f_Re_note a e ep xs (4 : Int32)) (fun (r431 : Int32 × Int32) => (oB none (f_Re_advance a k xk) (fun (r433 : Int32 × Int32) => ordK N xk xs xn xw dp ec tc ew tw orc sc xD xW xEd sk sp 0 r433.1 r433.2 r431.1 r431.2))))) := by
  unfold f_Re_readOrder ordK
  rfl
def OrdOut (N : Nat) (mk mf xk : Nat → Int32) (mv : Nat → Int64) (s0 : S2) (T : Nat) (ec tc : Int32) (ew tw : Nat → Int64) (clc : Int32) (xT xK xE xF xL : Nat → Int32) (t r0 : Nat) (X : Option OX) (M : Option OM) : Prop :=
  (∃ t2 q2 e2 ep2 mm2 orc2 xD2 xW2 xEd2 sk2 sp2 mD2 mB2 mEd2 mo2 mw2 ma2, X = some (nI t2, xk t2, nI 0, e2, ep2, orc2, nI q2, xD2, xW2, xEd2, sk2, sp2) ∧ M = some (1, nI t2, nI 0, nI (r0 + 1), mm2, nI q2, mD2, mB2, mEd2, mo2, mw2, ma2) ∧ t < t2 ∧ t2 ≤ T ∧ q2 ≤ t2 ∧ (∀ j, t2 ≤ j → j ≤ T → mm2 j = 0) ∧
    CI N mk mf mv s0 (LnP ec tc ew tw (OW orc2 (nI (r0 + 1)) q2 xD2 xW2 xEd2 sk2 sp2 mD2 mB2 mEd2 mo2 mw2 ma2) clc xT xK xE xF xL t2) t2 mm2 e2 ep2) ∨
  (∃ t2 a dp ep2 orc2 sc2 xD2 xW2 xEd2 sk2 sp2 dm ordr2 mm2 q2 mD2 mB2 mEd2 mo2 mw2 ma2, X = some (a, 133, dp, 1, ep2, orc2, sc2, xD2, xW2, xEd2, sk2, sp2) ∧ ep2 = mf t2 ∧ M = some (0, nI t2, dm, ordr2, mm2, q2, mD2, mB2, mEd2, mo2, mw2, ma2) ∧ t2 ≤ T)
/-- what the model makes of names within a test: nothing but who they are -/
theorem q_rest (hN : 100 < N) (H : TKs xk xs xn mk mf xw mv T) {ne nt : Nat} {cl od : Int32} {event teller : Nat → Int64} {kd bY oF oT lA wM : Nat → Int32} (d : NM ec tc ew tw ne nt event teller) :
    QH mk mf mv T nt ne ec tc ew tw (fun t mm who => Ch N mk mv s0 mm t (who, nI ne, nI nt, cl, od, event, teller, kd, bY, oF, oT, lA, wM)) (fun t mm e ep => ChE N mk mf mv s0 t mm e ep) := by
  have h4 := H.1
  obtain ⟨d1, d2, d3, d4, d5, d6⟩ := d
  refine ⟨fun t mm who as r ht hq hk hr => ?_, fun t mm who ht hq h0 => ⟨_, hq, e_0 (by omega) h0 _⟩, fun t mm mm2 e ep ht h hj => che_mono h (by omega) (by omega) hj, fun x => ?_, fun x => ?_, d2, d1⟩
  · have hc := ch_congr (mm2 := upd mm t as) t _ (by omega) (fun j hj => upd_ne (by omega)) hq
    have step : E2 N mk (upd mm t as) mv (who, nI ne, nI nt, cl, od, event, teller, kd, bY, oF, oT, lA, wM) t = some ((if r = -1 then 3 else 0), upd who t r, nI ne, nI nt, cl, od, event, teller, kd, bY, oF, oT, lA, wM) := by
      rcases hr with ⟨rfl, hr⟩ | ⟨rfl, hr⟩
      · rw [hr, d3]
        exact e_11 hN (by omega) upd_at d1 d5
      · rw [hr, d4]
        exact e_12 hN (by omega) upd_at d2 d6
    refine ⟨fun h => ?_, fun h => ?_⟩
    · rw [if_neg h] at step
      exact ⟨_, hc, step⟩
    · rw [if_pos h] at step
      exact ⟨t, by omega, _, _, hc, step, by decide, rfl⟩
  · by_cases h : nfind 8 ew ec x = -1
    · exact Or.inl h
    · exact Or.inr (nf_in8 d3 d1 h)
  · by_cases h : nfind 10 tw tc x = -1
    · exact Or.inl h
    · exact Or.inr (nf_in10 d4 d2 h)
theorem q_none (H : TKs xk xs xn mk mf xw mv T) : QH mk mf mv T 10 8 ec tc ew tw (fun _ _ _ => False) (fun t mm e ep => ChE N mk mf mv s0 t mm e ep) := by
  have h4 := H.1
  refine ⟨fun t mm who as r ht hq hk hr => hq.elim, fun t mm who ht hq h0 => hq, fun t mm mm2 e ep ht h hj => che_mono h (by omega) (by omega) hj, fun x => ?_, fun x => ?_, Nat.le_refl _, Nat.le_refl _⟩
  · rcases nfF_any (w := ew) (x := x) (d := ec) 8 0 with h | ⟨k, h1, h2⟩
    · exact Or.inl h
    · exact Or.inr ⟨k, by omega, h2⟩
  · rcases nfF_any (w := tw) (x := x) (d := tc) 10 0 with h | ⟨k, h1, h2⟩
    · exact Or.inl h
    · exact Or.inr ⟨k, by omega, h2⟩
/-- the test of an order, in the chain -/
theorem cond_same (hN : 100 < N) (H : TKs xk xs xn mk mf xw mv T) {N1 N2 : Nat} (hN1 : 500 < N1) (hN2 : 500 < N2) {t : Nat} {mm : Nat → Int32} {e ep r1 : Int32} (ht : t ≤ T) (hqt : q ≤ t) (hz : ∀ j, t ≤ j → j ≤ T → mm j = 0)
    (h : CI N mk mf mv s0 (LnP ec tc ew tw (OV orc ordr q q xD xW xEd sk sp mD mB mEd mo mw ma (Z1 r1)) clc xT xK xE xF xL t) t mm e ep) :
    (∃ t2 q2 e2 ep2 mm2 sk2 sp2 mo2 mw2 ma2, f_Re_parse N1 xk xs xn xw ec ew tc tw 64 0 0 0 (nI t, xk t, nI 0, e, ep, nI q, sk, sp) = some (nI t2, xk t2, nI 0, e2, ep2, nI q2, sk2, sp2) ∧ f_M_parse N2 mk mv 64 0 0 0 (nI t, nI 0, mm, nI q, mo, mw, ma) = some (1, nI t2, nI 0, mm2, nI q2, mo2, mw2, ma2) ∧ t < t2 ∧ t2 ≤ T ∧ q2 ≤ t2 ∧ (∀ j, t2 ≤ j → j ≤ T → mm2 j = 0) ∧
      CI N mk mf mv s0 (LnP ec tc ew tw (OV orc ordr q q2 xD xW xEd sk2 sp2 mD mB mEd mo2 mw2 ma2 (Z1 r1)) clc xT xK xE xF xL t2) t2 mm2 e2 ep2) ∨
    FLp mf T (f_Re_parse N1 xk xs xn xw ec ew tc tw 64 0 0 0 (nI t, xk t, nI 0, e, ep, nI q, sk, sp)) (f_M_parse N2 mk mv 64 0 0 0 (nI t, nI 0, mm, nI q, mo, mw, ma)) := by
  rcases h with ⟨h1, h2, st, h3, ne, nt, m, who, od, event, teller, kd, bY, oF, oT, lA, wM, rfl, a3, a4, a5, a6, r, b1, b2, b3, b4, b5, b6, b7, b8, b9⟩ | ⟨h1, h2, h3⟩
  · have key := test_same (N1 := N1) (N2 := N2) (sk := sk) (sp := sp) (mo := mo) (mw := mw) (ma := ma) H (q_rest (N := N) (s0 := s0) (cl := nI m) (od := od) (kd := kd) (bY := bY) (oF := oF) (oT := oT) (lA := lA) (wM := wM) hN H a4) hN1 hN2 (t := t) (q := q) (e := e) (ep := ep) (mm := mm) (who := who) ⟨ht, hqt, Or.inl ⟨h1, h2, h3⟩, hz, fun _ => b7⟩
    rcases key with ⟨t2, q2, e2, ep2, mm2, who2, sk2, sp2, mo2, mw2, ma2, k1, k2, ⟨c1, c2, c3, c4, c5⟩, k3, k4, k5, k6, k7⟩ | key
    · refine Or.inl ⟨t2, q2, e2, ep2, mm2, sk2, sp2, mo2, mw2, ma2, k1, k2, k3, c1, c2, c4, ?_⟩
      rcases c3 with ⟨f1, f2, f3⟩ | ⟨f1, f2, f3⟩
      · refine Or.inl ⟨f1, f2, _, f3, ne, nt, m, who2, od, event, teller, kd, bY, oF, oT, lA, wM, rfl, a3, a4, a5, a6, r, b1, b2, b3, b4, b5, oe_sk k7 b6, c5 f1, k4, Or.inr ?_⟩
        rw [tyP_R]
        exact k6 []
      · exact Or.inr ⟨f1, f2, f3⟩
    · exact Or.inr key
  · have key := test_same (N1 := N1) (N2 := N2) (sk := sk) (sp := sp) (mo := mo) (mw := mw) (ma := ma) H (q_none (N := N) (s0 := s0) (ec := ec) (tc := tc) (ew := ew) (tw := tw) H) hN1 hN2 (t := t) (q := q) (e := e) (ep := ep) (mm := mm) (who := mm) ⟨ht, hqt, Or.inr ⟨h1, h2, h3⟩, hz, fun h9 => absurd h9 h1⟩
    rcases key with ⟨t2, q2, e2, ep2, mm2, who2, sk2, sp2, mo2, mw2, ma2, k1, k2, ⟨c1, c2, c3, c4, c5⟩, k3, k4, k5, k6, k7⟩ | key
    · refine Or.inl ⟨t2, q2, e2, ep2, mm2, sk2, sp2, mo2, mw2, ma2, k1, k2, k3, c1, c2, c4, ?_⟩
      rcases c3 with ⟨f1, f2, f3⟩ | ⟨f1, f2, f3⟩
      · exact f3.elim
      · exact Or.inr ⟨f1, f2, f3⟩
    · exact Or.inr key
theorem order_same (hN : 100 < N) (H : TKs xk xs xn mk mf xw mv T) {N1 N2 : Nat} (hN1 : 500 < N1) (hN2 : 500 < N2) {t r0 : Nat} {mm : Nat → Int32} {e ep : Int32} (ht : t < T) (hqt : q ≤ t) (hr0 : r0 ≤ t) (hz : ∀ j, t ≤ j → j ≤ T → mm j = 0) (hk : mk t = 7 ∨ mk t = 8)
    (h : CI N mk mf mv s0 (LnP ec tc ew tw (OW orc (nI r0) q xD xW xEd sk sp mD mB mEd mo mw ma) clc xT xK xE xF xL t) t mm e ep) :
    OrdOut N mk mf xk mv s0 T ec tc ew tw clc xT xK xE xF xL t r0 (f_Re_readOrder N1 (nI t) (xk t) (nI 0) e ep xk xs xn xw orc (nI q) xD xW xEd sk sp ec ew tc tw) (f_M_isOrder N2 (nI t) (nI 0) (nI r0) mk mm mv (nI q) mD mB mEd mo mw ma) := by
  have h4 := H.1
  have hadv := adv H ht (xk t)
  obtain ⟨s, hs16, hmin, hs⟩ := min15 (r := r0) (by omega)
  have hst : ∀ st, LnP ec tc ew tw (OW orc (nI r0) q xD xW xEd sk sp mD mB mEd mo mw ma) clc xT xK xE xF xL t st → ∃ st2, E2 N mk (upd mm t 9) mv st t = some ((if f_Or_isFull orc = 0 then 0 else 4), st2) ∧ (f_Or_isFull orc = 0 → LnP ec tc ew tw (OV orc (nI r0) q q xD xW xEd sk sp mD mB mEd mo mw ma (fun _ _ => True)) clc xT xK xE xF xL (t + 1) st2) := by
    intro st hs
    obtain ⟨ne, nt, m, who, od, event, teller, kd, bY, oF, oT, lA, wM, rfl, a3, a4, a5, a6, r, b1, b2, b3, b4, b5, b6⟩ := hs
    have hf : f_Or_isFull orc = if r < 16 then 0 else 1 := by
      unfold f_Or_isFull
      rw [b3]
      by_cases hm : r < 16
      · rw [if_pos hm, if_pos (show nI r < 16 from nI_lt (b := 16) hm (by decide))]
      · rw [if_neg hm, if_neg (show ¬ nI r < 16 from nI_nlt (b := 16) (by omega) (by omega))]
    have h5 := e_9 (N := N) (mk := mk) (mv := mv) (mm := upd mm t 9) (who := who) (ev := nI ne) (te := nI nt) (cl := nI m) (event := event) (teller := teller) (kd := kd) (bY := bY) (oF := oF) (oT := oT) (lA := lA) (wM := wM) (t := t) (m := r) (by omega) upd_at b1
    rw [hf, b2]
    by_cases hm : r < 16
    · rw [if_neg (by omega)] at h5
      refine ⟨_, h5.trans (by rw [if_pos hm]; rfl), fun _ => ⟨ne, nt, m, who, nI (r + 1), event, teller, kd, bY, oF, oT, lA, wM, rfl, a3, a4, a5, a6, r, hm, rfl, b3, b4, trivial, b5, fun i hi => str_mono (b6 i hi) (by omega) (by omega) (fun _ _ => rfl), Nat.le_refl _, Or.inl rfl⟩⟩
    · rw [if_pos (by omega)] at h5
      refine ⟨_, h5.trans (by rw [if_neg hm]; rfl), fun h9 => ?_⟩
      rw [if_neg hm] at h9
      exact absurd h9 n10
  obtain ⟨g1, g2, -⟩ := H.2.1 t (by omega)
  obtain ⟨y1, y2, y3, y4, y5, y6, y7, y8, y9, y10⟩ := km_tl _ g2
  have hX : ∃ c e1 ep1, (c = if mk t = 7 then 1 else 0) ∧ f_Main_one c = c ∧ f_Re_readOrder N1 (nI t) (xk t) (nI 0) e ep xk xs xn xw orc (nI q) xD xW xEd sk sp ec ew tc tw = ordK N1 xk xs xn xw (nI 0) ec tc ew tw orc (nI q) xD xW xEd sk sp c (nI (t + 1)) (xk (t + 1)) e1 ep1 ∧ CI N mk mf mv s0 (LnP ec tc ew tw (OV orc (nI r0) q q xD xW xEd sk sp mD mB mEd mo mw ma (fun _ _ => True)) clc xT xK xE xF xL (t + 1)) (t + 1) (upd mm t 9) e1 ep1 := by
    rw [ord_eq]
    by_cases hf : f_Or_isFull orc = 0
    · have hci := ci_ok (P2 := LnP ec tc ew tw (OV orc (nI r0) q q xD xW xEd sk sp mD mB mEd mo mw ma (fun _ _ => True)) clc xT xK xE xF xL (t + 1)) (mm2 := upd mm t 9) h (by omega) (fun j hj => upd_ne (by omega)) (fun st hs => by
        obtain ⟨st2, f1, f2⟩ := hst st hs
        rw [if_pos hf] at f1
        exact ⟨st2, f1, f2 hf⟩)
      by_cases h7 : mk t = 7
      · rw [if_pos (show xk t = 207 by rw [g1]; exact y8.mpr h7), if_pos hf, hadv]
        exact ⟨1, e, ep, by rw [if_pos h7], by decide, rfl, hci⟩
      · rw [if_neg (show ¬ xk t = 207 by rw [g1]; exact fun h9 => h7 (y8.mp h9)), if_pos hf, hadv]
        exact ⟨0, e, ep, by rw [if_neg h7], by decide, rfl, hci⟩
    · obtain ⟨e2, ep2, x1, x2, c2⟩ := ci_bad (c := 4) (mm2 := upd mm t 9) H (by decide) (by decide) h (by omega) (fun j hj => upd_ne (by omega)) (fun st hs => by
        obtain ⟨st2, f1, -⟩ := hst st hs
        rw [if_neg hf] at f1
        exact ⟨st2, f1⟩)
      by_cases h7 : mk t = 7
      · rw [if_pos (show xk t = 207 by rw [g1]; exact y8.mpr h7), if_neg hf, x1, oB_s, hadv]
        exact ⟨1, e2, ep2, by rw [if_pos h7], by decide, rfl, c2 _⟩
      · rw [if_neg (show ¬ xk t = 207 by rw [g1]; exact fun h9 => h7 (y8.mp h9)), if_neg hf, x1, oB_s, hadv]
        exact ⟨0, e2, ep2, by rw [if_neg h7], by decide, rfl, c2 _⟩
  obtain ⟨c, e1, ep1, hcd, hc1, hX, c1⟩ := hX
  rw [hX]
  have kz : ∀ j, t + 1 ≤ j → j ≤ T → upd mm t 9 j = 0 := fun j a b => (upd_ne (by omega)).trans (hz j (by omega) b)
  have hib : ib (f_J9_min_7cf53 15 (nI r0)) 16 = true := by rw [hmin]; exact ib_nI hs16 (by decide)
  have hcl : (f_J9_min_7cf53 15 (nI r0)).toNatClampNeg = s := by rw [hmin]; exact nI_clamp (by omega)
  unfold f_M_isOrder ordK
  simp only [if_pos (show ib (nI t) 401 = true from ib_nI (by omega) (by decide)), if_pos hib, hcl, nI_clamp (show t < 2 ^ 31 by omega), ← nI_succ]
  by_cases k1 : mk (t + 1) = 30
  · have t1 : t + 1 < T := tk_lt H (by omega) (by rw [k1]; decide) (by rw [k1]; decide)
    obtain ⟨e2, ep2, x1, c2⟩ := ci_kt (P2 := LnP ec tc ew tw (OV orc (nI r0) q q xD xW xEd sk sp mD mB mEd mo mw ma (Z1 (nfind 10 tw tc (mv (t + 1))))) clc xT xK xE xF xL (t + 2)) (mm2 := upd (upd mm t 9) (t + 1) 10) (tc := tc) (tw := tw) H c1 t1 k1 (fun j hj => upd_ne (by omega)) (fun st hs => by
      obtain ⟨ne, nt, m, who, od, event, teller, kd, bY, oF, oT, lA, wM, rfl, a3, a4, a5, a6, r, b1, b2, b3, b4, b5, b6, b7, b8, b9⟩ := hs
      obtain ⟨d1, d2, d3, d4, d5, d6⟩ := a4
      rw [b2]
      refine ⟨_, (e_10 hN (by omega) upd_at b1 d2 d6).trans ?_, fun hne => ⟨ne, nt, m, upd who (t + 1) (nfind 10 tw (nI nt) (mv (t + 1))), nI (r + 1), event, teller, kd, bY, oF, oT, lA, upd wM r (nfind 10 tw (nI nt) (mv (t + 1))), rfl, a3, ⟨d1, d2, d3, d4, d5, d6⟩, a5, a6, r, b1, rfl, b3, b4, ⟨?_, nf_in10 d4 d2 hne⟩, oe_wm (fun k hk => upd_ne (by omega)) b6, fun i hi => str_mono (b7 i hi) (by omega) (by omega) (fun j hj => upd_ne (by omega)), b8, b9⟩⟩
      · rw [d4]
      · rw [upd_at, d4])
    simp only [x1, oB_s, eatAs_y H (show t + 1 ≤ T by omega) (upd mm t 9) 10 k1, if_neg n10]
    have kz2 : ∀ j, t + 2 ≤ j → j ≤ T → upd (upd mm t 9) (t + 1) 10 j = 0 := fun j a b => (upd_ne (by omega)).trans (kz j (by omega) b)
    obtain ⟨g3, g4, -⟩ := H.2.1 (t + 1 + 1) (by omega)
    have y209 := (km_tl _ g4).2.2.2.2.2.2.2.2.2
    by_cases k9 : mk (t + 1 + 1) = 9
    · have t2 : t + 1 + 1 < T := tk_lt H (by omega) (by rw [k9]; decide) (by rw [k9]; decide)
      have c3 := ci_skip (P2 := LnP ec tc ew tw (OV orc (nI r0) q q xD xW xEd sk sp mD mB mEd mo mw ma (Z1 (nfind 10 tw tc (mv (t + 1))))) clc xT xK xE xF xL (t + 1 + 1 + 1)) c2 (by omega) (kz2 _ (Nat.le_refl _) (by omega)) (fun st hs => lnp_skip ov_m (by omega) st hs)
      simp only [if_pos (show xk (t + 1 + 1) = 209 by rw [g3]; exact y209.mpr k9), adv H t2, oB_s, eat_y H (show t + 1 + 1 ≤ T by omega) k9, if_neg n10]
      rcases cond_same hN H hN1 hN2 (show t + 1 + 1 + 1 ≤ T by omega) (show q ≤ t + 1 + 1 + 1 by omega) (fun j a b => kz2 j (by omega) b) c3 with ⟨t3, q2, e3, ep3, mm3, sk2, sp2, mo2, mw2, ma2, k2, k3, k4, k5, k6, k7, c4⟩ | ⟨t3, a, dp, sc, sk2, sp2, dm, mm3, q2, mo2, mw2, ma2, k2, k3, k4⟩
      · obtain ⟨orc2, xD2, xW2, xEd2, x3, c5⟩ := ord_fin (s := s) (nI t3) (xk t3) (nI 0) c (mk t) (nfind 10 tw tc (mv (t + 1))) hcd hc1 rfl (by omega) hs c4
        simp only [k2, k3, oB_s, if_neg n10]
        exact Or.inl ⟨t3, q2, e3, ep3, mm3, orc2, xD2, xW2, xEd2, sk2, sp2, _, _, _, mo2, mw2, ma2, x3, rfl, by omega, k5, k6, k7, c5⟩
      · simp only [k2, k3, oB_s, if_neg n10, if_true]
        exact Or.inr ⟨t3, _, _, _, _, _, _, _, _, _, _, _, _, _, _, _, _, _, _, _, _, rfl, rfl, rfl, k4⟩
    · obtain ⟨orc2, xD2, xW2, xEd2, x3, c5⟩ := ord_fin (s := s) (nI (t + 1 + 1)) (xk (t + 1 + 1)) (nI 0) c (mk t) (nfind 10 tw tc (mv (t + 1))) hcd hc1 rfl (by omega) hs c2
      simp only [if_neg (show ¬ xk (t + 1 + 1) = 209 by rw [g3]; exact fun h9 => k9 (y209.mp h9)), oB_s, eat_n H (show t + 1 + 1 ≤ T by omega) k9, if_true]
      exact Or.inl ⟨t + 1 + 1, q, e2, ep2, upd (upd mm t 9) (t + 1) 10, orc2, xD2, xW2, xEd2, sk, sp, _, _, _, mo, mw, ma, x3, rfl, by omega, by omega, by omega, kz2, c5⟩
  · have k2 := known_tF (xtc := tc) (xtw := tw) (e := e1) (ep := ep1) H (show t + 1 ≤ T by omega) k1 (ci_1 c1)
    simp only [k2, oB_s, eatAs_n H (show t + 1 ≤ T by omega) (upd mm t 9) 10 k1, if_true, if_neg n10, if_neg (show ¬ (133 : Int32) = 209 by decide)]
    exact Or.inr ⟨t + 1, _, _, _, _, _, _, _, _, _, _, _, _, _, _, _, _, _, _, _, _, rfl, rfl, rfl, by omega⟩
end OS
