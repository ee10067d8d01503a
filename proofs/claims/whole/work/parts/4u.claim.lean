/-! a claim of the tape: what is told of two events, and the whole line -/
section CL
variable {N : Nat} {mk mf xk xs xn : Nat → Int32} {mv xw : Nat → Int64} {s0 : S2} {T : Nat} {ec tc clc : Int32} {ew tw : Nat → Int64} {W : WT} {xT xK xE xF xL : Nat → Int32}
abbrev CT := Int32 × Int32 × Int32 × Int32 × Int32 × (Nat → Int32) × (Nat → Int32) × (Nat → Int32) × (Nat → Int32) × (Nat → Int32)
def othK (xk xs : Nat → Int32) (xw : Nat → Int64) (ec : Int32) (ew : Nat → Int64) (clc : Int32) (xT xK xE xF xL : Nat → Int32) (p1 p2 c a k e ep : Int32) : Option CT :=
  oB none (f_Re_readKnown a k e ep xk xs xw ec ew) (fun (r489 : Int32 × Int32 × Int32 × Int32 × Int32) => (if r489.2.2.2.1 = 0 then (oB none (f_Cl_add clc xT xK xE xF xL p1 c p2 r489.1 (0 : Int32)) (fun (r492 : Int32 × (Nat → Int32) × (Nat → Int32) × (Nat → Int32) × (Nat → Int32) × (Nat → Int32)) => (some (r489.2.1, r489.2.2.1, r489.2.2.2.1, r489.2.2.2.2, r492.1, r492.2.1, r492.2.2.1, r492.2.2.2.1, r492.2.2.2.2.1, r492.2.2.2.2.2)))) else (some (r489.2.1, r489.2.2.1, r489.2.2.2.1, r489.2.2.2.2, clc, xT, xK, xE, xF, xL))))
def othP (xk xs : Nat → Int32) (xw : Nat → Int64) (ec : Int32) (ew : Nat → Int64) (clc : Int32) (xT xK xE xF xL : Nat → Int32) (p1 p2 c a k e ep : Int32) : Option CT :=
  oB none (f_Re_advance a k xk) (fun (r480 : Int32 × Int32) => (if r480.2 = (130 : Int32) then (if p2 < 0 then othK xk xs xw ec ew clc xT xK xE xF xL p1 p2 c r480.1 r480.2 e ep else (oB none (f_To_wordAt xw r480.1) (fun (r494 : Int64) => (if (nfind 8 ew ec r494) = p2 then (oB none (f_Re_note r480.1 e ep xs (5 : Int32)) (fun (r502 : Int32 × Int32) => othK xk xs xw ec ew clc xT xK xE xF xL p1 p2 c r480.1 r480.2 r502.1 r502.2)) else othK xk xs xw ec ew clc xT xK xE xF xL p1 p2 c r480.1 r480.2 e ep)))) else othK xk xs xw ec ew clc xT xK xE xF xL p1 p2 c r480.1 r480.2 e ep))
theorem oth_eq (a k e ep p1 p2 : Int32) : f_Re_readOther a k e ep xk xs xw clc xT xK xE xF xL ec ew p1 p2 = if k = 205 then othP xk xs xw ec ew clc xT xK xE xF xL p1 p2 1 a k e ep else othP xk xs xw ec ew clc xT xK xE xF xL p1 p2 2 a k e ep := by
  unfold f_Re_readOther othP othK
  rfl
theorem oth_fin {t2 t0 : Nat} {mm2 : Nat → Int32} {e2 ep2 r1 r2 r3 c a k e ep : Int32} (hc : k3 c) (h1 : f_Re_readKnown a k e ep xk xs xw ec ew = some (r3, nI t2, xk t2, e2, ep2)) (h : CI N mk mf mv s0 (CM ec tc ew tw W clc xT xK xE xF xL (F3 r1 r2 c r3 0) t2) t2 mm2 e2 ep2) (h2 : t0 < t2) (h3 : t2 ≤ T) (hz : ∀ j, t2 ≤ j → j ≤ T → mm2 j = 0) :
    ToldOut N mk mf xk mv s0 T ec tc ew tw W t0 (othK xk xs xw ec ew clc xT xK xE xF xL r1 r2 c a k e ep) (some (1, nI t2, mm2)) := by
  obtain ⟨clc2, xT2, xK2, xE2, xF2, xL2, x3, c5⟩ := fin_add (nI t2) (xk t2) r1 r2 c r3 0 hc h
  refine Or.inl ⟨t2, e2, ep2, mm2, clc2, xT2, xK2, xE2, xF2, xL2, ?_, rfl, h2, h3, hz, c5⟩
  unfold othK
  rw [h1, oB_s]
  exact x3
theorem oth_same (hN : 100 < N) (H : TKs xk xs xn mk mf xw mv T) (hW : WM W) {t0 t : Nat} {mm : Nat → Int32} {e ep r1 r2 c : Int32} (hc : k3 c) (hr2 : r2 = -1 ∨ ∃ k, k < 10 ∧ r2 = nI k) (h : CI N mk mf mv s0 (CM ec tc ew tw W clc xT xK xE xF xL (F2 r1 r2 c) t) t mm e ep) (h0 : t0 ≤ t) (ht : t < T) (hz : ∀ j, t ≤ j → j ≤ T → mm j = 0) :
    ToldOut N mk mf xk mv s0 T ec tc ew tw W t0 (othP xk xs xw ec ew clc xT xK xE xF xL r1 r2 c (nI t) (xk t) e ep) (oB none (f_M_eatAs (nI (t + 1)) mk mm (30 : Int32) (6 : Int32)) (fun (r1911 : Int32 × Int32 × (Nat → Int32)) => (if zB r1911.1 = true then (some (r1911.1, r1911.2.1, r1911.2.2)) else none))) := by
  have h4 := H.1
  have c1 := ci_skip (P2 := CM ec tc ew tw W clc xT xK xE xF xL (F2 r1 r2 c) (t + 1)) h (by omega) (hz t (Nat.le_refl _) (by omega)) (fun st hs => cm_skip hW (by omega) st hs)
  unfold othP
  rw [adv H ht, oB_s]
  dsimp only
  obtain ⟨g1, g2, -⟩ := H.2.1 (t + 1) (by omega)
  by_cases k1 : mk (t + 1) = 30
  · have t1 : t + 1 < T := tk_lt H (by omega) (by rw [k1]; decide) (by rw [k1]; decide)
    obtain ⟨hx, hw⟩ := wrdAt H t1 k1
    have kz : ∀ j, t + 2 ≤ j → j ≤ T → upd mm (t + 1) 6 j = 0 := fun j a b => (upd_ne (by omega)).trans (hz j (by omega) b)
    have hstep : ∀ st, CM ec tc ew tw W clc xT xK xE xF xL (F2 r1 r2 c) (t + 1) st → ∃ st2, E2 N mk (upd mm (t + 1) 6) mv st (t + 1) = some ((if nfind 8 ew ec (mv (t + 1)) = -1 then 3 else if nfind 8 ew ec (mv (t + 1)) = r2 then 5 else 0), st2) ∧ (¬ nfind 8 ew ec (mv (t + 1)) = -1 → CM ec tc ew tw W clc xT xK xE xF xL (F3 r1 r2 c (nfind 8 ew ec (mv (t + 1))) 0) (t + 2) st2) := by
      intro st hs
      obtain ⟨ne, nt, m, who, od, event, teller, kd, bY, oF, oT, lA, wM, rfl, a2, a3, a4, a5, a6, a7, b1, b2, b3, b4, b5, b6⟩ := hs
      obtain ⟨d1, d2, d3, d4, d5, d6⟩ := a4
      refine ⟨_, (e_6 hN (by omega) upd_at a2 d1 d5).trans ?_, fun hne => ⟨ne, nt, m, upd who (t + 1) (nfind 8 ew (nI ne) (mv (t + 1))), od, event, teller, kd, bY, oF, upd oT m (nfind 8 ew (nI ne) (mv (t + 1))), lA, wM, rfl, a2, a3, ⟨d1, d2, d3, d4, d5, d6⟩, cr_congr a5 (fun _ _ => rfl) (fun _ _ => rfl) (fun _ _ => rfl) (fun j hj => upd_ne (by omega)) (fun _ _ => rfl), a6, hW _ _ _ _ _ _ _ (by omega) (by omega) (fun j hj => upd_ne (by omega)) a7, b2, b3, b4, b5, b6, ?_, b1, fun _ => nf_in8 d3 d1 hne⟩⟩
      · rw [d3, b5]
      · rw [upd_at, d3]
    rw [eatAs_y H (by omega) mm 6 k1, oB_s]
    dsimp only
    rw [if_pos (show zB (1 : Int32) = true from rfl), if_pos hx]
    by_cases q1 : r2 < 0
    · rw [if_pos q1]
      obtain ⟨e2, ep2, x1, c2⟩ := ci_ke (P2 := CM ec tc ew tw W clc xT xK xE xF xL (F3 r1 r2 c (nfind 8 ew ec (mv (t + 1))) 0) (t + 2)) (mm2 := upd mm (t + 1) 6) (tc := ec) (tw := ew) H c1 t1 k1 (fun j hj => upd_ne (by omega)) (fun st hs => by
        obtain ⟨ne, nt, m, who, od, event, teller, kd, bY, oF, oT, lA, wM, -, a2, a3, a4, a5, a6, a7, b1, b2, b3, b4, b5, b6, b7, b8⟩ := hs
        rw [b8] at q1
        exact absurd q1 (nI_pos (by have := a4.1; omega)))
      exact oth_fin hc x1 c2 (by omega) (by omega) kz
    · rw [if_neg q1, hw, oB_s]
      have nr2 : ¬ r2 = -1 := fun h9 => q1 (by rw [h9]; decide)
      by_cases q2 : nfind 8 ew ec (mv (t + 1)) = r2
      · rw [if_pos q2]
        have nq : ¬ nfind 8 ew ec (mv (t + 1)) = -1 := by rw [q2]; exact nr2
        obtain ⟨e2, ep2, x1, x2, c2⟩ := ci_bad (c := 5) (mm2 := upd mm (t + 1) 6) H (by decide) (by decide) c1 (by omega) (fun j hj => upd_ne (by omega)) (fun st hs => by
          obtain ⟨st2, f1, -⟩ := hstep st hs
          rw [if_neg nq, if_pos q2] at f1
          exact ⟨st2, f1⟩)
        rw [x1, oB_s]
        exact oth_fin hc (rk_val H t1 k1 nq) (c2 _) (by omega) (by omega) kz
      · rw [if_neg q2]
        obtain ⟨e2, ep2, x1, c2⟩ := ci_ke (P2 := CM ec tc ew tw W clc xT xK xE xF xL (F3 r1 r2 c (nfind 8 ew ec (mv (t + 1))) 0) (t + 2)) (mm2 := upd mm (t + 1) 6) (tc := ec) (tw := ew) H c1 t1 k1 (fun j hj => upd_ne (by omega)) (fun st hs => by
          obtain ⟨st2, f1, f2⟩ := hstep st hs
          rw [if_neg q2] at f1
          exact ⟨st2, f1, f2⟩)
        exact oth_fin hc x1 c2 (by omega) (by omega) kz
  · have nx : ¬ xk (t + 1) = 130 := by rw [g1]; exact fun h9 => k1 ((km_name _ g2).mp h9)
    refine Or.inr ⟨t + 1, nI (t + 1), upd mm (t + 1) 6, clc, xT, xK, xE, xF, xL, ?_, ?_, by omega⟩
    · rw [if_neg nx]
      unfold othK
      rw [known_eF H (by omega) k1 (ci_1 c1), oB_s]
      dsimp only
      rw [if_neg n10]
    · rw [eatAs_n H (by omega) mm 6 k1, oB_s]
      rfl
/-- the whole line -/
def claimK (xk xs xn : Nat → Int32) (xw : Nat → Int64) (ec tc : Int32) (ew tw : Nat → Int64) (clc : Int32) (xT xK xE xF xL : Nat → Int32) (a k e ep : Int32) : Option CT :=
  oB none (f_Re_readKnown_v1 a k e ep xk xs xw tc tw) (fun (r542 : Int32 × Int32 × Int32 × Int32 × Int32) => (oB none (f_Re_readKnown r542.2.1 r542.2.2.1 r542.2.2.2.1 r542.2.2.2.2 xk xs xw ec ew) (fun (r544 : Int32 × Int32 × Int32 × Int32 × Int32) => (if r544.2.2.1 = (203 : Int32) then (oB none (f_Re_readHours r544.2.1 r544.2.2.1 r544.2.2.2.1 r544.2.2.2.2 xk xs xn clc xT xK xE xF xL r542.1 r544.1) (fun (r555 : CT) => (some (r555.1, r555.2.1, r555.2.2.1, r555.2.2.2.1, r555.2.2.2.2.1, r555.2.2.2.2.2.1, r555.2.2.2.2.2.2.1, r555.2.2.2.2.2.2.2.1, r555.2.2.2.2.2.2.2.2.1, r555.2.2.2.2.2.2.2.2.2)))) else (if r544.2.2.1 = (205 : Int32) then (oB none (f_Re_readOther r544.2.1 r544.2.2.1 r544.2.2.2.1 r544.2.2.2.2 xk xs xw clc xT xK xE xF xL ec ew r542.1 r544.1) (fun (r548 : CT) => (some (r548.1, r548.2.1, r548.2.2.1, r548.2.2.2.1, r548.2.2.2.2.1, r548.2.2.2.2.2.1, r548.2.2.2.2.2.2.1, r548.2.2.2.2.2.2.2.1, r548.2.2.2.2.2.2.2.2.1, r548.2.2.2.2.2.2.2.2.2)))) else (if r544.2.2.1 = (206 : Int32) then (oB none (f_Re_readOther r544.2.1 r544.2.2.1 r544.2.2.2.1 r544.2.2.2.2 xk xs xw clc xT xK xE xF xL ec ew r542.1 r544.1) (fun (r553 : CT) => (some (r553.1, r553.2.1, r553.2.2.1, r553.2.2.2.1, r553.2.2.2.2.1, r553.2.2.2.2.2.1, r553.2.2.2.2.2.2.1, r553.2.2.2.2.2.2.2.1, r553.2.2.2.2.2.2.2.2.1, r553.2.2.2.2.2.2.2.2.2)))) else (oB none (f_Re_fail r544.2.1 r544.2.2.1 r544.2.2.2.1 r544.2.2.2.2 xs) (fun (r551 : Int32 × Int32 × Int32) => (some (r544.2.1, r551.1, r551.2.1, r551.2.2, clc, xT, xK, xE, xF, xL))))))))))
theorem claim_eq (a k e ep : Int32) : f_Re_readClaim a k e ep xk xs xn xw clc xT xK xE xF xL ec ew tc tw = if f_Cl_isFull clc = 0 then (oB none (f_Re_advance a k xk) (fun (r540 : Int32 × Int32) => claimK xk xs xn xw ec tc ew tw clc xT xK xE xF xL r540.1 r540.2 e ep)) else (oB none (f_Re_note a e ep xs (4 : Int32)) (fun (r557 : Int32 × Int32) => (oB none (f_Re_advance a k xk) (fun (r559 : Int32 × Int32) => claimK xk xs xn xw ec tc ew tw clc xT xK xE xF xL r559.1 r559.2 r557.1 r557.2)))) := by
  unfold f_Re_readClaim claimK
  rfl
theorem id_told {t : Nat} {X : Option CT} {M : Option (Int32 × Int32 × (Nat → Int32))} (h : ToldOut N mk mf xk mv s0 T ec tc ew tw W t X M) : ToldOut N mk mf xk mv s0 T ec tc ew tw W t (oB none X (fun (r555 : CT) => (some (r555.1, r555.2.1, r555.2.2.1, r555.2.2.2.1, r555.2.2.2.2.1, r555.2.2.2.2.2.1, r555.2.2.2.2.2.2.1, r555.2.2.2.2.2.2.2.1, r555.2.2.2.2.2.2.2.2.1, r555.2.2.2.2.2.2.2.2.2)))) M := by
  rcases h with ⟨t2, e2, ep2, mm2, clc2, xT2, xK2, xE2, xF2, xL2, h1, h2⟩ | ⟨t2, a, mm2, clc2, xT2, xK2, xE2, xF2, xL2, h1, h2⟩
  · exact Or.inl ⟨t2, e2, ep2, mm2, clc2, xT2, xK2, xE2, xF2, xL2, by rw [h1, oB_s], h2⟩
  · exact Or.inr ⟨t2, a, mm2, clc2, xT2, xK2, xE2, xF2, xL2, by rw [h1, oB_s], h2⟩
theorem told_same (hN : 100 < N) (H : TKs xk xs xn mk mf xw mv T) (HN : ∀ i, i ≤ T → mk i = 31 → ∃ m, m < 1000000 ∧ xn i = nI m) (hW : WM W) {t : Nat} {mm : Nat → Int32} {e ep : Int32} (h : CI N mk mf mv s0 (LnP ec tc ew tw W clc xT xK xE xF xL t) t mm e ep) (ht : t < T) (hz : ∀ j, t ≤ j → j ≤ T → mm j = 0) :
    ToldOut N mk mf xk mv s0 T ec tc ew tw W t (f_Re_readClaim (nI t) (xk t) e ep xk xs xn xw clc xT xK xE xF xL ec ew tc tw) (f_M_isTold (nI t) mk mm) := by
  have h4 := H.1
  have hadv := adv H ht (xk t)
  have hst : ∀ st, LnP ec tc ew tw W clc xT xK xE xF xL t st → ∃ st2, E2 N mk (upd mm t 3) mv st t = some ((if f_Cl_isFull clc = 0 then 0 else 4), st2) ∧ (f_Cl_isFull clc = 0 → CM ec tc ew tw W clc xT xK xE xF xL F0c (t + 1) st2) := by
    intro st hs
    obtain ⟨ne, nt, m, who, od, event, teller, kd, bY, oF, oT, lA, wM, rfl, a3, a4, a5, a6, a7⟩ := hs
    have hf : f_Cl_isFull clc = if m < 40 then 0 else 1 := by
      unfold f_Cl_isFull
      rw [a3]
      by_cases hm : m < 40
      · rw [if_pos hm, if_pos (show nI m < 40 from nI_lt (b := 40) hm (by decide))]
      · rw [if_neg hm, if_neg (show ¬ nI m < 40 from nI_nlt (b := 40) (by omega) (by have := a5.1; omega))]
    have h5 := e_3 (N := N) (mk := mk) (mv := mv) (mm := upd mm t 3) (who := who) (ev := nI ne) (te := nI nt) (od := od) (event := event) (teller := teller) (kd := kd) (bY := bY) (oF := oF) (oT := oT) (lA := lA) (wM := wM) (t := t) (m := m) (by omega) upd_at a5.1
    rw [hf]
    by_cases hm : m < 40
    · rw [if_neg (by omega)] at h5
      refine ⟨_, h5.trans (by rw [if_pos hm]; rfl), fun _ => ⟨ne, nt, m, who, od, event, teller, kd, bY, oF, oT, lA, wM, rfl, hm, a3, a4, a5, fun k hk => a6 k (by omega), hW _ _ _ _ _ _ _ (by omega) (by omega) (fun _ _ => rfl) a7, a6 m (Nat.le_refl _)⟩⟩
    · rw [if_pos (by have := a5.1; omega)] at h5
      refine ⟨_, h5.trans (by rw [if_neg hm]; rfl), fun h9 => ?_⟩
      rw [if_neg hm] at h9
      exact absurd h9 n10
  have hX : ∃ e1 ep1, f_Re_readClaim (nI t) (xk t) e ep xk xs xn xw clc xT xK xE xF xL ec ew tc tw = claimK xk xs xn xw ec tc ew tw clc xT xK xE xF xL (nI (t + 1)) (xk (t + 1)) e1 ep1 ∧ CI N mk mf mv s0 (CM ec tc ew tw W clc xT xK xE xF xL F0c (t + 1)) (t + 1) (upd mm t 3) e1 ep1 := by
    rw [claim_eq]
    by_cases hf : f_Cl_isFull clc = 0
    · rw [if_pos hf, hadv]
      exact ⟨e, ep, rfl, ci_ok h (by omega) (fun j hj => upd_ne (by omega)) (fun st hs => by
        obtain ⟨st2, f1, f2⟩ := hst st hs
        rw [if_pos hf] at f1
        exact ⟨st2, f1, f2 hf⟩)⟩
    · rw [if_neg hf]
      obtain ⟨e2, ep2, x1, x2, c2⟩ := ci_bad (c := 4) (mm2 := upd mm t 3) H (by decide) (by decide) h (by omega) (fun j hj => upd_ne (by omega)) (fun st hs => by
        obtain ⟨st2, f1, -⟩ := hst st hs
        rw [if_neg hf] at f1
        exact ⟨st2, f1⟩)
      refine ⟨e2, ep2, ?_, c2 _⟩
      rw [x1, oB_s, hadv]
      rfl
  obtain ⟨e1, ep1, hX, c1⟩ := hX
  rw [hX]
  have kz : ∀ j, t + 1 ≤ j → j ≤ T → upd mm t 3 j = 0 := fun j a b => (upd_ne (by omega)).trans (hz j (by omega) b)
  unfold f_M_isTold claimK
  rw [if_pos (ib_nI (by omega) (by decide)), nI_clamp (by omega), ← nI_succ]
  by_cases k1 : mk (t + 1) = 30
  · have t1 : t + 1 < T := tk_lt H (by omega) (by rw [k1]; decide) (by rw [k1]; decide)
    obtain ⟨e2, ep2, x1, c2⟩ := ci_kt (P2 := CM ec tc ew tw W clc xT xK xE xF xL (F1 (nfind 10 tw tc (mv (t + 1)))) (t + 2)) (mm2 := upd (upd mm t 3) (t + 1) 4) (tc := tc) (tw := tw) H c1 t1 k1 (fun j hj => upd_ne (by omega)) (fun st hs => by
      obtain ⟨ne, nt, m, who, od, event, teller, kd, bY, oF, oT, lA, wM, rfl, a2, a3, a4, a5, a6, a7, a8⟩ := hs
      obtain ⟨d1, d2, d3, d4, d5, d6⟩ := a4
      refine ⟨_, (e_4 hN (by omega) upd_at a2 d2 d6).trans ?_, fun hne => ⟨ne, nt, m, upd who (t + 1) (nfind 10 tw (nI nt) (mv (t + 1))), od, event, teller, kd, upd bY m (nfind 10 tw (nI nt) (mv (t + 1))), oF, oT, lA, wM, rfl, a2, a3, ⟨d1, d2, d3, d4, d5, d6⟩, cr_congr a5 (fun _ _ => rfl) (fun j hj => upd_ne (by omega)) (fun _ _ => rfl) (fun _ _ => rfl) (fun _ _ => rfl), a6, hW _ _ _ _ _ _ _ (by omega) (by omega) (fun j hj => upd_ne (by omega)) a7, a8, ?_, nf_in10 d4 d2 hne⟩⟩
      · rw [d4]
      · rw [upd_at, d4])
    rw [x1, oB_s, eatAs_y H (by omega) _ 4 k1, oB_s]
    dsimp only
    rw [if_neg n10]
    by_cases k2 : mk (t + 1 + 1) = 30
    · have t2 : t + 1 + 1 < T := tk_lt H (by omega) (by rw [k2]; decide) (by rw [k2]; decide)
      obtain ⟨e3, ep3, x2, c3⟩ := ci_ke (P2 := CM ec tc ew tw W clc xT xK xE xF xL (F2 (nfind 10 tw tc (mv (t + 1))) (nfind 8 ew ec (mv (t + 1 + 1))) (if mk (t + 1 + 1 + 1) = 3 then 0 else if mk (t + 1 + 1 + 1) = 5 then 1 else 2)) (t + 1 + 1 + 1)) (mm2 := upd (upd (upd mm t 3) (t + 1) 4) (t + 1 + 1) 5) (tc := ec) (tw := ew) H c2 t2 k2 (fun j hj => upd_ne (by omega)) (fun st hs => by
        obtain ⟨ne, nt, m, who, od, event, teller, kd, bY, oF, oT, lA, wM, rfl, a2, a3, a4, a5, a6, a7, b1, b2, b3⟩ := hs
        obtain ⟨d1, d2, d3, d4, d5, d6⟩ := a4
        refine ⟨_, (e_5 hN (by omega) upd_at a2 d1 d5).trans ?_, fun hne => ⟨ne, nt, m, upd who (t + 1 + 1) (nfind 8 ew (nI ne) (mv (t + 1 + 1))), od, event, teller, _, bY, upd oF m (nfind 8 ew (nI ne) (mv (t + 1 + 1))), oT, lA, wM, rfl, a2, a3, ⟨d1, d2, d3, d4, d5, d6⟩, cr_congr a5 (fun j hj => upd_ne (by omega)) (fun _ _ => rfl) (fun j hj => upd_ne (by omega)) (fun _ _ => rfl) (fun _ _ => rfl), a6, hW _ _ _ _ _ _ _ (by omega) (by omega) (fun j hj => upd_ne (by omega)) a7, b1, b2, b3, upd_at, ?_, nf_in8 d3 d1 hne⟩⟩
        · rw [d3]
        · rw [upd_at, d3])
      rw [x2, oB_s, eatAs_y H (by omega) _ 5 k2, oB_s]
      dsimp only
      rw [if_neg n10]
      have kz3 : ∀ j, t + 1 + 1 + 1 ≤ j → j ≤ T → upd (upd (upd mm t 3) (t + 1) 4) (t + 1 + 1) 5 j = 0 := fun j a b => (upd_ne (by omega)).trans ((upd_ne (by omega)).trans (kz j (by omega) b))
      obtain ⟨g1, g2, -⟩ := H.2.1 (t + 1 + 1 + 1) (by omega)
      obtain ⟨y1, y2, y3, y4, -⟩ := km_tl _ g2
      have hr2 := nf8 ew ec (mv (t + 1 + 1))
      by_cases q3 : mk (t + 1 + 1 + 1) = 3
      · have t3 : t + 1 + 1 + 1 < T := tk_lt H (by omega) (by rw [q3]; decide) (by rw [q3]; decide)
        rw [if_pos (show xk (t + 1 + 1 + 1) = 203 by rw [g1]; exact y1.mpr q3), eat_n H (by omega) (show ¬ mk (t + 1 + 1 + 1) = 5 by rw [q3]; decide), oB_s]
        dsimp only
        rw [if_pos rfl, eat_n H (by omega) (show ¬ mk (t + 1 + 1 + 1) = 6 by rw [q3]; decide), oB_s]
        dsimp only
        rw [if_pos rfl, eat_y H (by omega) q3, oB_s]
        dsimp only
        rw [if_neg n10]
        rw [if_pos q3] at c3
        exact id_told (hours_same H HN hW c3 (by omega) t3 kz3)
      · have nx3 : ¬ xk (t + 1 + 1 + 1) = 203 := by rw [g1]; exact fun h9 => q3 (y1.mp h9)
        rw [if_neg nx3]
        rw [if_neg q3] at c3
        by_cases q5 : mk (t + 1 + 1 + 1) = 5
        · have t3 : t + 1 + 1 + 1 < T := tk_lt H (by omega) (by rw [q5]; decide) (by rw [q5]; decide)
          have x5 : xk (t + 1 + 1 + 1) = 205 := by rw [g1]; exact y3.mpr q5
          rw [if_pos x5, eat_y H (by omega) q5, oB_s]
          dsimp only
          rw [if_neg n10]
          rw [if_pos q5] at c3
          have := oth_same hN H hW (Or.inr (Or.inl rfl)) hr2 c3 (show t ≤ _ by omega) t3 kz3
          rw [oth_eq, if_pos x5]
          exact id_told this
        · have nx5 : ¬ xk (t + 1 + 1 + 1) = 205 := by rw [g1]; exact fun h9 => q5 (y3.mp h9)
          rw [if_neg nx5, eat_n H (by omega) q5, oB_s]
          dsimp only
          rw [if_pos rfl]
          rw [if_neg q5] at c3
          by_cases q6 : mk (t + 1 + 1 + 1) = 6
          · have t3 : t + 1 + 1 + 1 < T := tk_lt H (by omega) (by rw [q6]; decide) (by rw [q6]; decide)
            have x6 : xk (t + 1 + 1 + 1) = 206 := by rw [g1]; exact y4.mpr q6
            rw [if_pos x6, eat_y H (by omega) q6, oB_s]
            dsimp only
            rw [if_neg n10]
            have := oth_same hN H hW (Or.inr (Or.inr rfl)) hr2 c3 (show t ≤ _ by omega) t3 kz3
            rw [oth_eq, if_neg nx5]
            exact id_told this
          · have nx6 : ¬ xk (t + 1 + 1 + 1) = 206 := by rw [g1]; exact fun h9 => q6 (y4.mp h9)
            rw [if_neg nx6, eat_n H (by omega) q6, oB_s]
            dsimp only
            rw [if_pos rfl, eat_n H (by omega) q3, oB_s]
            dsimp only
            rw [if_pos rfl]
            refine Or.inr ⟨t + 1 + 1 + 1, nI (t + 1 + 1 + 1), _, clc, xT, xK, xE, xF, xL, ?_, rfl, by omega⟩
            rw [failAt H (by omega) _ (ci_1 c3), oB_s]
    · refine Or.inr ⟨t + 1 + 1, nI (t + 1 + 1), upd (upd (upd mm t 3) (t + 1) 4) (t + 1 + 1) 5, clc, xT, xK, xE, xF, xL, ?_, ?_, by omega⟩
      · rw [known_eF H (by omega) k2 (ci_1 c2), oB_s]
        dsimp only
        rw [if_neg (show ¬ (133 : Int32) = 203 by decide), if_neg (show ¬ (133 : Int32) = 205 by decide), if_neg (show ¬ (133 : Int32) = 206 by decide), failF, oB_s]
      · rw [eatAs_n H (by omega) _ 5 k2, oB_s]
        dsimp only
        rw [if_pos rfl]
  · refine Or.inr ⟨t + 1, nI (t + 1), upd (upd mm t 3) (t + 1) 4, clc, xT, xK, xE, xF, xL, ?_, ?_, by omega⟩
    · rw [known_tF H (by omega) k1 (ci_1 c1), oB_s]
      dsimp only
      rw [known_eF2, oB_s]
      dsimp only
      rw [if_neg (show ¬ (133 : Int32) = 203 by decide), if_neg (show ¬ (133 : Int32) = 205 by decide), if_neg (show ¬ (133 : Int32) = 206 by decide), failF, oB_s]
    · rw [eatAs_n H (by omega) _ 4 k1, oB_s]
      dsimp only
      rw [if_pos rfl]
end CL
