/-! a new name on the tape, read by both sides alike -/
section NW
variable {N : Nat} {mk mf xk xs xn : Nat → Int32} {mv xw : Nat → Int64} {s0 : S2} {T : Nat} {ec tc clc : Int32} {ew tw : Nat → Int64} {W : WT} {xT xK xE xF xL : Nat → Int32}
def WM2 (W : WT) : Prop := ∀ nt nt2 who t od wM, nt ≤ nt2 → W nt who t od wM → W nt2 who t od wM
abbrev NT := Int32 × Int32 × Int32 × Int32 × Int32 × (Nat → Int64)
theorem lnp_skip (hW : WM W) {t : Nat} (ht : t < 401) (st : S2) (h : LnP ec tc ew tw W clc xT xK xE xF xL t st) : LnP ec tc ew tw W clc xT xK xE xF xL (t + 1) st := by
  obtain ⟨ne, nt, m, who, od, event, teller, kd, bY, oF, oT, lA, wM, a1, a3, a4, a5, a6, a7⟩ := h
  exact ⟨ne, nt, m, who, od, event, teller, kd, bY, oF, oT, lA, wM, a1, a3, a4, a5, a6, hW _ _ _ _ _ _ _ (by omega) (by omega) (fun _ _ => rfl) a7⟩
theorem full_8 {ne : Nat} (h : ne ≤ 8) : (nfull 8 (nI ne) = 0 ↔ ¬ ne = 8) := by
  unfold nfull
  by_cases h1 : ne < 8
  · rw [if_pos (show nI ne < Int32.ofNat 8 from nI_lt (b := 8) h1 (by decide))]
    exact ⟨fun _ => by omega, fun _ => rfl⟩
  · rw [if_neg (show ¬ nI ne < Int32.ofNat 8 from nI_nlt (b := 8) (by omega) (by omega))]
    exact ⟨fun h2 => absurd h2 n10, fun h2 => absurd (show ne = 8 by omega) h2⟩
theorem full_10 {ne : Nat} (h : ne ≤ 10) : (nfull 10 (nI ne) = 0 ↔ ¬ ne = 10) := by
  unfold nfull
  by_cases h1 : ne < 10
  · rw [if_pos (show nI ne < Int32.ofNat 10 from nI_lt (b := 10) h1 (by decide))]
    exact ⟨fun _ => by omega, fun _ => rfl⟩
  · rw [if_neg (show ¬ nI ne < Int32.ofNat 10 from nI_nlt (b := 10) (by omega) (by omega))]
    exact ⟨fun h2 => absurd h2 n10, fun h2 => absurd (show ne = 10 by omega) h2⟩
theorem nadd_in {n k : Nat} (h : k < n) (hn : n < 2147483648) (w : Nat → Int64) (x : Int64) : nadd n w (nI k) x = vp_updL w k x ∧ nacnt n (nI k) = nI (k + 1) := by
  unfold nadd nacnt
  rw [if_pos (ib_nI h hn), if_pos (ib_nI h hn), nI_clamp (by omega), ← nI_succ]
  exact ⟨rfl, rfl⟩
theorem updL_same {f g : Nat → Int64} {n : Nat} {v : Int64} (h : ∀ k, k < n → f k = g k) : ∀ k, k < n + 1 → vp_updL f n v k = vp_updL g n v k := by
  intro k hk
  by_cases h1 : k = n
  · rw [h1, updL_at, updL_at]
  · rw [updL_ne h1, updL_ne h1]
    exact h k (by omega)
def NewOut (N : Nat) (mk mf xk : Nat → Int32) (mv : Nat → Int64) (s0 : S2) (T : Nat) (PP : Int32 → (Nat → Int64) → Nat → S2 → Prop) (t : Nat) (X : Option NT) (M : Option (Int32 × Int32 × (Nat → Int32))) : Prop :=
  (∃ t2 e2 ep2 mm2 c2 w2, X = some (nI t2, xk t2, e2, ep2, c2, w2) ∧ M = some (1, nI t2, mm2) ∧ t < t2 ∧ t2 ≤ T ∧ (∀ j, t2 ≤ j → j ≤ T → mm2 j = 0) ∧ CI N mk mf mv s0 (PP c2 w2 t2) t2 mm2 e2 ep2) ∨
  (∃ t2 a mm2 c2 w2, X = some (a, 133, 1, mf t2, c2, w2) ∧ M = some (0, nI t2, mm2) ∧ t2 ≤ T)
theorem newe_same (hN : 100 < N) (H : TKs xk xs xn mk mf xw mv T) (hW : WM W) {t : Nat} {mm : Nat → Int32} {e ep : Int32} (h : CI N mk mf mv s0 (LnP ec tc ew tw W clc xT xK xE xF xL t) t mm e ep) (ht : t < T) (hz : ∀ j, t ≤ j → j ≤ T → mm j = 0) :
    NewOut N mk mf xk mv s0 T (fun c w => LnP c tc w tw W clc xT xK xE xF xL) t (f_Re_readNew_v1 (nI t) (xk t) e ep xk xs xw ec ew) (f_M_eatAs (nI (t + 1)) mk mm (30 : Int32) (1 : Int32)) := by
  have h4 := H.1
  have c1 := ci_skip (P2 := LnP ec tc ew tw W clc xT xK xE xF xL (t + 1)) h (by omega) (hz t (Nat.le_refl _) (by omega)) (fun st hs => lnp_skip hW (by omega) st hs)
  unfold f_Re_readNew_v1
  rw [adv H ht, oB_s]
  dsimp only
  obtain ⟨g1, g2, -⟩ := H.2.1 (t + 1) (by omega)
  by_cases k1 : mk (t + 1) = 30
  · have t1 : t + 1 < T := tk_lt H (by omega) (by rw [k1]; decide) (by rw [k1]; decide)
    obtain ⟨hx, hw⟩ := wrdAt H t1 k1
    have kz : ∀ j, t + 2 ≤ j → j ≤ T → upd mm (t + 1) 1 j = 0 := fun j a b => (upd_ne (by omega)).trans (hz j (by omega) b)
    have hst : ∀ st, LnP ec tc ew tw W clc xT xK xE xF xL (t + 1) st → ∃ st2, E2 N mk (upd mm (t + 1) 1) mv st (t + 1) = some ((if nfind 8 ew ec (mv (t + 1)) = -1 then (if nfull 8 ec = 0 then 0 else 4) else 2), st2) ∧ (nfind 8 ew ec (mv (t + 1)) = -1 → nfull 8 ec = 0 → LnP (nacnt 8 ec) tc (nadd 8 ew ec (mv (t + 1))) tw W clc xT xK xE xF xL (t + 2) st2) := by
      intro st hs
      obtain ⟨ne, nt, m, who, od, event, teller, kd, bY, oF, oT, lA, wM, rfl, a3, ⟨d1, d2, d3, d4, d5, d6⟩, a5, a6, a7⟩ := hs
      have h5 := e_1 (N := N) (mk := mk) (mv := mv) (mm := upd mm (t + 1) 1) (who := who) (te := nI nt) (cl := nI m) (od := od) (event := event) (teller := teller) (kd := kd) (bY := bY) (oF := oF) (oT := oT) (lA := lA) (wM := wM) (t := t + 1) (ne := ne) (eW := ew) hN (by omega) upd_at d1 d5
      have hf := full_8 d1
      rw [h5, d3]
      by_cases q1 : nfind 8 ew (nI ne) (mv (t + 1)) = -1
      · rw [if_pos q1, if_pos q1]
        by_cases q2 : ne = 8
        · rw [if_pos q2, if_neg (fun h9 => hf.mp h9 q2)]
          exact ⟨_, rfl, fun _ h9 => absurd q2 (hf.mp h9)⟩
        · rw [if_neg q2, if_pos (hf.mpr q2)]
          obtain ⟨b1, b2⟩ := nadd_in (show ne < 8 by omega) (by decide) ew (mv (t + 1))
          rw [b1, b2]
          refine ⟨_, rfl, fun _ _ => ⟨ne + 1, nt, m, who, od, _, teller, kd, bY, oF, oT, lA, wM, rfl, a3, ⟨by omega, d2, rfl, d4, updL_same d5, d6⟩, cr_wide a5 (Nat.le_refl _) (by omega), a6, hW _ _ _ _ _ _ _ (by omega) (by omega) (fun _ _ => rfl) a7⟩⟩
      · rw [if_neg q1, if_neg q1]
        exact ⟨_, rfl, fun h9 => absurd h9 q1⟩
    rw [if_pos hx, hw, oB_s]
    by_cases q1 : nfind 8 ew ec (mv (t + 1)) = -1
    · rw [if_pos (show nfind 8 ew ec (mv (t + 1)) < 0 by rw [q1]; decide)]
      by_cases q2 : nfull 8 ec = 0
      · rw [if_pos q2, oB_s, adv H t1, oB_s]
        refine Or.inl ⟨t + 2, e, ep, upd mm (t + 1) 1, _, _, rfl, eatAs_y H (by omega) mm 1 k1, by omega, by omega, kz, ci_ok c1 (by omega) (fun j hj => upd_ne (by omega)) (fun st hs => ?_)⟩
        obtain ⟨st2, f1, f2⟩ := hst st hs
        rw [if_pos q1, if_pos q2] at f1
        exact ⟨st2, f1, f2 q1 q2⟩
      · obtain ⟨e2, ep2, x1, x2, c2⟩ := ci_bad (c := 4) (mm2 := upd mm (t + 1) 1) H (by decide) (by decide) c1 (by omega) (fun j hj => upd_ne (by omega)) (fun st hs => by
          obtain ⟨st2, f1, -⟩ := hst st hs
          rw [if_pos q1, if_neg q2] at f1
          exact ⟨st2, f1⟩)
        rw [if_neg q2, x1, oB_s, adv H t1, oB_s]
        exact Or.inl ⟨t + 2, e2, ep2, upd mm (t + 1) 1, _, _, rfl, eatAs_y H (by omega) mm 1 k1, by omega, by omega, kz, c2 _⟩
    · obtain ⟨k, hk, hk2⟩ := (nf8 ew ec (mv (t + 1))).resolve_left q1
      obtain ⟨e2, ep2, x1, x2, c2⟩ := ci_bad (c := 2) (mm2 := upd mm (t + 1) 1) H (by decide) (by decide) c1 (by omega) (fun j hj => upd_ne (by omega)) (fun st hs => by
        obtain ⟨st2, f1, -⟩ := hst st hs
        rw [if_neg q1] at f1
        exact ⟨st2, f1⟩)
      rw [if_neg (show ¬ nfind 8 ew ec (mv (t + 1)) < 0 by rw [hk2]; exact nI_pos (by omega)), x1, oB_s, adv H t1, oB_s]
      exact Or.inl ⟨t + 2, e2, ep2, upd mm (t + 1) 1, _, _, rfl, eatAs_y H (by omega) mm 1 k1, by omega, by omega, kz, c2 _⟩
  · have nx : ¬ xk (t + 1) = 130 := by rw [g1]; exact fun h9 => k1 ((km_name _ g2).mp h9)
    refine Or.inr ⟨t + 1, nI (t + 1), upd mm (t + 1) 1, ec, ew, ?_, eatAs_n H (by omega) mm 1 k1, by omega⟩
    rw [if_neg nx, failAt H (by omega) _ (ci_1 c1), oB_s]
theorem newt_same (hN : 100 < N) (H : TKs xk xs xn mk mf xw mv T) (hW : WM W) (hW2 : WM2 W) {t : Nat} {mm : Nat → Int32} {e ep : Int32} (h : CI N mk mf mv s0 (LnP ec tc ew tw W clc xT xK xE xF xL t) t mm e ep) (ht : t < T) (hz : ∀ j, t ≤ j → j ≤ T → mm j = 0) :
    NewOut N mk mf xk mv s0 T (fun c w => LnP ec c ew w W clc xT xK xE xF xL) t (f_Re_readNew (nI t) (xk t) e ep xk xs xw tc tw) (f_M_eatAs (nI (t + 1)) mk mm (30 : Int32) (2 : Int32)) := by
  have h4 := H.1
  have c1 := ci_skip (P2 := LnP ec tc ew tw W clc xT xK xE xF xL (t + 1)) h (by omega) (hz t (Nat.le_refl _) (by omega)) (fun st hs => lnp_skip hW (by omega) st hs)
  unfold f_Re_readNew
  rw [adv H ht, oB_s]
  dsimp only
  obtain ⟨g1, g2, -⟩ := H.2.1 (t + 1) (by omega)
  by_cases k1 : mk (t + 1) = 30
  · have t1 : t + 1 < T := tk_lt H (by omega) (by rw [k1]; decide) (by rw [k1]; decide)
    obtain ⟨hx, hw⟩ := wrdAt H t1 k1
    have kz : ∀ j, t + 2 ≤ j → j ≤ T → upd mm (t + 1) 2 j = 0 := fun j a b => (upd_ne (by omega)).trans (hz j (by omega) b)
    have hst : ∀ st, LnP ec tc ew tw W clc xT xK xE xF xL (t + 1) st → ∃ st2, E2 N mk (upd mm (t + 1) 2) mv st (t + 1) = some ((if nfind 10 tw tc (mv (t + 1)) = -1 then (if nfull 10 tc = 0 then 0 else 4) else 2), st2) ∧ (nfind 10 tw tc (mv (t + 1)) = -1 → nfull 10 tc = 0 → LnP ec (nacnt 10 tc) ew (nadd 10 tw tc (mv (t + 1))) W clc xT xK xE xF xL (t + 2) st2) := by
      intro st hs
      obtain ⟨ne, nt, m, who, od, event, teller, kd, bY, oF, oT, lA, wM, rfl, a3, ⟨d1, d2, d3, d4, d5, d6⟩, a5, a6, a7⟩ := hs
      have h5 := e_2 (N := N) (mk := mk) (mv := mv) (mm := upd mm (t + 1) 2) (who := who) (ev := nI ne) (cl := nI m) (od := od) (event := event) (teller := teller) (kd := kd) (bY := bY) (oF := oF) (oT := oT) (lA := lA) (wM := wM) (t := t + 1) (nt := nt) (tW := tw) hN (by omega) upd_at d2 d6
      have hf := full_10 d2
      rw [h5, d4]
      by_cases q1 : nfind 10 tw (nI nt) (mv (t + 1)) = -1
      · rw [if_pos q1, if_pos q1]
        by_cases q2 : nt = 10
        · rw [if_pos q2, if_neg (fun h9 => hf.mp h9 q2)]
          exact ⟨_, rfl, fun _ h9 => absurd q2 (hf.mp h9)⟩
        · rw [if_neg q2, if_pos (hf.mpr q2)]
          obtain ⟨b1, b2⟩ := nadd_in (show nt < 10 by omega) (by decide) tw (mv (t + 1))
          rw [b1, b2]
          refine ⟨_, rfl, fun _ _ => ⟨ne, nt + 1, m, who, od, event, _, kd, bY, oF, oT, lA, wM, rfl, a3, ⟨d1, by omega, d3, rfl, d5, updL_same d6⟩, cr_wide a5 (by omega) (Nat.le_refl _), a6, hW2 _ _ _ _ _ _ (by omega) (hW _ _ _ _ _ _ _ (by omega) (by omega) (fun _ _ => rfl) a7)⟩⟩
      · rw [if_neg q1, if_neg q1]
        exact ⟨_, rfl, fun h9 => absurd h9 q1⟩
    rw [if_pos hx, hw, oB_s]
    by_cases q1 : nfind 10 tw tc (mv (t + 1)) = -1
    · rw [if_pos (show nfind 10 tw tc (mv (t + 1)) < 0 by rw [q1]; decide)]
      by_cases q2 : nfull 10 tc = 0
      · rw [if_pos q2, oB_s, adv H t1, oB_s]
        refine Or.inl ⟨t + 2, e, ep, upd mm (t + 1) 2, _, _, rfl, eatAs_y H (by omega) mm 2 k1, by omega, by omega, kz, ci_ok c1 (by omega) (fun j hj => upd_ne (by omega)) (fun st hs => ?_)⟩
        obtain ⟨st2, f1, f2⟩ := hst st hs
        rw [if_pos q1, if_pos q2] at f1
        exact ⟨st2, f1, f2 q1 q2⟩
      · obtain ⟨e2, ep2, x1, x2, c2⟩ := ci_bad (c := 4) (mm2 := upd mm (t + 1) 2) H (by decide) (by decide) c1 (by omega) (fun j hj => upd_ne (by omega)) (fun st hs => by
          obtain ⟨st2, f1, -⟩ := hst st hs
          rw [if_pos q1, if_neg q2] at f1
          exact ⟨st2, f1⟩)
        rw [if_neg q2, x1, oB_s, adv H t1, oB_s]
        exact Or.inl ⟨t + 2, e2, ep2, upd mm (t + 1) 2, _, _, rfl, eatAs_y H (by omega) mm 2 k1, by omega, by omega, kz, c2 _⟩
    · obtain ⟨k, hk, hk2⟩ := (nf10 tw tc (mv (t + 1))).resolve_left q1
      obtain ⟨e2, ep2, x1, x2, c2⟩ := ci_bad (c := 2) (mm2 := upd mm (t + 1) 2) H (by decide) (by decide) c1 (by omega) (fun j hj => upd_ne (by omega)) (fun st hs => by
        obtain ⟨st2, f1, -⟩ := hst st hs
        rw [if_neg q1] at f1
        exact ⟨st2, f1⟩)
      rw [if_neg (show ¬ nfind 10 tw tc (mv (t + 1)) < 0 by rw [hk2]; exact nI_pos (by omega)), x1, oB_s, adv H t1, oB_s]
      exact Or.inl ⟨t + 2, e2, ep2, upd mm (t + 1) 2, _, _, rfl, eatAs_y H (by omega) mm 2 k1, by omega, by omega, kz, c2 _⟩
  · have nx : ¬ xk (t + 1) = 130 := by rw [g1]; exact fun h9 => k1 ((km_name _ g2).mp h9)
    refine Or.inr ⟨t + 1, nI (t + 1), upd mm (t + 1) 2, tc, tw, ?_, eatAs_n H (by omega) mm 2 k1, by omega⟩
    rw [if_neg nx, failAt H (by omega) _ (ci_1 c1), oB_s]
end NW
