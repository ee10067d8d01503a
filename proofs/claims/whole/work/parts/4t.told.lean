/-! a claim of the tape, read by both sides -/
section TD
variable {N : Nat} {mk mf xk xs xn : Nat → Int32} {mv xw : Nat → Int64} {s0 : S2} {T : Nat} {ec tc clc : Int32} {ew tw : Nat → Int64} {W : WT} {xT xK xE xF xL : Nat → Int32}
theorem km_tl : ∀ k, k ∈ kvs → (kmap k = 203 ↔ k = 3) ∧ (kmap k = 204 ↔ k = 4) ∧ (kmap k = 205 ↔ k = 5) ∧ (kmap k = 206 ↔ k = 6) ∧ (kmap k = 200 ↔ k = 0) ∧ (kmap k = 201 ↔ k = 1) ∧ (kmap k = 202 ↔ k = 2) ∧ (kmap k = 207 ↔ k = 7) ∧ (kmap k = 208 ↔ k = 8) ∧ (kmap k = 209 ↔ k = 9) := by decide
def F0c : FT := fun _ _ _ _ _ _ l => l = 0
def F1 (r1 : Int32) : FT := fun nt _ _ b _ _ l => l = 0 ∧ b = r1 ∧ ∃ j, j < nt ∧ r1 = nI j
def F2 (r1 r2 c : Int32) : FT := fun nt ne k b o _ l => l = 0 ∧ b = r1 ∧ (∃ j, j < nt ∧ r1 = nI j) ∧ k = c ∧ o = r2 ∧ ∃ j, j < ne ∧ r2 = nI j
def F3 (r1 r2 c f g : Int32) : FT := fun nt ne k b o ot l => b = r1 ∧ (∃ j, j < nt ∧ r1 = nI j) ∧ k = c ∧ o = r2 ∧ (∃ j, j < ne ∧ r2 = nI j) ∧ ot = f ∧ l = g ∧ (¬ c = 0 → ∃ j, j < ne ∧ f = nI j)
theorem cm_skip (hW : WM W) {F : FT} {t : Nat} (ht : t < 401) (st : S2) (h : CM ec tc ew tw W clc xT xK xE xF xL F t st) : CM ec tc ew tw W clc xT xK xE xF xL F (t + 1) st := by
  obtain ⟨ne, nt, m, who, od, event, teller, kd, bY, oF, oT, lA, wM, a1, a2, a3, a4, a5, a6, a7, a8⟩ := h
  exact ⟨ne, nt, m, who, od, event, teller, kd, bY, oF, oT, lA, wM, a1, a2, a3, a4, a5, a6, hW _ _ _ _ _ _ _ (by omega) (by omega) (fun _ _ => rfl) a7, a8⟩
/-- the claim is whole -/
theorem fin_add {t2 : Nat} {mm2 : Nat → Int32} {e2 ep2 : Int32} (a k r1 r2 c f g : Int32) (hc : k3 c) (h : CI N mk mf mv s0 (CM ec tc ew tw W clc xT xK xE xF xL (F3 r1 r2 c f g) t2) t2 mm2 e2 ep2) :
    ∃ clc2 xT2 xK2 xE2 xF2 xL2, (if e2 = 0 then (oB none (f_Cl_add clc xT xK xE xF xL r1 c r2 f g) (fun (r : Int32 × (Nat → Int32) × (Nat → Int32) × (Nat → Int32) × (Nat → Int32) × (Nat → Int32)) => (some (a, k, e2, ep2, r.1, r.2.1, r.2.2.1, r.2.2.2.1, r.2.2.2.2.1, r.2.2.2.2.2)))) else (some (a, k, e2, ep2, clc, xT, xK, xE, xF, xL))) = some (a, k, e2, ep2, clc2, xT2, xK2, xE2, xF2, xL2) ∧
      CI N mk mf mv s0 (LnP ec tc ew tw W clc2 xT2 xK2 xE2 xF2 xL2 t2) t2 mm2 e2 ep2 := by
  rcases h with ⟨h1, h2, st, h3, ne, nt, m, who, od, event, teller, kd, bY, oF, oT, lA, wM, a1, a2, a3, a4, a5, a6, a7, b1, b2, b3, b4, b5, b6, b7, b8⟩ | ⟨h1, h2, h3⟩
  · refine ⟨nI (m + 1), upd xT m r1, upd xK m c, upd xE m r2, upd xF m f, upd xL m g, ?_, Or.inl ⟨h1, h2, st, h3, ne, nt, m + 1, who, od, event, teller, kd, bY, oF, oT, lA, wM, a1, rfl, a4, ?_, fun k hk => a6 k (by omega), a7⟩⟩
    · have hf : f_Cl_isFull clc = 0 := by
        unfold f_Cl_isFull
        rw [a3, if_pos (show nI m < 40 from nI_lt (b := 40) a2 (by decide))]
      rw [if_pos h1]
      unfold f_Cl_add
      rw [if_pos hf, a3, rs a2 (by decide), rs a2 (by decide), rs a2 (by decide), rs a2 (by decide), rs a2 (by decide), ← nI_succ]
      rfl
    · have := crl_add a5 a2 (by rw [b3]; exact hc) (by rw [b1]; exact b2) (by rw [b4]; exact b5) (by rw [b3, b6]; exact b8)
      rw [b1, b3, b4, b6, b7] at this
      exact this
  · exact ⟨clc, xT, xK, xE, xF, xL, if_neg h1, Or.inr ⟨h1, h2, h3⟩⟩
/-- an hour -/
theorem hour_y (H : TKs xk xs xn mk mf xw mv T) {t : Nat} {mm mm2 : Nat → Int32} {e ep p : Int32} {P P2 : S2 → Prop} (h : CI N mk mf mv s0 P t mm e ep) (ht : t < T) (hk : mk t = 31) (hm : ∀ j, j < t → mm2 j = mm j) (hE : ∀ st, P st → ∃ st2, E2 N mk mm2 mv st t = some ((if 99 < xn t then 5 else if p ≤ xn t then 0 else 5), st2) ∧ P2 st2) :
    ∃ e2 ep2, f_Re_readHour (nI t) (xk t) e ep xk xs xn p = some (xn t, nI (t + 1), xk (t + 1), e2, ep2) ∧ CI N mk mf mv s0 P2 (t + 1) mm2 e2 ep2 := by
  have h4 := H.1
  obtain ⟨a1, a2, a3, a4, a5⟩ := H.2.1 t (by omega)
  have hx : xk t = 131 := by rw [a1, hk]; rfl
  have hn : rget 401 xn (nI t) = xn t := rg (by omega) (by decide)
  unfold f_Re_readHour
  rw [if_pos hx, hn]
  by_cases c1 : 99 < xn t
  · rw [if_pos c1]
    obtain ⟨e2, ep2, b1, b2, b3⟩ := ci_bad H (c := 5) (mm2 := mm2) (by decide) (by decide) h (by omega) hm (fun st hs => by
      obtain ⟨st2, d1, -⟩ := hE st hs
      rw [if_pos c1] at d1
      exact ⟨st2, d1⟩)
    refine ⟨e2, ep2, ?_, b3 P2⟩
    rw [b1, oB_s, expectY H ht hx]
    rfl
  · rw [if_neg c1]
    by_cases c2 : p ≤ xn t
    · rw [if_pos c2]
      refine ⟨e, ep, ?_, ci_ok h (by omega) hm (fun st hs => ?_)⟩
      · rw [expectY H ht hx]
        rfl
      · obtain ⟨st2, d1, d2⟩ := hE st hs
        rw [if_neg c1, if_pos c2] at d1
        exact ⟨st2, d1, d2⟩
    · rw [if_neg c2]
      obtain ⟨e2, ep2, b1, b2, b3⟩ := ci_bad H (c := 5) (mm2 := mm2) (by decide) (by decide) h (by omega) hm (fun st hs => by
        obtain ⟨st2, d1, -⟩ := hE st hs
        rw [if_neg c1, if_neg c2] at d1
        exact ⟨st2, d1⟩)
      refine ⟨e2, ep2, ?_, b3 P2⟩
      rw [b1, oB_s, expectY H ht hx]
      rfl
theorem hour_n (H : TKs xk xs xn mk mf xw mv T) {t : Nat} {e ep p : Int32} (ht : t ≤ T) (hk : ¬ mk t = 31) (he : ¬ e = 1) : f_Re_readHour (nI t) (xk t) e ep xk xs xn p = some (rget 401 xn (nI t), nI t, 133, 1, mf t) := by
  obtain ⟨a1, a2, -⟩ := H.2.1 t ht
  have hx : ¬ xk t = 131 := by rw [a1]; exact fun h => hk ((km_all2 _ a2).1.mp h)
  unfold f_Re_readHour
  rw [if_neg hx, expectF H ht hx he]
  rfl
/-- what a claim's line comes to, ahead of its end -/
def ToldOut (N : Nat) (mk mf xk : Nat → Int32) (mv : Nat → Int64) (s0 : S2) (T : Nat) (ec tc : Int32) (ew tw : Nat → Int64) (W : WT) (t : Nat) (X : Option (Int32 × Int32 × Int32 × Int32 × Int32 × (Nat → Int32) × (Nat → Int32) × (Nat → Int32) × (Nat → Int32) × (Nat → Int32))) (M : Option (Int32 × Int32 × (Nat → Int32))) : Prop :=
  (∃ t2 e2 ep2 mm2 clc2 xT2 xK2 xE2 xF2 xL2, X = some (nI t2, xk t2, e2, ep2, clc2, xT2, xK2, xE2, xF2, xL2) ∧ M = some (1, nI t2, mm2) ∧ t < t2 ∧ t2 ≤ T ∧ (∀ j, t2 ≤ j → j ≤ T → mm2 j = 0) ∧ CI N mk mf mv s0 (LnP ec tc ew tw W clc2 xT2 xK2 xE2 xF2 xL2 t2) t2 mm2 e2 ep2) ∨
  (∃ t2 a mm2 clc2 xT2 xK2 xE2 xF2 xL2, X = some (a, 133, 1, mf t2, clc2, xT2, xK2, xE2, xF2, xL2) ∧ M = some (0, nI t2, mm2) ∧ t2 ≤ T)
/-- the hours of a claim, from the word AT on -/
theorem hours_same (H : TKs xk xs xn mk mf xw mv T) (HN : ∀ i, i ≤ T → mk i = 31 → ∃ m, m < 1000000 ∧ xn i = nI m) (hW : WM W) {t0 t : Nat} {mm : Nat → Int32} {e ep r1 r2 : Int32} (h : CI N mk mf mv s0 (CM ec tc ew tw W clc xT xK xE xF xL (F2 r1 r2 0) t) t mm e ep) (h0 : t0 ≤ t) (ht : t < T) (hz : ∀ j, t ≤ j → j ≤ T → mm j = 0) :
    ToldOut N mk mf xk mv s0 T ec tc ew tw W t0 (f_Re_readHours (nI t) (xk t) e ep xk xs xn clc xT xK xE xF xL r1 r2) (oB none (f_M_eatAs (nI (t + 1)) mk mm (31 : Int32) (7 : Int32)) (fun (r1920 : Int32 × Int32 × (Nat → Int32)) => (if r1920.1 = 0 then (some ((0 : Int32), r1920.2.1, r1920.2.2)) else (oB none (f_M_eat r1920.2.1 mk (4 : Int32)) (fun (r1923 : Int32 × Int32) => (if r1923.1 = 0 then (some ((1 : Int32), r1923.2, r1920.2.2)) else (oB none (f_M_eatAs r1923.2 mk r1920.2.2 (31 : Int32) (8 : Int32)) (fun (r1926 : Int32 × Int32 × (Nat → Int32)) => (if r1926.1 = 0 then (some ((0 : Int32), r1926.2.1, r1926.2.2)) else (some ((1 : Int32), r1926.2.1, r1926.2.2))))))))))) := by
  have h4 := H.1
  have c1 := ci_skip (P2 := CM ec tc ew tw W clc xT xK xE xF xL (F2 r1 r2 0) (t + 1)) h (by omega) (hz t (Nat.le_refl _) (by omega)) (fun st hs => cm_skip hW (by omega) st hs)
  unfold f_Re_readHours
  rw [adv H ht, oB_s]
  dsimp only
  by_cases k1 : mk (t + 1) = 31
  · have t1 : t + 1 < T := tk_lt H (by omega) (by rw [k1]; decide) (by rw [k1]; decide)
    obtain ⟨v, hv, ev⟩ := HN (t + 1) (by omega) k1
    have ez : (mv (t + 1)).toInt32 = xn (t + 1) := by rw [(H.2.1 (t + 1) (by omega)).2.2.2.2 k1, Int32.toInt32_toInt64]
    obtain ⟨e1, ep1, x1, c2⟩ := hour_y (P2 := CM ec tc ew tw W clc xT xK xE xF xL (F3 r1 r2 0 (xn (t + 1)) (xn (t + 1))) (t + 2)) (mm2 := upd mm (t + 1) 7) (p := 0) H c1 t1 k1 (fun j hj => upd_ne (by omega)) (fun st hs => by
      obtain ⟨ne, nt, m, who, od, event, teller, kd, bY, oF, oT, lA, wM, rfl, a2, a3, a4, a5, a6, a7, b1, b2, b3, b4, b5, b6⟩ := hs
      refine ⟨_, (e_7 (by omega) upd_at a2).trans ?_, ne, nt, m, who, od, event, teller, kd, bY, oF, upd oT m (mv (t + 1)).toInt32, upd lA m (mv (t + 1)).toInt32, wM, rfl, a2, a3, a4, cr_congr a5 (fun _ _ => rfl) (fun _ _ => rfl) (fun _ _ => rfl) (fun j hj => upd_ne (by omega)) (fun j hj => upd_ne (by omega)), fun k hk => (upd_ne (by omega)).trans (a6 k hk), hW _ _ _ _ _ _ _ (by omega) (by omega) (fun _ _ => rfl) a7, b2, b3, b4, b5, b6, by rw [upd_at, ez], by rw [upd_at, ez], fun h9 => absurd rfl h9⟩
      rw [ez, if_pos (show (0 : Int32) ≤ xn (t + 1) by rw [ev]; exact nI_pos' (by omega))])
    rw [x1, oB_s, eatAs_y H (by omega) mm 7 k1, oB_s]
    dsimp only
    rw [if_neg n10]
    have kz : ∀ j, t + 2 ≤ j → j ≤ T → upd mm (t + 1) 7 j = 0 := fun j a b => (upd_ne (by omega)).trans (hz j (by omega) b)
    obtain ⟨d1, d2, -⟩ := H.2.1 (t + 2) (by omega)
    by_cases k2 : mk (t + 2) = 4
    · have t2 : t + 2 < T := tk_lt H (by omega) (by rw [k2]; decide) (by rw [k2]; decide)
      rw [if_pos (show xk (t + 1 + 1) = 204 by rw [show t + 1 + 1 = t + 2 from rfl, d1, k2]; rfl), adv H t2, oB_s, eat_y H (by omega) k2, oB_s]
      dsimp only
      rw [if_neg n10]
      have c3 := ci_skip (P2 := CM ec tc ew tw W clc xT xK xE xF xL (F3 r1 r2 0 (xn (t + 1)) (xn (t + 1))) (t + 3)) c2 (by omega) (kz _ (Nat.le_refl _) (by omega)) (fun st hs => cm_skip hW (by omega) st hs)
      by_cases k3 : mk (t + 3) = 31
      · have t3 : t + 3 < T := tk_lt H (by omega) (by rw [k3]; decide) (by rw [k3]; decide)
        have ez3 : (mv (t + 3)).toInt32 = xn (t + 3) := by rw [(H.2.1 (t + 3) (by omega)).2.2.2.2 k3, Int32.toInt32_toInt64]
        obtain ⟨e2, ep2, x2, c4⟩ := hour_y (P2 := CM ec tc ew tw W clc xT xK xE xF xL (F3 r1 r2 0 (xn (t + 1)) (xn (t + 3))) (t + 4)) (mm2 := upd (upd mm (t + 1) 7) (t + 3) 8) (p := xn (t + 1)) H c3 t3 k3 (fun j hj => upd_ne (by omega)) (fun st hs => by
          obtain ⟨ne, nt, m, who, od, event, teller, kd, bY, oF, oT, lA, wM, rfl, a2, a3, a4, a5, a6, a7, b2, b3, b4, b5, b6, b7, b8, b9⟩ := hs
          refine ⟨_, (e_8 (by omega) upd_at a2).trans ?_, ne, nt, m, who, od, event, teller, kd, bY, oF, oT, upd lA m (mv (t + 3)).toInt32, wM, rfl, a2, a3, a4, cr_congr a5 (fun _ _ => rfl) (fun _ _ => rfl) (fun _ _ => rfl) (fun _ _ => rfl) (fun j hj => upd_ne (by omega)), fun k hk => (upd_ne (by omega)).trans (a6 k hk), hW _ _ _ _ _ _ _ (by omega) (by omega) (fun _ _ => rfl) a7, b2, b3, b4, b5, b6, b7, by rw [upd_at, ez3], fun h9 => absurd rfl h9⟩
          rw [ez3, b7])
        obtain ⟨clc2, xT2, xK2, xE2, xF2, xL2, x3, c5⟩ := fin_add (nI (t + 4)) (xk (t + 4)) r1 r2 0 (xn (t + 1)) (xn (t + 3)) (Or.inl rfl) c4
        refine Or.inl ⟨t + 4, e2, ep2, _, clc2, xT2, xK2, xE2, xF2, xL2, ?_, ?_, by omega, by omega, fun j a b => (upd_ne (by omega)).trans (kz j (by omega) b), c5⟩
        · rw [show t + 2 + 1 = t + 3 from rfl, x2, oB_s]
          exact x3
        · rw [show t + 2 + 1 = t + 3 from rfl, eatAs_y H (by omega) _ 8 k3, oB_s]
          dsimp only
          rw [if_neg n10]
      · refine Or.inr ⟨t + 3, nI (t + 3), upd (upd mm (t + 1) 7) (t + 3) 8, clc, xT, xK, xE, xF, xL, ?_, ?_, by omega⟩
        · rw [show t + 2 + 1 = t + 3 from rfl, hour_n H (by omega) k3 (ci_1 c3), oB_s]
          dsimp only
          rw [if_neg n10]
        · rw [show t + 2 + 1 = t + 3 from rfl, eatAs_n H (by omega) _ 8 k3, oB_s]
          dsimp only
          rw [if_pos rfl]
    · have nx : ¬ xk (t + 1 + 1) = 204 := by
        rw [show t + 1 + 1 = t + 2 from rfl, d1]
        exact fun h9 => k2 ((km_tl _ d2).2.1.mp h9)
      rw [if_neg nx, eat_n H (by omega) k2, oB_s]
      dsimp only
      rw [if_pos rfl]
      obtain ⟨clc2, xT2, xK2, xE2, xF2, xL2, x3, c5⟩ := fin_add (nI (t + 2)) (xk (t + 2)) r1 r2 0 (xn (t + 1)) (xn (t + 1)) (Or.inl rfl) c2
      exact Or.inl ⟨t + 2, e1, ep1, _, clc2, xT2, xK2, xE2, xF2, xL2, x3, rfl, by omega, by omega, kz, c5⟩
  · refine Or.inr ⟨t + 1, nI (t + 1), upd mm (t + 1) 7, clc, xT, xK, xE, xF, xL, ?_, ?_, by omega⟩
    · rw [hour_n H (by omega) k1 (ci_1 c1), oB_s]
      dsimp only
      rw [if_neg (show ¬ (133 : Int32) = 204 by decide), if_neg n10]
    · rw [eatAs_n H (by omega) mm 7 k1, oB_s]
      dsimp only
      rw [if_pos rfl]
end TD
