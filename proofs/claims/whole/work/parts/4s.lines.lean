/-! a line of the tape, read by both sides alike: claims -/
def CI (N : Nat) (mk mf : Nat → Int32) (mv : Nat → Int64) (s0 : S2) (P : S2 → Prop) (t : Nat) (mm : Nat → Int32) (e ep : Int32) : Prop :=
  (e = 0 ∧ ep = -1 ∧ ∃ st, Ch N mk mv s0 mm t st ∧ P st) ∨ (¬ e = 0 ∧ ¬ e = 1 ∧ ChE N mk mf mv s0 t mm e ep)
def NM (ec tc : Int32) (ew tw : Nat → Int64) (ne nt : Nat) (event teller : Nat → Int64) : Prop :=
  ne ≤ 8 ∧ nt ≤ 10 ∧ ec = nI ne ∧ tc = nI nt ∧ (∀ k, k < ne → event k = ew k) ∧ (∀ k, k < nt → teller k = tw k)
abbrev WT := Nat → (Nat → Int32) → Nat → Int32 → (Nat → Int32) → Prop
def WM (W : WT) : Prop := ∀ nt who who2 t t2 od wM, t ≤ t2 → t2 ≤ 401 → (∀ j, j < t → who2 j = who j) → W nt who t od wM → W nt who2 t2 od wM
/-- between two lines -/
def LnP (ec tc : Int32) (ew tw : Nat → Int64) (W : WT) (clc : Int32) (xT xK xE xF xL : Nat → Int32) (t : Nat) (st : S2) : Prop :=
  ∃ (ne nt m : Nat) (who : Nat → Int32) (od : Int32) (event teller : Nat → Int64) (kd bY oF oT lA wM : Nat → Int32), st = (who, nI ne, nI nt, nI m, od, event, teller, kd, bY, oF, oT, lA, wM) ∧ clc = nI m ∧ NM ec tc ew tw ne nt event teller ∧
    CR nt ne m xT xK xE xF xL kd bY oF oT lA ∧ (∀ k, m ≤ k → lA k = 0) ∧ W nt who t od wM
/-- within a claim -/
abbrev FT := Nat → Nat → Int32 → Int32 → Int32 → Int32 → Int32 → Prop
def CM (ec tc : Int32) (ew tw : Nat → Int64) (W : WT) (clc : Int32) (xT xK xE xF xL : Nat → Int32) (F : FT) (t : Nat) (st : S2) : Prop :=
  ∃ (ne nt m : Nat) (who : Nat → Int32) (od : Int32) (event teller : Nat → Int64) (kd bY oF oT lA wM : Nat → Int32), st = (who, nI ne, nI nt, nI (m + 1), od, event, teller, kd, bY, oF, oT, lA, wM) ∧ m < 40 ∧ clc = nI m ∧ NM ec tc ew tw ne nt event teller ∧
    CR nt ne m xT xK xE xF xL kd bY oF oT lA ∧ (∀ k, m < k → lA k = 0) ∧ W nt who t od wM ∧ F nt ne (kd m) (bY m) (oF m) (oT m) (lA m)
theorem cr_congr {nt ne m : Nat} {xT xK xE xF xL kd bY oF oT lA kd2 bY2 oF2 oT2 lA2 : Nat → Int32} (h : CR nt ne m xT xK xE xF xL kd bY oF oT lA) (h1 : ∀ j, j < m → kd2 j = kd j) (h2 : ∀ j, j < m → bY2 j = bY j) (h3 : ∀ j, j < m → oF2 j = oF j) (h4 : ∀ j, j < m → oT2 j = oT j) (h5 : ∀ j, j < m → lA2 j = lA j) : CR nt ne m xT xK xE xF xL kd2 bY2 oF2 oT2 lA2 := by
  refine ⟨h.1, fun j hj => ?_⟩
  rw [h1 j hj, h2 j hj, h3 j hj, h4 j hj, h5 j hj]
  exact h.2 j hj
theorem cr_wide {nt ne nt2 ne2 m : Nat} {xT xK xE xF xL kd bY oF oT lA : Nat → Int32} (h : CR nt ne m xT xK xE xF xL kd bY oF oT lA) (h1 : nt ≤ nt2) (h2 : ne ≤ ne2) : CR nt2 ne2 m xT xK xE xF xL kd bY oF oT lA := by
  refine ⟨h.1, fun j hj => ?_⟩
  obtain ⟨a1, a2, ⟨a, a3, a4⟩, ⟨b, b3, b4⟩, a5⟩ := h.2 j hj
  refine ⟨a1, a2, ⟨a, by omega, a4⟩, ⟨b, by omega, b4⟩, fun h0 => ?_⟩
  obtain ⟨c, c3, c4⟩ := a5 h0
  exact ⟨c, by omega, c4⟩
theorem crl_add {nt ne m : Nat} {xT xK xE xF xL kd bY oF oT lA : Nat → Int32} (h : CR nt ne m xT xK xE xF xL kd bY oF oT lA) (hm : m < 40) (h1 : k3 (kd m)) (h2 : ∃ j, j < nt ∧ bY m = nI j) (h3 : ∃ j, j < ne ∧ oF m = nI j) (h4 : ¬ kd m = 0 → ∃ j, j < ne ∧ oT m = nI j) : CR nt ne (m + 1) (upd xT m (bY m)) (upd xK m (kd m)) (upd xE m (oF m)) (upd xF m (oT m)) (upd xL m (lA m)) kd bY oF oT lA := by
  refine ⟨hm, fun j hj => ?_⟩
  by_cases hjm : j = m
  · subst hjm
    exact ⟨⟨upd_at, upd_at, upd_at, upd_at, upd_at⟩, h1, h2, h3, h4⟩
  · have hj2 : j < m := by omega
    rw [upd_lt hj2, upd_lt hj2, upd_lt hj2, upd_lt hj2, upd_lt hj2]
    exact h.2 j hj2
section LN
variable {N : Nat} {mk mf xk xs xn : Nat → Int32} {mv xw : Nat → Int64} {s0 : S2} {T t : Nat} {P P2 : S2 → Prop} {mm mm2 : Nat → Int32} {e ep : Int32}
theorem ci_1 (h : CI N mk mf mv s0 P t mm e ep) : ¬ e = 1 := by
  rcases h with ⟨h, -⟩ | ⟨-, h, -⟩
  · rw [h]; decide
  · exact h
theorem ci_imp (h : CI N mk mf mv s0 P t mm e ep) (ht : t ≤ 401) (hm : ∀ j, j < t → mm2 j = mm j) (hP : ∀ st, P st → P2 st) : CI N mk mf mv s0 P2 t mm2 e ep := by
  rcases h with ⟨h1, h2, st, h3, h4⟩ | ⟨h1, h2, h3⟩
  · exact Or.inl ⟨h1, h2, st, ch_congr t st ht hm h3, hP st h4⟩
  · exact Or.inr ⟨h1, h2, che_mono h3 (Nat.le_refl _) ht hm⟩
theorem ci_ok (h : CI N mk mf mv s0 P t mm e ep) (ht : t < 401) (hm : ∀ j, j < t → mm2 j = mm j) (hE : ∀ st, P st → ∃ st2, E2 N mk mm2 mv st t = some (0, st2) ∧ P2 st2) : CI N mk mf mv s0 P2 (t + 1) mm2 e ep := by
  rcases h with ⟨h1, h2, st, h3, h4⟩ | ⟨h1, h2, h3⟩
  · obtain ⟨st2, h5, h6⟩ := hE st h4
    exact Or.inl ⟨h1, h2, st2, ⟨st, ch_congr t st (by omega) hm h3, h5⟩, h6⟩
  · exact Or.inr ⟨h1, h2, che_mono h3 (by omega) (by omega) hm⟩
theorem ci_skip (h : CI N mk mf mv s0 P t mm e ep) (ht : t < 401) (h0 : mm t = 0) (hP : ∀ st, P st → P2 st) : CI N mk mf mv s0 P2 (t + 1) mm e ep :=
  ci_ok h ht (fun _ _ => rfl) (fun st hs => ⟨st, e_0 ht h0 st, hP st hs⟩)
theorem ci_bad (H : TKs xk xs xn mk mf xw mv T) {c : Int32} (hc0 : 0 < c) (hc1 : ¬ c = 1) (h : CI N mk mf mv s0 P t mm e ep) (ht : t ≤ T) (hm : ∀ j, j < t → mm2 j = mm j) (hE : ∀ st, P st → ∃ st2, E2 N mk mm2 mv st t = some (c, st2)) :
    ∃ e2 ep2, f_Re_note (nI t) e ep xs c = some (e2, ep2) ∧ ¬ e2 = 0 ∧ ∀ P2, CI N mk mf mv s0 P2 (t + 1) mm2 e2 ep2 := by
  have h4 := H.1
  have hs : rget 401 xs (nI t) = mf t := by rw [rg (by omega) (by decide)]; exact (H.2.1 t ht).2.2.1
  rcases h with ⟨h1, h2, st, h3, h5⟩ | ⟨h1, h2, h3⟩
  · obtain ⟨st2, h6⟩ := hE st h5
    have hc00 : ¬ c = 0 := fun h9 => by rw [h9] at hc0; exact absurd hc0 (by decide)
    refine ⟨c, mf t, ?_, hc00, fun P2 => Or.inr ⟨hc00, hc1, t, by omega, st, st2, ch_congr t st (by omega) hm h3, h6, hc0, rfl⟩⟩
    unfold f_Re_note
    rw [if_pos h1, hs]
  · refine ⟨e, ep, ?_, h1, fun P2 => Or.inr ⟨h1, h2, che_mono h3 (by omega) (by omega) hm⟩⟩
    unfold f_Re_note
    rw [if_neg h1, if_neg hc1]
theorem ci_known (H : TKs xk xs xn mk mf xw mv T) {r : Int32} (hr : r = -1 ∨ ∃ k, k < 10 ∧ r = nI k) (h : CI N mk mf mv s0 P t mm e ep) (ht : t < T) (hm : ∀ j, j < t → mm2 j = mm j) (hE : ∀ st, P st → ∃ st2, E2 N mk mm2 mv st t = some ((if r = -1 then 3 else 0), st2) ∧ (¬ r = -1 → P2 st2)) :
    ∃ e2 ep2, (if 0 ≤ r then (oB none (f_Re_advance (nI t) (xk t) xk) (fun (r31 : Int32 × Int32) => (some (r, r31.1, r31.2, e, ep)))) else (oB none (f_Re_note (nI t) e ep xs (3 : Int32)) (fun (r33 : Int32 × Int32) => (oB none (f_Re_advance (nI t) (xk t) xk) (fun (r35 : Int32 × Int32) => (some (r, r35.1, r35.2, r33.1, r33.2))))))) = some (r, nI (t + 1), xk (t + 1), e2, ep2) ∧ CI N mk mf mv s0 P2 (t + 1) mm2 e2 ep2 := by
  have h4 := H.1
  rcases hr with hr | ⟨k, hk, hr⟩
  · obtain ⟨e2, ep2, a1, a2, a3⟩ := ci_bad H (c := 3) (mm2 := mm2) (by decide) (by decide) h (by omega) hm (fun st hs => by
      obtain ⟨st2, b1, -⟩ := hE st hs
      rw [if_pos hr] at b1
      exact ⟨st2, b1⟩)
    refine ⟨e2, ep2, ?_, a3 P2⟩
    rw [if_neg (show ¬ (0 : Int32) ≤ r by rw [hr]; decide), a1, oB_s, adv H ht]
    rfl
  · have n1 : ¬ r = -1 := by rw [hr]; exact nI_m1 (by omega)
    refine ⟨e, ep, ?_, ci_ok h (by omega) hm (fun st hs => ?_)⟩
    · rw [if_pos (show (0 : Int32) ≤ r by rw [hr]; exact nI_pos' (by omega)), adv H ht]
      rfl
    · obtain ⟨st2, b1, b2⟩ := hE st hs
      rw [if_neg n1] at b1
      exact ⟨st2, b1, b2 n1⟩
theorem nf8 (w : Nat → Int64) (d : Int32) (x : Int64) : nfind 8 w d x = -1 ∨ ∃ k, k < 10 ∧ nfind 8 w d x = nI k := by
  rcases nfF_any (w := w) (x := x) (d := d) 8 0 with h | ⟨k, h1, h2⟩
  · exact Or.inl h
  · exact Or.inr ⟨k, by omega, h2⟩
theorem nf10 (w : Nat → Int64) (d : Int32) (x : Int64) : nfind 10 w d x = -1 ∨ ∃ k, k < 10 ∧ nfind 10 w d x = nI k := by
  rcases nfF_any (w := w) (x := x) (d := d) 10 0 with h | ⟨k, h1, h2⟩
  · exact Or.inl h
  · exact Or.inr ⟨k, by omega, h2⟩
theorem nf_in8 {w : Nat → Int64} {d : Int32} {ne : Nat} (hd : d = nI ne) (hn : ne ≤ 8) {x : Int64} (h : ¬ nfind 8 w d x = -1) : ∃ k, k < ne ∧ nfind 8 w d x = nI k := by
  subst hd
  exact (nfF_in (w := w) (n := ne) (x := x) (by omega) 8 0 (by decide)).resolve_left h
theorem nf_in10 {w : Nat → Int64} {d : Int32} {ne : Nat} (hd : d = nI ne) (hn : ne ≤ 10) {x : Int64} (h : ¬ nfind 10 w d x = -1) : ∃ k, k < ne ∧ nfind 10 w d x = nI k := by
  subst hd
  exact (nfF_in (w := w) (n := ne) (x := x) (by omega) 10 0 (by decide)).resolve_left h
theorem ci_kt (H : TKs xk xs xn mk mf xw mv T) {tc : Int32} {tw : Nat → Int64} (h : CI N mk mf mv s0 P t mm e ep) (ht : t < T) (hk : mk t = 30) (hm : ∀ j, j < t → mm2 j = mm j) (hE : ∀ st, P st → ∃ st2, E2 N mk mm2 mv st t = some ((if nfind 10 tw tc (mv t) = -1 then 3 else 0), st2) ∧ (¬ nfind 10 tw tc (mv t) = -1 → P2 st2)) :
    ∃ e2 ep2, f_Re_readKnown_v1 (nI t) (xk t) e ep xk xs xw tc tw = some (nfind 10 tw tc (mv t), nI (t + 1), xk (t + 1), e2, ep2) ∧ CI N mk mf mv s0 P2 (t + 1) mm2 e2 ep2 := by
  obtain ⟨hx, hw⟩ := wrdAt H ht hk
  obtain ⟨e2, ep2, w1, w2⟩ := ci_known H (nf10 tw tc (mv t)) h ht hm hE
  refine ⟨e2, ep2, ?_, w2⟩
  unfold f_Re_readKnown_v1
  rw [if_pos hx, hw, oB_s]
  exact w1
theorem ci_ke (H : TKs xk xs xn mk mf xw mv T) {tc : Int32} {tw : Nat → Int64} (h : CI N mk mf mv s0 P t mm e ep) (ht : t < T) (hk : mk t = 30) (hm : ∀ j, j < t → mm2 j = mm j) (hE : ∀ st, P st → ∃ st2, E2 N mk mm2 mv st t = some ((if nfind 8 tw tc (mv t) = -1 then 3 else 0), st2) ∧ (¬ nfind 8 tw tc (mv t) = -1 → P2 st2)) :
    ∃ e2 ep2, f_Re_readKnown (nI t) (xk t) e ep xk xs xw tc tw = some (nfind 8 tw tc (mv t), nI (t + 1), xk (t + 1), e2, ep2) ∧ CI N mk mf mv s0 P2 (t + 1) mm2 e2 ep2 := by
  obtain ⟨hx, hw⟩ := wrdAt H ht hk
  obtain ⟨e2, ep2, w1, w2⟩ := ci_known H (nf8 tw tc (mv t)) h ht hm hE
  refine ⟨e2, ep2, ?_, w2⟩
  unfold f_Re_readKnown
  rw [if_pos hx, hw, oB_s]
  exact w1
theorem rk_val (H : TKs xk xs xn mk mf xw mv T) {tc : Int32} {tw : Nat → Int64} (ht : t < T) (hk : mk t = 30) (hr : ¬ nfind 8 tw tc (mv t) = -1) : f_Re_readKnown (nI t) (xk t) e ep xk xs xw tc tw = some (nfind 8 tw tc (mv t), nI (t + 1), xk (t + 1), e, ep) := by
  obtain ⟨hx, hw⟩ := wrdAt H ht hk
  obtain ⟨k, k1, k2⟩ := (nf8 tw tc (mv t)).resolve_left hr
  unfold f_Re_readKnown
  rw [if_pos hx, hw, oB_s]
  show (if 0 ≤ nfind 8 tw tc (mv t) then _ else _) = _
  rw [if_pos (show (0 : Int32) ≤ nfind 8 tw tc (mv t) by rw [k2]; exact nI_pos' (by omega)), adv H ht]
  rfl
end LN
