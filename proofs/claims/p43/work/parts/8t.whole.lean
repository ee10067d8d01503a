/-! the reader: the whole text -/
def CW (cl : List (Nat → Int32)) (k : Nat) (cT cK cE cF cL : Nat → Int32) : Prop := ∀ j, j < k → cT j = rw5 cl j 1 ∧ cK j = rw5 cl j 0 ∧ cE j = rw5 cl j 2 ∧ cF j = rw5 cl j 3 ∧ cL j = rw5 cl j 4
def OW (os : List OT) (k : Nat) (oD oT oE sk sp : Nat → Int32) : Prop := ∀ j, j < k → oD j = bI (oG os j).1 ∧ oT j = nI (oG os j).2.1 ∧ oE j = nI (ccm os (j + 1)) ∧ At sk sp (ccm os j) (cdO (oG os j))
theorem CW.add {cl : List (Nat → Int32)} {k : Nat} {cT cK cE cF cL : Nat → Int32} (h : CW cl k cT cK cE cF cL) : CW cl (k + 1) (upd cT k (rw5 cl k 1)) (upd cK k (rw5 cl k 0)) (upd cE k (rw5 cl k 2)) (upd cF k (rw5 cl k 3)) (upd cL k (rw5 cl k 4)) := by
  intro j hj
  by_cases e : j = k
  · subst e
    exact ⟨upd_at, upd_at, upd_at, upd_at, upd_at⟩
  · rw [upd_ne e, upd_ne e, upd_ne e, upd_ne e, upd_ne e]
    exact h j (by omega)
theorem OW.add {os : List OT} {k : Nat} {oD oT oE sk sp : Nat → Int32} (h : OW os k oD oT oE sk sp) : OW os (k + 1) (upd oD k (bI (oG os k).1)) (upd oT k (nI (oG os k).2.1)) (upd oE k (nI (ccm os k + (cdO (oG os k)).length))) (adA sk (ccm os k) (cdO (oG os k))) (adB sp (ccm os k) (cdO (oG os k))) := by
  intro j hj
  by_cases e : j = k
  · subst e
    exact ⟨upd_at, upd_at, upd_at, ad_at _ _ _ _⟩
  · rw [upd_ne e, upd_ne e, upd_ne e]
    obtain ⟨h1, h2, h3, h4⟩ := h j (by omega)
    refine ⟨h1, h2, h3, fun i hi => ?_⟩
    have hle : ccm os j + (cdO (oG os j)).length ≤ ccm os k := ccm_le (os := os) (k := j + 1) k (by omega)
    rw [adA_lt _ _ _ _ (by omega), adB_lt _ _ _ _ (by omega)]
    exact h4 i hi
section PR
variable {tk ts tn : Nat → Int32} {tw w1 w2 : Nat → Int64} {N ne nt i0 n0 cc oc sc d : Nat} {ep : Int32} {cT cK cE cF cL oD oT oE sk sp : Nat → Int32}
variable {s1 s2 s3 : Int32} {s4 : Int64} {cl : List (Nat → Int32)} {os : List OT}
theorem lpS_n {S T : Type} {step : S → S ⊕ T} {f : T} {s : S} {n m : Nat} (h : n = m) : lpS step f n s = lpS step f m s := by rw [h]
theorem evK_len (k : Nat) : (evK (k + 1)).length = (evK k).length + 3 := by show (evK k ++ evL k).length = _; rw [List.length_append]; rfl
theorem teK_len (k : Nat) : (teK (k + 1)).length = (teK k).length + 3 := by show (teK k ++ teL k).length = _; rw [List.length_append]; rfl
theorem clK_len (k : Nat) : (clK cl (k + 1)).length = (clK cl k).length + (clL (rw5 cl k)).length := by show (clK cl k ++ clL (rw5 cl k)).length = _; rw [List.length_append]
theorem orK_len (k : Nat) : (orK os (k + 1)).length = (orK os k).length + (orL (oG os k)).length := by show (orK os k ++ orL (oG os k)).length = _; rw [List.length_append]
theorem ev_all : ∀ k, k ≤ 7 → Tks tk tn tw i0 (evK k) → i0 + (evK k).length < 401 → n0 + k < 400 → ∃ w9, NmW w9 101 k ∧ ∀ m, lpS (f_Re_read_L7 N s1 s2 s3 s4 tk ts tn tw) none (m + k) (nI n0, nI i0, tk i0, nI d, 0, ep, nI cc, cT, cK, cE, cF, cL, nI oc, nI sc, oD, oT, oE, sk, sp, nI 0, w1, nI nt, w2) = lpS (f_Re_read_L7 N s1 s2 s3 s4 tk ts tn tw) none m (nI (n0 + k), nI (i0 + (evK k).length), tk (i0 + (evK k).length), nI d, 0, ep, nI cc, cT, cK, cE, cF, cL, nI oc, nI sc, oD, oT, oE, sk, sp, nI k, w9, nI nt, w2) := by
  intro k
  induction k with
  | zero => intro _ _ _ _; exact ⟨w1, fun v hv => absurd hv (Nat.not_lt_zero v), fun m => rfl⟩
  | succ k ih =>
    intro hk hT hi hn
    obtain ⟨t1, t2⟩ := Tks.app (evK k) (evL k) i0 hT
    rw [evK_len] at hi ⊢
    obtain ⟨w9, h1, h2⟩ := ih (by omega) t1 (by omega) (by omega)
    refine ⟨_, h1.add, fun m => ?_⟩
    rw [show m + (k + 1) = m + 1 + k by omega, h2 (m + 1), lp_in (ln_ev (by omega) (by omega) t2 (by omega) h1)]
    rfl
theorem te_all : ∀ k, k ≤ 7 → Tks tk tn tw i0 (teK k) → i0 + (teK k).length < 401 → n0 + k < 400 → ∃ w9, NmW w9 116 k ∧ ∀ m, lpS (f_Re_read_L7 N s1 s2 s3 s4 tk ts tn tw) none (m + k) (nI n0, nI i0, tk i0, nI d, 0, ep, nI cc, cT, cK, cE, cF, cL, nI oc, nI sc, oD, oT, oE, sk, sp, nI ne, w1, nI 0, w2) = lpS (f_Re_read_L7 N s1 s2 s3 s4 tk ts tn tw) none m (nI (n0 + k), nI (i0 + (teK k).length), tk (i0 + (teK k).length), nI d, 0, ep, nI cc, cT, cK, cE, cF, cL, nI oc, nI sc, oD, oT, oE, sk, sp, nI ne, w1, nI k, w9) := by
  intro k
  induction k with
  | zero => intro _ _ _ _; exact ⟨w2, fun v hv => absurd hv (Nat.not_lt_zero v), fun m => rfl⟩
  | succ k ih =>
    intro hk hT hi hn
    obtain ⟨t1, t2⟩ := Tks.app (teK k) (teL k) i0 hT
    rw [teK_len] at hi ⊢
    obtain ⟨w9, h1, h2⟩ := ih (by omega) t1 (by omega) (by omega)
    refine ⟨_, h1.add, fun m => ?_⟩
    rw [show m + (k + 1) = m + 1 + k by omega, h2 (m + 1), lp_in (ln_te (by omega) (by omega) t2 (by omega) h1)]
    rfl
theorem cl_all (hE : EvW w1 ne) (hT : TeW w2 nt) (hne : ne ≤ 10) (hnt : nt ≤ 10) (hV : ∀ k, k < cl.length → CV1 ne nt (rw5 cl k)) (hD : CD cl) (h40 : cl.length ≤ 40) : ∀ k, k ≤ cl.length → Tks tk tn tw i0 (clK cl k) → i0 + (clK cl k).length < 401 → n0 + k < 400 → ∃ aT aK aE aF aL, CW cl k aT aK aE aF aL ∧ ∀ m, lpS (f_Re_read_L7 N s1 s2 s3 s4 tk ts tn tw) none (m + k) (nI n0, nI i0, tk i0, nI d, 0, ep, nI 0, cT, cK, cE, cF, cL, nI oc, nI sc, oD, oT, oE, sk, sp, nI ne, w1, nI nt, w2) = lpS (f_Re_read_L7 N s1 s2 s3 s4 tk ts tn tw) none m (nI (n0 + k), nI (i0 + (clK cl k).length), tk (i0 + (clK cl k).length), nI d, 0, ep, nI k, aT, aK, aE, aF, aL, nI oc, nI sc, oD, oT, oE, sk, sp, nI ne, w1, nI nt, w2) := by
  intro k
  induction k with
  | zero => intro _ _ _ _; exact ⟨cT, cK, cE, cF, cL, fun v hv => absurd hv (Nat.not_lt_zero v), fun m => rfl⟩
  | succ k ih =>
    intro hk hT2 hi hn
    obtain ⟨t1, t2⟩ := Tks.app (clK cl k) (clL (rw5 cl k)) i0 hT2
    rw [clK_len] at hi ⊢
    obtain ⟨aT, aK, aE, aF, aL, h1, h2⟩ := ih (by omega) t1 (by omega) (by omega)
    refine ⟨_, _, _, _, _, h1.add, fun m => ?_⟩
    rw [show m + (k + 1) = m + 1 + k by omega, h2 (m + 1), lp_in (ln_cl hE hT hne hnt (by omega) (hV k (by omega)) (hD k (by omega)) (by omega) (by omega) t2), Nat.add_assoc i0]
    rfl
theorem or_all (hN : 400 < N) (hE : EvW w1 ne) (hT : TeW w2 nt) (hne : ne ≤ 10) (hnt : nt ≤ 10) (hO : ∀ k, k < os.length → (oG os k).2.1 < nt ∧ ∀ T, (oG os k).2.2 = some T → TB ne nt 4 T) (h4 : os.length ≤ 4) (hc : ccm os os.length ≤ 400) : ∀ k, k ≤ os.length → Tks tk tn tw i0 (orK os k) → i0 + (orK os k).length < 401 → n0 + k < 400 → ∃ aD aT aE ak ap, OW os k aD aT aE ak ap ∧ ∀ m, lpS (f_Re_read_L7 N s1 s2 s3 s4 tk ts tn tw) none (m + k) (nI n0, nI i0, tk i0, nI 0, 0, ep, nI cc, cT, cK, cE, cF, cL, nI 0, nI 0, oD, oT, oE, sk, sp, nI ne, w1, nI nt, w2) = lpS (f_Re_read_L7 N s1 s2 s3 s4 tk ts tn tw) none m (nI (n0 + k), nI (i0 + (orK os k).length), tk (i0 + (orK os k).length), nI 0, 0, ep, nI cc, cT, cK, cE, cF, cL, nI k, nI (ccm os k), aD, aT, aE, ak, ap, nI ne, w1, nI nt, w2) := by
  intro k
  induction k with
  | zero => intro _ _ _ _; exact ⟨oD, oT, oE, sk, sp, fun v hv => absurd hv (Nat.not_lt_zero v), fun m => rfl⟩
  | succ k ih =>
    intro hk hT2 hi hn
    obtain ⟨t1, t2⟩ := Tks.app (orK os k) (orL (oG os k)) i0 hT2
    rw [orK_len] at hi ⊢
    obtain ⟨aD, aT, aE, ak, ap, h1, h2⟩ := ih (by omega) t1 (by omega) (by omega)
    have hle : ccm os k + (cdO (oG os k)).length ≤ ccm os os.length := ccm_le (os := os) (k := k + 1) os.length (by omega)
    refine ⟨_, _, _, _, _, h1.add, fun m => ?_⟩
    rw [show m + (k + 1) = m + 1 + k by omega, h2 (m + 1), lp_in (ln_or hN hE hT hne hnt (by omega) (hO k (by omega)).1 (hO k (by omega)).2 (by omega) (by omega) (by omega) t2), Nat.add_assoc i0]
    rfl
theorem read_all (hN : 500 < N) (h6 : ne ≤ 6) (h6' : nt ≤ 6) (hV : ∀ k, k < cl.length → CV1 ne nt (rw5 cl k)) (hD : CD cl) (h16 : cl.length ≤ 16) (hO : ∀ k, k < os.length → (oG os k).2.1 < nt ∧ ∀ T, (oG os k).2.2 = some T → TB ne nt 4 T) (h4 : os.length ≤ 4) (hc : ccm os os.length ≤ 400) (hT : Tks tk tn tw 0 (allK ne nt cl os)) (hl : (allK ne nt cl os).length < 401) (he : tk (0 + (allK ne nt cl os).length) = 132) :
    ∃ at9 v1 v2 aT aK aE aF aL bD bT bE ak ap, CW cl cl.length aT aK aE aF aL ∧ OW os os.length bD bT bE ak ap ∧ lpS (f_Re_read_L7 N s1 s2 s3 s4 tk ts tn tw) none N (nI 0, nI 0, tk 0, nI 0, 0, ep, nI 0, cT, cK, cE, cF, cL, nI 0, nI 0, oD, oT, oE, sk, sp, nI 0, w1, nI 0, w2) = some (0, at9, 132, 0, 0, ep, s1, s2, s3, s4, tk, ts, tn, tw, nI ne, nI nt, nI cl.length, aT, aK, aE, aF, aL, nI os.length, nI (ccm os os.length), bD, bT, bE, ak, ap, nI ne, v1, nI nt, v2) := by
  have l1 : (allK ne nt cl os).length = (evK ne).length + (teK nt).length + (clK cl cl.length).length + (orK os os.length).length := by
    unfold allK
    rw [List.length_append, List.length_append, List.length_append]
  rw [l1] at hl he
  obtain ⟨q1, t4⟩ := Tks.app ((evK ne ++ teK nt) ++ clK cl cl.length) _ 0 hT
  obtain ⟨q2, t3⟩ := Tks.app (evK ne ++ teK nt) _ 0 q1
  obtain ⟨t1, t2⟩ := Tks.app (evK ne) _ 0 q2
  rw [List.length_append] at t3
  rw [List.length_append, List.length_append] at t4
  rw [← Nat.add_assoc] at t3
  rw [← Nat.add_assoc, ← Nat.add_assoc] at t4
  obtain ⟨v1, a1, b1⟩ := ev_all (n0 := 0) (i0 := 0) (N := N) (ts := ts) (ep := ep) (d := 0) (w1 := w1) (w2 := w2) (nt := 0) (cc := 0) (oc := 0) (sc := 0) (cT := cT) (cK := cK) (cE := cE) (cF := cF) (cL := cL) (oD := oD) (oT := oT) (oE := oE) (sk := sk) (sp := sp) (s1 := s1) (s2 := s2) (s3 := s3) (s4 := s4) ne (by omega) t1 (by omega) (by omega)
  obtain ⟨v2, a2, b2⟩ := te_all (n0 := 0 + ne) (i0 := 0 + (evK ne).length) (N := N) (ts := ts) (ep := ep) (d := 0) (ne := ne) (w1 := v1) (w2 := w2) (cc := 0) (oc := 0) (sc := 0) (cT := cT) (cK := cK) (cE := cE) (cF := cF) (cL := cL) (oD := oD) (oT := oT) (oE := oE) (sk := sk) (sp := sp) (s1 := s1) (s2 := s2) (s3 := s3) (s4 := s4) nt (by omega) t2 (by omega) (by omega)
  have hE := a1.ev (by omega)
  have hT2 := a2.te (by omega)
  obtain ⟨aT, aK, aE, aF, aL, a3, b3⟩ := cl_all (n0 := 0 + ne + nt) (i0 := 0 + (evK ne).length + (teK nt).length) (N := N) (ts := ts) (ep := ep) (d := 0) (oc := 0) (sc := 0) (cT := cT) (cK := cK) (cE := cE) (cF := cF) (cL := cL) (oD := oD) (oT := oT) (oE := oE) (sk := sk) (sp := sp) (s1 := s1) (s2 := s2) (s3 := s3) (s4 := s4) hE hT2 (by omega) (by omega) hV hD (by omega) cl.length (Nat.le_refl _) t3 (by omega) (by omega)
  obtain ⟨bD, bT, bE, ak, ap, a4, b4⟩ := or_all (n0 := 0 + ne + nt + cl.length) (i0 := 0 + (evK ne).length + (teK nt).length + (clK cl cl.length).length) (N := N) (ts := ts) (ep := ep) (cc := cl.length) (cT := aT) (cK := aK) (cE := aE) (cF := aF) (cL := aL) (oD := oD) (oT := oT) (oE := oE) (sk := sk) (sp := sp) (s1 := s1) (s2 := s2) (s3 := s3) (s4 := s4) (by omega) hE hT2 (by omega) (by omega) hO h4 hc os.length (Nat.le_refl _) t4 (by omega) (by omega)
  obtain ⟨m, hm⟩ : ∃ m, N = m + 1 + os.length + cl.length + nt + ne := ⟨N - (1 + os.length + cl.length + nt + ne), by omega⟩
  refine ⟨nI (0 + (evK ne).length + (teK nt).length + (clK cl cl.length).length + (orK os os.length).length), v1, v2, aT, aK, aE, aF, aL, bD, bT, bE, ak, ap, a3, a4, ?_⟩
  have e9 : tk (0 + (evK ne).length + (teK nt).length + (clK cl cl.length).length + (orK os os.length).length) = 132 := by rw [← he]; congr 1; omega
  refine (lpS_n hm).trans ?_
  refine (b1 _).trans ((b2 _).trans ((b3 _).trans ((b4 _).trans (lp_out ?_))))
  unfold f_Re_read_L7
  dsimp only
  rw [e9, if_neg (show ¬ (400 : Int32) ≤ nI (0 + ne + nt + cl.length + os.length) from nI_ge (b := 400) (by omega) (by decide)), if_pos rfl]
  rfl
end PR
