/-! the reader: lines -/
theorem nfF_lt {w w2 : Nat → Int64} {x : Int64} {c : Nat} : ∀ m p, p + m ≤ 30 → (∀ k, k < c → w k = w2 k) → nfindF w (nI c) x m p = nfindF w2 (nI c) x m p
  | 0, _, _, _ => rfl
  | m + 1, p, hm, h => by
    show (if nI p < nI c then (if w p = x then nI p else nfindF w (nI c) x m (p + 1)) else -1) = (if nI p < nI c then (if w2 p = x then nI p else nfindF w2 (nI c) x m (p + 1)) else -1)
    by_cases hp : p < c
    · rw [h p hp, nfF_lt m (p + 1) (by omega) h]
    · by_cases hc : c < 2147483648
      · rw [if_neg (nI_nlt (by omega) (by omega)), if_neg (nI_nlt (by omega) (by omega))]
      · exact absurd hp (by omega)
theorem k3_of {x : Int32} (h : k3 x) : x = 0 ∨ x = 1 ∨ x = 2 := h
/-- names in the order told -/
def NmW (w : Nat → Int64) (c : Int32) (m : Nat) : Prop := ∀ v, v < m → w v = hsh [c, nI (48 + v)]
theorem nm8 : ∀ m, m ≤ 8 → ∀ v, v ≤ m → nfind 8 (fun v => hsh [101, nI (48 + v)]) (nI m) (hsh [101, nI (48 + v)]) = if v < m then nI v else -1 := by decide +kernel
theorem nm10 : ∀ m, m ≤ 8 → ∀ v, v ≤ m → nfind 10 (fun v => hsh [116, nI (48 + v)]) (nI m) (hsh [116, nI (48 + v)]) = if v < m then nI v else -1 := by decide +kernel
theorem NmW.ev {w : Nat → Int64} {m : Nat} (h : NmW w 101 m) (hm : m ≤ 8) : EvW w m := by
  intro v hv
  have e : nfind 8 w (nI m) (hsh [101, nI (48 + v)]) = nfind 8 (fun v => hsh [101, nI (48 + v)]) (nI m) (hsh [101, nI (48 + v)]) := nfF_lt 8 0 (by omega) h
  rw [e, nm8 m hm v (by omega), if_pos hv]
theorem NmW.te {w : Nat → Int64} {m : Nat} (h : NmW w 116 m) (hm : m ≤ 8) : TeW w m := by
  intro v hv
  have e : nfind 10 w (nI m) (hsh [116, nI (48 + v)]) = nfind 10 (fun v => hsh [116, nI (48 + v)]) (nI m) (hsh [116, nI (48 + v)]) := nfF_lt 10 0 (by omega) h
  rw [e, nm10 m hm v (by omega), if_pos hv]
theorem NmW.ev_no {w : Nat → Int64} {m : Nat} (h : NmW w 101 m) (hm : m ≤ 8) : nfind 8 w (nI m) (hsh [101, nI (48 + m)]) = -1 := by
  have e : nfind 8 w (nI m) (hsh [101, nI (48 + m)]) = nfind 8 (fun v => hsh [101, nI (48 + v)]) (nI m) (hsh [101, nI (48 + m)]) := nfF_lt 8 0 (by omega) h
  rw [e, nm8 m hm m (Nat.le_refl _), if_neg (Nat.lt_irrefl _)]
theorem NmW.te_no {w : Nat → Int64} {m : Nat} (h : NmW w 116 m) (hm : m ≤ 8) : nfind 10 w (nI m) (hsh [116, nI (48 + m)]) = -1 := by
  have e : nfind 10 w (nI m) (hsh [116, nI (48 + m)]) = nfind 10 (fun v => hsh [116, nI (48 + v)]) (nI m) (hsh [116, nI (48 + m)]) := nfF_lt 10 0 (by omega) h
  rw [e, nm10 m hm m (Nat.le_refl _), if_neg (Nat.lt_irrefl _)]
theorem NmW.add {w : Nat → Int64} {c : Int32} {m : Nat} (h : NmW w c m) : NmW (vp_updL w m (hsh [c, nI (48 + m)])) c (m + 1) := by
  intro v hv
  unfold vp_updL
  by_cases e : v = m
  · rw [if_pos e, e]
  · rw [if_neg e]
    exact h v (by omega)
section PR
variable {tk ts tn : Nat → Int32} {tw w1 w2 : Nat → Int64} {N ne nt i n cc oc sc d : Nat} {ep : Int32} {cT cK cE cF cL oD oT oE sk sp : Nat → Int32}
variable {s1 s2 s3 : Int32} {s4 : Int64}
theorem new_ev {m : Nat} {w : Nat → Int64} {k0 : Int32} (hi : i + 2 < 401) (hm : m < 8) (hw : NmW w 101 m) (hk : tk (i + 1) = 130) (hh : tw (i + 1) = hsh [101, nI (48 + m)]) : f_Re_readNew_v1 (nI i) k0 0 ep tk ts tw (nI m) w = some (nI (i + 2), tk (i + 2), 0, ep, nI (m + 1), vp_updL w m (hsh [101, nI (48 + m)])) := by
  have f0 : nfull 8 (nI m) = 0 := if_pos (nI_lt (b := 8) (by omega) (by decide))
  have g0 : ib (nI m) 8 = true := ib_nI (by omega) (by decide)
  have e1 : nacnt 8 (nI m) = nI (m + 1) := by unfold nacnt; rw [if_pos g0, ← nI_succ]
  have e2 : ∀ x, nadd 8 w (nI m) x = vp_updL w m x := fun x => by unfold nadd; rw [if_pos g0, nI_clamp (by omega)]
  unfold f_Re_readNew_v1
  rw [r_adv (show i + 1 < 401 by omega), oB_s]
  dsimp only
  rw [if_pos hk, r_word (show i + 1 < 401 by omega), oB_s, hh, NmW.ev_no hw (by omega), if_pos (by decide), if_pos f0, oB_s, r_adv (show i + 1 + 1 < 401 by omega), oB_s, e1, e2]
theorem new_te {m : Nat} {w : Nat → Int64} {k0 : Int32} (hi : i + 2 < 401) (hm : m < 8) (hw : NmW w 116 m) (hk : tk (i + 1) = 130) (hh : tw (i + 1) = hsh [116, nI (48 + m)]) : f_Re_readNew (nI i) k0 0 ep tk ts tw (nI m) w = some (nI (i + 2), tk (i + 2), 0, ep, nI (m + 1), vp_updL w m (hsh [116, nI (48 + m)])) := by
  have f0 : nfull 10 (nI m) = 0 := if_pos (nI_lt (b := 10) (by omega) (by decide))
  have g0 : ib (nI m) 10 = true := ib_nI (by omega) (by decide)
  have e1 : nacnt 10 (nI m) = nI (m + 1) := by unfold nacnt; rw [if_pos g0, ← nI_succ]
  have e2 : ∀ x, nadd 10 w (nI m) x = vp_updL w m x := fun x => by unfold nadd; rw [if_pos g0, nI_clamp (by omega)]
  unfold f_Re_readNew
  rw [r_adv (show i + 1 < 401 by omega), oB_s]
  dsimp only
  rw [if_pos hk, r_word (show i + 1 < 401 by omega), oB_s, hh, NmW.te_no hw (by omega), if_pos (by decide), if_pos f0, oB_s, r_adv (show i + 1 + 1 < 401 by omega), oB_s, e1, e2]
theorem ln_ev (hi : i + 3 < 401) (hn : n < 400) (h : Tks tk tn tw i (evL ne)) (hm : ne < 8) (hw : NmW w1 101 ne) : f_Re_read_L7 N s1 s2 s3 s4 tk ts tn tw (nI n, nI i, tk i, nI d, 0, ep, nI cc, cT, cK, cE, cF, cL, nI oc, nI sc, oD, oT, oE, sk, sp, nI ne, w1, nI nt, w2) = .inl (nI (n + 1), nI (i + 3), tk (i + 3), nI d, 0, ep, nI cc, cT, cK, cE, cF, cL, nI oc, nI sc, oD, oT, oE, sk, sp, nI (ne + 1), vp_updL w1 ne (hsh [101, nI (48 + ne)]), nI nt, w2) := by
  obtain ⟨⟨k1, -, -⟩, ⟨k2, -, k3⟩, ⟨k4, -, -⟩, -⟩ := h
  have e1 : tk i = 200 := k1
  unfold f_Re_read_L7
  dsimp only
  rw [e1, if_neg (show ¬ (400 : Int32) ≤ nI n from nI_ge (b := 400) hn (by decide)), if_neg (by decide), if_neg (by decide), if_pos rfl, new_ev (show i + 2 < 401 by omega) hm hw k2 (k3 (Or.inl rfl)), oB_s]
  dsimp only
  rw [r_exp (p := 59) (show i + 2 + 1 < 401 by omega) k4, oB_s, ← nI_succ]
theorem ln_te (hi : i + 3 < 401) (hn : n < 400) (h : Tks tk tn tw i (teL nt)) (hm : nt < 8) (hw : NmW w2 116 nt) : f_Re_read_L7 N s1 s2 s3 s4 tk ts tn tw (nI n, nI i, tk i, nI d, 0, ep, nI cc, cT, cK, cE, cF, cL, nI oc, nI sc, oD, oT, oE, sk, sp, nI ne, w1, nI nt, w2) = .inl (nI (n + 1), nI (i + 3), tk (i + 3), nI d, 0, ep, nI cc, cT, cK, cE, cF, cL, nI oc, nI sc, oD, oT, oE, sk, sp, nI ne, w1, nI (nt + 1), vp_updL w2 nt (hsh [116, nI (48 + nt)])) := by
  obtain ⟨⟨k1, -, -⟩, ⟨k2, -, k3⟩, ⟨k4, -, -⟩, -⟩ := h
  have e1 : tk i = 201 := k1
  unfold f_Re_read_L7
  dsimp only
  rw [e1, if_neg (show ¬ (400 : Int32) ≤ nI n from nI_ge (b := 400) hn (by decide)), if_neg (by decide), if_neg (by decide), if_neg (by decide), if_pos rfl, new_te (show i + 2 < 401 by omega) hm hw k2 (k3 (Or.inr rfl)), oB_s]
  dsimp only
  rw [r_exp (p := 59) (show i + 2 + 1 < 401 by omega) k4, oB_s, ← nI_succ]
theorem r_cadd {p1 p2 p3 p4 p5 : Int32} (h : cc < 40) : f_Cl_add (nI cc) cT cK cE cF cL p1 p2 p3 p4 p5 = some (nI (cc + 1), upd cT cc p1, upd cK cc p2, upd cE cc p3, upd cF cc p4, upd cL cc p5) := by
  unfold f_Cl_add
  rw [if_pos (show f_Cl_isFull (nI cc) = 0 from if_pos (nI_lt (b := 40) h (by decide))), rs h (by decide), rs h (by decide), rs h (by decide), rs h (by decide), rs h (by decide), ← nI_succ]
theorem r_hour {v : Nat} {k p : Int32} (hi : i + 1 < 401) (hk : k = 131) (hv : tn i = nI v) (h99 : v < 100) (hl : p ≤ nI v) : f_Re_readHour (nI i) k 0 ep tk ts tn p = some (nI v, nI (i + 1), tk (i + 1), 0, ep) := by
  unfold f_Re_readHour
  rw [if_pos hk, rg (show i < 401 by omega) (by decide), hv, if_neg (show ¬ (99 : Int32) < nI v from nI_nlt (a := 99) (by omega) (by decide)), if_pos hl, r_exp hi hk, oB_s]
theorem r_at1 {x p1 p2 : Nat} {k0 : Int32} (hc : cc < 40) (hi : i + 2 < 401) (hx : x < 100) (k1 : tk (i + 1) = 131) (v1 : tn (i + 1) = nI x) (k2 : ¬ tk (i + 2) = 204) : f_Re_readHours (nI i) k0 0 ep tk ts tn (nI cc) cT cK cE cF cL (nI p1) (nI p2) = some (nI (i + 2), tk (i + 2), 0, ep, nI (cc + 1), upd cT cc (nI p1), upd cK cc 0, upd cE cc (nI p2), upd cF cc (nI x), upd cL cc (nI x)) := by
  unfold f_Re_readHours
  rw [r_adv (show i + 1 < 401 by omega), oB_s]
  dsimp only
  rw [r_hour (show i + 1 + 1 < 401 by omega) k1 v1 hx (nI_leI0 x (by omega)), oB_s]
  dsimp only
  rw [if_neg k2, if_pos rfl, r_cadd hc, oB_s]
theorem r_at2 {x y p1 p2 : Nat} {k0 : Int32} (hc : cc < 40) (hi : i + 4 < 401) (hx : x ≤ y) (hy : y < 100) (k1 : tk (i + 1) = 131) (v1 : tn (i + 1) = nI x) (k2 : tk (i + 2) = 204) (k3 : tk (i + 3) = 131) (v3 : tn (i + 3) = nI y) : f_Re_readHours (nI i) k0 0 ep tk ts tn (nI cc) cT cK cE cF cL (nI p1) (nI p2) = some (nI (i + 4), tk (i + 4), 0, ep, nI (cc + 1), upd cT cc (nI p1), upd cK cc 0, upd cE cc (nI p2), upd cF cc (nI x), upd cL cc (nI y)) := by
  unfold f_Re_readHours
  rw [r_adv (show i + 1 < 401 by omega), oB_s]
  dsimp only
  rw [r_hour (show i + 1 + 1 < 401 by omega) k1 v1 (by omega) (nI_leI0 x (by omega)), oB_s]
  dsimp only
  rw [if_pos k2, r_adv (show i + 1 + 1 + 1 < 401 by omega), oB_s]
  dsimp only
  rw [r_hour (show i + 1 + 1 + 1 + 1 < 401 by omega) k3 v3 hy (nI_le hx (by omega)), oB_s]
  dsimp only
  rw [if_pos rfl, r_cadd hc, oB_s]
theorem r_bef {x p1 p2 : Nat} (hE : EvW w1 ne) (hne : ne ≤ 10) (hc : cc < 40) (hi : i + 2 < 401) (hx : x < ne) (hp : p2 < ne) (hxp : ¬ x = p2) (k1 : tk (i + 1) = 130) (v1 : tw (i + 1) = hsh [101, nI (48 + x)]) : f_Re_readOther (nI i) 205 0 ep tk ts tw (nI cc) cT cK cE cF cL (nI ne) w1 (nI p1) (nI p2) = some (nI (i + 2), tk (i + 2), 0, ep, nI (cc + 1), upd cT cc (nI p1), upd cK cc 1, upd cE cc (nI p2), upd cF cc (nI x), upd cL cc 0) := by
  have nx : ¬ nI x = nI p2 := fun h => hxp ((nI_eq (by omega) (by omega)).mp h)
  unfold f_Re_readOther
  rw [if_pos rfl, r_adv (show i + 1 < 401 by omega), oB_s]
  dsimp only
  rw [if_pos k1, if_neg (nI_nlt0 p2 (by omega)), r_word (show i + 1 < 401 by omega), oB_s, v1, hE x hx, if_neg nx, r_ev hE (show i + 1 + 1 < 401 by omega) hx (by omega) k1 v1, oB_s]
  dsimp only
  rw [if_pos rfl, r_cadd hc, oB_s]
theorem r_wit {x p1 p2 : Nat} (hE : EvW w1 ne) (hne : ne ≤ 10) (hc : cc < 40) (hi : i + 2 < 401) (hx : x < ne) (hp : p2 < ne) (hxp : ¬ x = p2) (k1 : tk (i + 1) = 130) (v1 : tw (i + 1) = hsh [101, nI (48 + x)]) : f_Re_readOther (nI i) 206 0 ep tk ts tw (nI cc) cT cK cE cF cL (nI ne) w1 (nI p1) (nI p2) = some (nI (i + 2), tk (i + 2), 0, ep, nI (cc + 1), upd cT cc (nI p1), upd cK cc 2, upd cE cc (nI p2), upd cF cc (nI x), upd cL cc 0) := by
  have nx : ¬ nI x = nI p2 := fun h => hxp ((nI_eq (by omega) (by omega)).mp h)
  unfold f_Re_readOther
  rw [if_neg (by decide), r_adv (show i + 1 < 401 by omega), oB_s]
  dsimp only
  rw [if_pos k1, if_neg (nI_nlt0 p2 (by omega)), r_word (show i + 1 < 401 by omega), oB_s, v1, hE x hx, if_neg nx, r_ev hE (show i + 1 + 1 < 401 by omega) hx (by omega) k1 v1, oB_s]
  dsimp only
  rw [if_pos rfl, r_cadd hc, oB_s]
theorem r_claim {f : Nat → Int32} {len : Nat} (hE : EvW w1 ne) (hT : TeW w2 nt) (hne : ne ≤ 10) (hnt : nt ≤ 10) (hc : cc < 40) (hf : CV1 ne nt f) (hd : ¬ f 0 = 0 → ¬ f 2 = f 3 ∧ f 4 = 0) (hlen : len = (cR f).length + 3) (hi : i + len < 401) (h : Tks tk tn tw i (clL f)) : f_Re_readClaim (nI i) 202 0 ep tk ts tn tw (nI cc) cT cK cE cF cL (nI ne) w1 (nI nt) w2 = some (nI (i + len), tk (i + len), 0, ep, nI (cc + 1), upd cT cc (f 1), upd cK cc (f 0), upd cE cc (f 2), upd cF cc (f 3), upd cL cc (f 4)) ∧ tk (i + len) = 59 := by
  obtain ⟨hk, ⟨t, ht, et⟩, ⟨e, he, ee⟩, h3, h4⟩ := hf
  obtain ⟨-, ⟨k2, -, k3⟩, ⟨k4, -, k5⟩, k6⟩ := h
  obtain ⟨k7, ⟨k8, -, -⟩, -⟩ := Tks.app (cR f) _ (i + 1 + 1 + 1) k6
  have n1 : nN (f 1) = t := by rw [et, nN_nI (by omega)]
  have n2 : nN (f 2) = e := by rw [ee, nN_nI (by omega)]
  have hw1 : tw (i + 1) = hsh [116, nI (48 + t)] := by rw [k3 (Or.inr rfl)]; show hsh [116, nI (48 + nN (f 1))] = _; rw [n1]
  have hw2 : tw (i + 1 + 1) = hsh [101, nI (48 + e)] := by rw [k5 (Or.inl rfl)]; show hsh [101, nI (48 + nN (f 2))] = _; rw [n2]
  have h59 : tk (i + len) = 59 := by rw [hlen, show i + ((cR f).length + 3) = i + 1 + 1 + 1 + (cR f).length by omega]; exact k8
  refine ⟨?_, h59⟩
  unfold f_Re_readClaim
  rw [if_pos (show f_Cl_isFull (nI cc) = 0 from if_pos (nI_lt (b := 40) hc (by decide))), r_adv (show i + 1 < 401 by omega), oB_s]
  dsimp only
  rw [r_te hT (show i + 1 + 1 < 401 by omega) ht (by omega) k2 hw1, oB_s]
  dsimp only
  rw [r_ev hE (show i + 1 + 1 + 1 < 401 by omega) he (by omega) k4 hw2, oB_s]
  dsimp only
  have kin := k3_of hk
  by_cases h0 : f 0 = 0
  · obtain ⟨x, y, xy, y1, e1, e2⟩ := h4 h0
    have n3 : nN (f 3) = x := by rw [e1, nN_nI (by omega)]
    have n4 : nN (f 4) = y := by rw [e2, nN_nI (by omega)]
    unfold cR at k7 hlen
    rw [if_pos h0] at k7 hlen
    by_cases h5 : f 3 < f 4
    · rw [if_pos h5] at k7 hlen
      obtain ⟨⟨j1, -, -⟩, ⟨j2, j3, -⟩, ⟨j4, -, -⟩, ⟨j5, j6, -⟩, -⟩ := k7
      have hl : len = 7 := hlen
      subst hl
      have j3' : tn (i + 1 + 1 + 1 + 1) = nI x := by rw [j3 rfl]; show nI (nN (f 3)) = _; rw [n3]
      have j6' : tn (i + 1 + 1 + 1 + 3) = nI y := by rw [show i + 1 + 1 + 1 + 3 = i + 1 + 1 + 1 + 1 + 1 + 1 by omega, j6 rfl]; show nI (nN (f 4)) = _; rw [n4]
      rw [if_pos (show tk (i + 2 + 1) = 203 from j1), r_at2 (i := i + 2 + 1) hc (show i + 2 + 1 + 4 < 401 by omega) xy y1 j2 j3' j4 j5 j6', oB_s, et, h0, ee, e1, e2]
    · rw [if_neg h5] at k7 hlen
      obtain ⟨⟨j1, -, -⟩, ⟨j2, j3, -⟩, -⟩ := k7
      have hl : len = 5 := hlen
      subst hl
      have exy : x = y := by
        rw [e1, e2] at h5
        have : ¬ x < y := fun q => h5 (nI_lt q (by omega))
        omega
      have j3' : tn (i + 1 + 1 + 1 + 1) = nI x := by rw [j3 rfl]; show nI (nN (f 3)) = _; rw [n3]
      have j4 : ¬ tk (i + 1 + 1 + 1 + 2) = 204 := by
        have e9 : tk (i + 1 + 1 + 1 + 2) = 59 := h59
        rw [e9]
        decide
      rw [if_pos (show tk (i + 2 + 1) = 203 from j1), r_at1 (i := i + 2 + 1) hc (show i + 2 + 1 + 2 < 401 by omega) (by omega) j2 j3' j4, oB_s, et, h0, ee, e2, e1, ← exy]
  · obtain ⟨x, x1, e1⟩ := h3 h0
    obtain ⟨hd1, hd2⟩ := hd h0
    have n3 : nN (f 3) = x := by rw [e1, nN_nI (by omega)]
    have hxe : ¬ x = e := fun q => hd1 (by rw [ee, e1, q])
    unfold cR at k7 hlen
    rw [if_neg h0] at k7 hlen
    obtain ⟨⟨j1, -, -⟩, ⟨j2, -, j3⟩, -⟩ := k7
    have hl : len = 5 := hlen
    subst hl
    have j3' : tw (i + 1 + 1 + 1 + 1) = hsh [101, nI (48 + x)] := by rw [j3 (Or.inl rfl)]; show hsh [101, nI (48 + nN (f 3))] = _; rw [n3]
    rcases kin with q | q | q
    · exact absurd q h0
    · have j1' : tk (i + 1 + 1 + 1) = 205 := by rw [j1, if_pos q]; rfl
      rw [j1', if_neg (by decide), if_pos rfl, r_bef hE hne hc (show i + 1 + 1 + 1 + 2 < 401 by omega) x1 he hxe j2 j3', oB_s, et, q, ee, e1, hd2]
    · have j1' : tk (i + 1 + 1 + 1) = 206 := by rw [j1, if_neg (by rw [q]; decide)]; rfl
      rw [j1', if_neg (by decide), if_neg (by decide), if_pos rfl, r_wit hE hne hc (show i + 1 + 1 + 1 + 2 < 401 by omega) x1 he hxe j2 j3', oB_s, et, q, ee, e1, hd2]
theorem ln_cl {f : Nat → Int32} (hE : EvW w1 ne) (hT : TeW w2 nt) (hne : ne ≤ 10) (hnt : nt ≤ 10) (hc : cc < 40) (hf : CV1 ne nt f) (hd : ¬ f 0 = 0 → ¬ f 2 = f 3 ∧ f 4 = 0) (hi : i + (clL f).length < 401) (hn : n < 400) (h : Tks tk tn tw i (clL f)) : f_Re_read_L7 N s1 s2 s3 s4 tk ts tn tw (nI n, nI i, tk i, nI d, 0, ep, nI cc, cT, cK, cE, cF, cL, nI oc, nI sc, oD, oT, oE, sk, sp, nI ne, w1, nI nt, w2) = .inl (nI (n + 1), nI (i + (clL f).length), tk (i + (clL f).length), nI d, 0, ep, nI (cc + 1), upd cT cc (f 1), upd cK cc (f 0), upd cE cc (f 2), upd cF cc (f 3), upd cL cc (f 4), nI oc, nI sc, oD, oT, oE, sk, sp, nI ne, w1, nI nt, w2) := by
  obtain ⟨len, hlen⟩ : ∃ len, len = (cR f).length + 3 := ⟨_, rfl⟩
  have e0 : (clL f).length = len + 1 := by
    unfold clL
    simp only [List.length_append, List.length_cons, List.length_nil]
    omega
  rw [e0] at hi ⊢
  obtain ⟨g1, g2⟩ := r_claim (ep := ep) (ts := ts) (cT := cT) (cK := cK) (cE := cE) (cF := cF) (cL := cL) hE hT hne hnt hc hf hd hlen (by omega) h
  have e1 : tk i = 202 := h.1.1
  unfold f_Re_read_L7
  dsimp only
  rw [e1, if_neg (show ¬ (400 : Int32) ≤ nI n from nI_ge (b := 400) hn (by decide)), if_neg (by decide), if_neg (by decide), if_neg (by decide), if_neg (by decide), if_pos rfl, g1, oB_s]
  dsimp only
  rw [r_exp (p := 59) (show i + len + 1 < 401 by omega) g2, oB_s, ← nI_succ]
  rfl
end PR
