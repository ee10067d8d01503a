/-! the reader: orders, and line behind line -/
theorem adA_lt : ∀ (L : List (Int32 × Int32)) (f : Nat → Int32) (s j : Nat), j < s → adA f s L j = f j
  | [], _, _, _, _ => rfl
  | p :: r, f, s, j, h => by
    show adA (upd f s p.1) (s + 1) r j = f j
    rw [adA_lt r _ (s + 1) j (by omega)]
    exact upd_ne (by omega)
theorem adB_lt : ∀ (L : List (Int32 × Int32)) (f : Nat → Int32) (s j : Nat), j < s → adB f s L j = f j
  | [], _, _, _, _ => rfl
  | p :: r, f, s, j, h => by
    show adB (upd f s p.2) (s + 1) r j = f j
    rw [adB_lt r _ (s + 1) j (by omega)]
    exact upd_ne (by omega)
theorem ad_at : ∀ (L : List (Int32 × Int32)) (f h : Nat → Int32) (s : Nat), At (adA f s L) (adB h s L) s L
  | [], _, _, _ => fun i hi => absurd hi (Nat.not_lt_zero i)
  | p :: r, f, h, s => by
    have ih := ad_at r (upd f s p.1) (upd h s p.2) (s + 1)
    intro i hi
    cases i with
    | zero =>
      show adA (upd f s p.1) (s + 1) r s = p.1 ∧ adB (upd h s p.2) (s + 1) r s = p.2
      rw [adA_lt r _ (s + 1) s (by omega), adB_lt r _ (s + 1) s (by omega)]
      exact ⟨upd_at, upd_at⟩
    | succ i =>
      have := ih i (by have : i + 1 < r.length + 1 := hi; omega)
      rw [show s + (i + 1) = s + 1 + i by omega]
      exact this
section PR
variable {tk ts tn : Nat → Int32} {tw w1 w2 : Nat → Int64} {N ne nt i n cc oc sc d : Nat} {ep : Int32} {cT cK cE cF cL oD oT oE sk sp : Nat → Int32}
variable {s1 s2 s3 : Int32} {s4 : Int64}
theorem r_oadd {p1 p2 : Int32} (h : oc < 16) : f_Or_add (nI oc) (nI sc) oD oT oE p1 p2 = some (nI (oc + 1), upd oD oc (f_Main_one p1), upd oT oc p2, upd oE oc (nI sc)) := by
  unfold f_Or_add
  rw [if_pos (show f_Or_isFull (nI oc) = 0 from if_pos (nI_lt (b := 16) h (by decide))), rs h (by decide), rs h (by decide), rs h (by decide), ← nI_succ]
theorem r_or207_n {w : Nat} (hT : TeW w2 nt) (hnt : nt ≤ 10) (ho : oc < 16) (hw : w < nt) (hi : i + 2 < 401) (k2 : tk (i + 1) = 130) (v2 : tw (i + 1) = hsh [116, nI (48 + w)]) (k3 : ¬ tk (i + 2) = 209) : f_Re_readOrder N (nI i) 207 (nI d) 0 ep tk ts tn tw (nI oc) (nI sc) oD oT oE sk sp (nI ne) w1 (nI nt) w2 = some (nI (i + 2), tk (i + 2), nI d, 0, ep, nI (oc + 1), nI sc, upd oD oc (bI true), upd oT oc (nI w), upd oE oc (nI sc), sk, sp) := by
  unfold f_Re_readOrder
  rw [if_pos rfl, if_pos (show f_Or_isFull (nI oc) = 0 from if_pos (nI_lt (b := 16) ho (by decide))), r_adv (show i + 1 < 401 by omega), oB_s]
  dsimp only
  rw [r_te hT (show i + 1 + 1 < 401 by omega) hw (by omega) k2 v2, oB_s]
  dsimp only
  rw [if_neg k3, if_pos rfl, r_oadd ho, oB_s]
  rfl
theorem r_or207_s {w : Nat} {T : List Tok} {L : List (Int32 × Int32)} (hT : TeW w2 nt) (hnt : nt ≤ 10) (ho : oc < 16) (hw : w < nt) (hi : i + 3 + T.length < 401) (k2 : tk (i + 1) = 130) (v2 : tw (i + 1) = hsh [116, nI (48 + w)]) (k3 : tk (i + 2) = 209) (hr : f_Re_parse N tk ts tn tw (nI ne) w1 (nI nt) w2 64 0 0 0 (nI (i + 3), tk (i + 3), nI d, 0, ep, nI sc, sk, sp) = some (nI (i + 3 + T.length), tk (i + 3 + T.length), nI d, 0, ep, nI (sc + L.length), adA sk sc L, adB sp sc L)) : f_Re_readOrder N (nI i) 207 (nI d) 0 ep tk ts tn tw (nI oc) (nI sc) oD oT oE sk sp (nI ne) w1 (nI nt) w2 = some (nI (i + 3 + T.length), tk (i + 3 + T.length), nI d, 0, ep, nI (oc + 1), nI (sc + L.length), upd oD oc (bI true), upd oT oc (nI w), upd oE oc (nI (sc + L.length)), adA sk sc L, adB sp sc L) := by
  unfold f_Re_readOrder
  rw [if_pos rfl, if_pos (show f_Or_isFull (nI oc) = 0 from if_pos (nI_lt (b := 16) ho (by decide))), r_adv (show i + 1 < 401 by omega), oB_s]
  dsimp only
  rw [r_te hT (show i + 1 + 1 < 401 by omega) hw (by omega) k2 v2, oB_s]
  dsimp only
  rw [if_pos (show tk (i + 2) = 209 from k3), r_adv (show i + 2 + 1 < 401 by omega), oB_s]
  dsimp only
  rw [hr, oB_s]
  dsimp only
  rw [if_pos rfl, r_oadd ho, oB_s]
  rfl
theorem r_or208_n {w : Nat} (hT : TeW w2 nt) (hnt : nt ≤ 10) (ho : oc < 16) (hw : w < nt) (hi : i + 2 < 401) (k2 : tk (i + 1) = 130) (v2 : tw (i + 1) = hsh [116, nI (48 + w)]) (k3 : ¬ tk (i + 2) = 209) : f_Re_readOrder N (nI i) 208 (nI d) 0 ep tk ts tn tw (nI oc) (nI sc) oD oT oE sk sp (nI ne) w1 (nI nt) w2 = some (nI (i + 2), tk (i + 2), nI d, 0, ep, nI (oc + 1), nI sc, upd oD oc (bI false), upd oT oc (nI w), upd oE oc (nI sc), sk, sp) := by
  unfold f_Re_readOrder
  rw [if_neg (by decide), if_pos (show f_Or_isFull (nI oc) = 0 from if_pos (nI_lt (b := 16) ho (by decide))), r_adv (show i + 1 < 401 by omega), oB_s]
  dsimp only
  rw [r_te hT (show i + 1 + 1 < 401 by omega) hw (by omega) k2 v2, oB_s]
  dsimp only
  rw [if_neg k3, if_pos rfl, r_oadd ho, oB_s]
  rfl
theorem r_or208_s {w : Nat} {T : List Tok} {L : List (Int32 × Int32)} (hT : TeW w2 nt) (hnt : nt ≤ 10) (ho : oc < 16) (hw : w < nt) (hi : i + 3 + T.length < 401) (k2 : tk (i + 1) = 130) (v2 : tw (i + 1) = hsh [116, nI (48 + w)]) (k3 : tk (i + 2) = 209) (hr : f_Re_parse N tk ts tn tw (nI ne) w1 (nI nt) w2 64 0 0 0 (nI (i + 3), tk (i + 3), nI d, 0, ep, nI sc, sk, sp) = some (nI (i + 3 + T.length), tk (i + 3 + T.length), nI d, 0, ep, nI (sc + L.length), adA sk sc L, adB sp sc L)) : f_Re_readOrder N (nI i) 208 (nI d) 0 ep tk ts tn tw (nI oc) (nI sc) oD oT oE sk sp (nI ne) w1 (nI nt) w2 = some (nI (i + 3 + T.length), tk (i + 3 + T.length), nI d, 0, ep, nI (oc + 1), nI (sc + L.length), upd oD oc (bI false), upd oT oc (nI w), upd oE oc (nI (sc + L.length)), adA sk sc L, adB sp sc L) := by
  unfold f_Re_readOrder
  rw [if_neg (by decide), if_pos (show f_Or_isFull (nI oc) = 0 from if_pos (nI_lt (b := 16) ho (by decide))), r_adv (show i + 1 < 401 by omega), oB_s]
  dsimp only
  rw [r_te hT (show i + 1 + 1 < 401 by omega) hw (by omega) k2 v2, oB_s]
  dsimp only
  rw [if_pos (show tk (i + 2) = 209 from k3), r_adv (show i + 2 + 1 < 401 by omega), oB_s]
  dsimp only
  rw [hr, oB_s]
  dsimp only
  rw [if_pos rfl, r_oadd ho, oB_s]
  rfl
theorem r_order {o : OT} {k0 : Int32} {len : Nat} (hN : 400 < N) (hE : EvW w1 ne) (hT : TeW w2 nt) (hne : ne ≤ 10) (hnt : nt ≤ 10) (ho : oc < 16) (hw : o.2.1 < nt) (hB : ∀ T, o.2.2 = some T → TB ne nt 4 T) (hsc : sc + (cdO o).length ≤ 400) (hk0 : k0 = kd (0, if o.1 = true then 7 else 8, 1)) (hlen : len = (whK o.2.1 o.2.2).length + 1) (hi : i + len < 401) (h : Tks tk tn tw i (orL o)) : f_Re_readOrder N (nI i) k0 (nI 0) 0 ep tk ts tn tw (nI oc) (nI sc) oD oT oE sk sp (nI ne) w1 (nI nt) w2 = some (nI (i + len), tk (i + len), nI 0, 0, ep, nI (oc + 1), nI (sc + (cdO o).length), upd oD oc (bI o.1), upd oT oc (nI o.2.1), upd oE oc (nI (sc + (cdO o).length)), adA sk sc (cdO o), adB sp sc (cdO o)) ∧ tk (i + len) = 59 := by
  obtain ⟨b, w, ot⟩ := o
  have hw' : w < nt := hw
  obtain ⟨-, k6⟩ := h
  obtain ⟨k7, ⟨k8, -, -⟩, -⟩ := Tks.app (whK w ot) _ (i + 1) k6
  have h59 : tk (i + len) = 59 := by
    have hlen2 : len = (whK w ot).length + 1 := hlen
    rw [hlen2, show i + ((whK w ot).length + 1) = i + 1 + (whK w ot).length by omega]
    exact k8
  refine ⟨?_, h59⟩
  cases ot with
  | none =>
    obtain ⟨⟨k2, -, k3⟩, -⟩ := k7
    have hl : len = 2 := hlen
    subst hl
    have n209 : ¬ tk (i + 2) = 209 := by rw [h59]; decide
    cases b with
    | true =>
      have e : k0 = 207 := hk0
      rw [e]
      exact r_or207_n hT hnt ho hw' hi k2 (k3 (Or.inr rfl)) n209
    | false =>
      have e : k0 = 208 := hk0
      rw [e]
      exact r_or208_n hT hnt ho hw' hi k2 (k3 (Or.inr rfl)) n209
  | some T =>
    obtain ⟨⟨k2, -, k3⟩, ⟨k4, -, -⟩, k5⟩ := k7
    have hl : len = (tkT 4 T).length + 2 + 1 := hlen
    have e3 : i + len = i + 3 + (tkT 4 T).length := by omega
    rw [e3] at h59 hi ⊢
    have n0 : no0 (tk (i + 3 + (tkT 4 T).length)) := by rw [h59]; exact ⟨⟨nA (by decide), by decide⟩, by decide⟩
    have hr := rd_B (ep := ep) (ts := ts) hN hE hT hne hnt 4 T (hB T rfl) 64 (by decide) (i + 3) 0 sc sk sp (by decide) k5 hi hsc n0
    cases b with
    | true =>
      have e : k0 = 207 := hk0
      rw [e]
      exact r_or207_s hT hnt ho hw' hi k2 (k3 (Or.inr rfl)) k4 hr
    | false =>
      have e : k0 = 208 := hk0
      rw [e]
      exact r_or208_s hT hnt ho hw' hi k2 (k3 (Or.inr rfl)) k4 hr
theorem ln_or {o : OT} (hN : 400 < N) (hE : EvW w1 ne) (hT : TeW w2 nt) (hne : ne ≤ 10) (hnt : nt ≤ 10) (ho : oc < 16) (hw : o.2.1 < nt) (hB : ∀ T, o.2.2 = some T → TB ne nt 4 T) (hsc : sc + (cdO o).length ≤ 400) (hi : i + (orL o).length < 401) (hn : n < 400) (h : Tks tk tn tw i (orL o)) : f_Re_read_L7 N s1 s2 s3 s4 tk ts tn tw (nI n, nI i, tk i, nI 0, 0, ep, nI cc, cT, cK, cE, cF, cL, nI oc, nI sc, oD, oT, oE, sk, sp, nI ne, w1, nI nt, w2) = .inl (nI (n + 1), nI (i + (orL o).length), tk (i + (orL o).length), nI 0, 0, ep, nI cc, cT, cK, cE, cF, cL, nI (oc + 1), nI (sc + (cdO o).length), upd oD oc (bI o.1), upd oT oc (nI o.2.1), upd oE oc (nI (sc + (cdO o).length)), adA sk sc (cdO o), adB sp sc (cdO o), nI ne, w1, nI nt, w2) := by
  obtain ⟨len, hlen⟩ : ∃ len, len = (whK o.2.1 o.2.2).length + 1 := ⟨_, rfl⟩
  have e0 : (orL o).length = len + 1 := by
    unfold orL
    simp only [List.length_append, List.length_cons, List.length_nil]
    omega
  rw [e0] at hi ⊢
  obtain ⟨g1, g2⟩ := r_order (ep := ep) (ts := ts) (oD := oD) (oT := oT) (oE := oE) (sk := sk) (sp := sp) hN hE hT hne hnt ho hw hB hsc rfl hlen (by omega) h
  have e1 : tk i = kd (0, if o.1 = true then 7 else 8, 1) := h.1.1
  unfold f_Re_read_L7
  dsimp only
  rw [e1, if_neg (show ¬ (400 : Int32) ≤ nI n from nI_ge (b := 400) hn (by decide))]
  by_cases hb : o.1 = true
  · rw [if_pos hb] at g1 ⊢
    rw [show kd (0, 7, 1) = (207 : Int32) from rfl] at g1 ⊢
    rw [if_neg (by decide), if_neg (by decide), if_neg (by decide), if_neg (by decide), if_neg (by decide), if_pos rfl, g1, oB_s]
    dsimp only
    rw [r_exp (p := 59) (show i + len + 1 < 401 by omega) g2, oB_s, ← nI_succ]
    rfl
  · rw [if_neg hb] at g1 ⊢
    rw [show kd (0, 8, 1) = (208 : Int32) from rfl] at g1 ⊢
    rw [if_neg (by decide), if_neg (by decide), if_neg (by decide), if_neg (by decide), if_neg (by decide), if_neg (by decide), if_pos rfl, g1, oB_s]
    dsimp only
    rw [r_exp (p := 59) (show i + len + 1 < 401 by omega) g2, oB_s, ← nI_succ]
    rfl
end PR
