/-! the reader: sums and tests -/
abbrev S8 : Type := Int32 × Int32 × Int32 × Int32 × Int32 × Int32 × (Nat → Int32) × (Nat → Int32)
def adA (f : Nat → Int32) (s : Nat) : List (Int32 × Int32) → (Nat → Int32)
  | [] => f
  | p :: r => adA (upd f s p.1) (s + 1) r
def adB (f : Nat → Int32) (s : Nat) : List (Int32 × Int32) → (Nat → Int32)
  | [] => f
  | p :: r => adB (upd f s p.2) (s + 1) r
theorem adA_app : ∀ x y f s, adA f s (x ++ y) = adA (adA f s x) (s + x.length) y
  | [], _, _, _ => rfl
  | p :: r, y, f, s => by
    show adA (upd f s p.1) (s + 1) (r ++ y) = adA (adA (upd f s p.1) (s + 1) r) (s + (r.length + 1)) y
    rw [adA_app r y, show s + 1 + r.length = s + (r.length + 1) by omega]
theorem adB_app : ∀ x y f s, adB f s (x ++ y) = adB (adB f s x) (s + x.length) y
  | [], _, _, _ => rfl
  | p :: r, y, f, s => by
    show adB (upd f s p.2) (s + 1) (r ++ y) = adB (adB (upd f s p.2) (s + 1) r) (s + (r.length + 1)) y
    rw [adB_app r y, show s + 1 + r.length = s + (r.length + 1) by omega]
def EvW (w1 : Nat → Int64) (ne : Nat) : Prop := ∀ v, v < ne → nfind 8 w1 (nI ne) (hsh [101, nI (48 + v)]) = nI v
def TeW (w2 : Nat → Int64) (nt : Nat) : Prop := ∀ v, v < nt → nfind 10 w2 (nI nt) (hsh [116, nI (48 + v)]) = nI v
section PR
variable {tk ts tn : Nat → Int32} {tw w1 w2 : Nat → Int64} {N ne nt : Nat} {ep : Int32}
theorem r_adv {i : Nat} (h : i + 1 < 401) (k : Int32) : f_Re_advance (nI i) k tk = some (nI (i + 1), tk (i + 1)) := by
  unfold f_Re_advance
  rw [← nI_succ, rg h (by decide)]
theorem r_add {sc : Nat} {sk sp : Nat → Int32} {p q : Int32} (h : sc < 400) : f_Or_addStep (nI sc) sk sp p q = some (nI (sc + 1), upd sk sc p, upd sp sc q) := by
  unfold f_Or_addStep
  rw [if_neg (show ¬ (400 : Int32) ≤ nI sc from nI_ge (b := 400) h (by decide)), ← nI_succ, rs h (by decide), rs h (by decide)]
theorem r_exp {i : Nat} {k p : Int32} (h : i + 1 < 401) (hk : k = p) : f_Re_expect (nI i) k 0 ep tk ts p = some (nI (i + 1), tk (i + 1), 0, ep) := by
  unfold f_Re_expect
  rw [if_pos hk, r_adv h]
  rfl
theorem r_deep {i d : Nat} {k : Int32} (h : i + 1 < 401) (hd : d < 8) : f_Re_deepen (nI i) k (nI d) 0 ep tk ts = some (1, nI (i + 1), tk (i + 1), nI (d + 1), 0, ep) := by
  unfold f_Re_deepen
  rw [if_pos (show nI d < (8 : Int32) from nI_lt (b := 8) hd (by decide)), r_adv h, oB_s, ← nI_succ]
theorem r_word {i : Nat} (h : i < 401) : f_To_wordAt tw (nI i) = some (tw i) := by
  unfold f_To_wordAt
  rw [if_neg (nI_nlt0 i (by omega)), if_neg (show ¬ (401 : Int32) ≤ nI i from nI_ge (b := 401) h (by decide)), if_pos (ib_nI h (by decide)), nI_clamp (by omega)]
theorem r_ev {i v : Nat} {k : Int32} (hE : EvW w1 ne) (h : i + 1 < 401) (hv : v < ne) (hv2 : v < 10) (hk : k = 130) (hw : tw i = hsh [101, nI (48 + v)]) : f_Re_readKnown (nI i) k 0 ep tk ts tw (nI ne) w1 = some (nI v, nI (i + 1), tk (i + 1), 0, ep) := by
  unfold f_Re_readKnown
  rw [if_pos hk, r_word (by omega), oB_s, hw, hE v hv, if_pos (nI_leI0 v (by omega)), r_adv h, oB_s]
theorem r_te {i v : Nat} {k : Int32} (hE : TeW w2 nt) (h : i + 1 < 401) (hv : v < nt) (hv2 : v < 10) (hk : k = 130) (hw : tw i = hsh [116, nI (48 + v)]) : f_Re_readKnown_v1 (nI i) k 0 ep tk ts tw (nI nt) w2 = some (nI v, nI (i + 1), tk (i + 1), 0, ep) := by
  unfold f_Re_readKnown_v1
  rw [if_pos hk, r_word (by omega), oB_s, hw, hE v hv, if_pos (nI_leI0 v (by omega)), r_adv h, oB_s]
theorem p_0 {D : Nat} {a1 a2 a3 a4 a5 a6 : Int32} {a7 a8 : Nat → Int32} : f_Re_parse N tk ts tn tw (nI ne) w1 (nI nt) w2 (D + 1) 0 0 0 (a1, a2, a3, a4, a5, a6, a7, a8) = f_Re_readTest N (f_Re_parse N tk ts tn tw (nI ne) w1 (nI nt) w2 D) a1 a2 a3 a4 a5 tk ts tn tw a6 a7 a8 (nI ne) w1 (nI nt) w2 := rfl
theorem p_1 {D : Nat} {a1 a2 a3 a4 a5 a6 : Int32} {a7 a8 : Nat → Int32} : f_Re_parse N tk ts tn tw (nI ne) w1 (nI nt) w2 (D + 1) 1 0 0 (a1, a2, a3, a4, a5, a6, a7, a8) = f_Re_readBoth N (f_Re_parse N tk ts tn tw (nI ne) w1 (nI nt) w2 D) a1 a2 a3 a4 a5 tk ts tn tw a6 a7 a8 (nI ne) w1 (nI nt) w2 := rfl
theorem p_2 {D : Nat} {a1 a2 a3 a4 a5 a6 : Int32} {a7 a8 : Nat → Int32} : f_Re_parse N tk ts tn tw (nI ne) w1 (nI nt) w2 (D + 1) 2 0 0 (a1, a2, a3, a4, a5, a6, a7, a8) = f_Re_readSingle N (f_Re_parse N tk ts tn tw (nI ne) w1 (nI nt) w2 D) a1 a2 a3 a4 a5 tk ts tn tw a6 a7 a8 (nI ne) w1 (nI nt) w2 := rfl
theorem p_3 {D : Nat} {a1 a2 a3 a4 a5 a6 : Int32} {a7 a8 : Nat → Int32} : f_Re_parse N tk ts tn tw (nI ne) w1 (nI nt) w2 (D + 1) 3 0 0 (a1, a2, a3, a4, a5, a6, a7, a8) = f_Re_readCompared N (f_Re_parse N tk ts tn tw (nI ne) w1 (nI nt) w2 D) a1 a2 a3 a4 a5 tk ts tn tw a6 a7 a8 (nI ne) w1 (nI nt) w2 := rfl
theorem p_4 {D : Nat} {a1 a2 a3 a4 a5 a6 : Int32} {a7 a8 : Nat → Int32} : f_Re_parse N tk ts tn tw (nI ne) w1 (nI nt) w2 (D + 1) 4 0 0 (a1, a2, a3, a4, a5, a6, a7, a8) = f_Re_readSum N (f_Re_parse N tk ts tn tw (nI ne) w1 (nI nt) w2 D) a1 a2 a3 a4 a5 tk ts tn tw a6 a7 a8 (nI ne) w1 (nI nt) w2 := rfl
theorem p_5 {D : Nat} {a1 a2 a3 a4 a5 a6 : Int32} {a7 a8 : Nat → Int32} : f_Re_parse N tk ts tn tw (nI ne) w1 (nI nt) w2 (D + 1) 5 0 0 (a1, a2, a3, a4, a5, a6, a7, a8) = f_Re_readProduct N (f_Re_parse N tk ts tn tw (nI ne) w1 (nI nt) w2 D) a1 a2 a3 a4 a5 tk ts tn tw a6 a7 a8 (nI ne) w1 (nI nt) w2 := rfl
theorem p_6 {D : Nat} {a1 a2 a3 a4 a5 a6 : Int32} {a7 a8 : Nat → Int32} : f_Re_parse N tk ts tn tw (nI ne) w1 (nI nt) w2 (D + 1) 6 0 0 (a1, a2, a3, a4, a5, a6, a7, a8) = f_Re_readValue N (f_Re_parse N tk ts tn tw (nI ne) w1 (nI nt) w2 D) a1 a2 a3 a4 a5 tk ts tn tw a6 a7 a8 (nI ne) w1 (nI nt) w2 := rfl
theorem p_7 {D : Nat} {a1 a2 a3 a4 a5 a6 : Int32} {a7 a8 : Nat → Int32} : f_Re_parse N tk ts tn tw (nI ne) w1 (nI nt) w2 (D + 1) 7 0 0 (a1, a2, a3, a4, a5, a6, a7, a8) = f_Re_readTwoSums N (f_Re_parse N tk ts tn tw (nI ne) w1 (nI nt) w2 D) a1 a2 a3 a4 a5 tk ts tn tw a6 a7 a8 (nI ne) w1 (nI nt) w2 := rfl
/-- what reading these tokens does: the steps, and the place behind them -/
def Rd (tk ts tn : Nat → Int32) (tw w1 w2 : Nat → Int64) (N ne nt : Nat) (ep : Int32) (c D : Nat) (T : List Tok) (L : List (Int32 × Int32)) (dd : Nat) (nx : Int32 → Prop) : Prop :=
  ∀ (i d sc : Nat) (sk sp : Nat → Int32), d + dd ≤ 8 → Tks tk tn tw i T → i + T.length < 401 → sc + L.length ≤ 400 → nx (tk (i + T.length)) →
    f_Re_parse N tk ts tn tw (nI ne) w1 (nI nt) w2 D c 0 0 (nI i, tk i, nI d, 0, ep, nI sc, sk, sp) = some (nI (i + T.length), tk (i + T.length), nI d, 0, ep, nI (sc + L.length), adA sk sc L, adB sp sc L)
def any (_ : Int32) : Prop := True
def noM (c : Int32) : Prop := ¬ c = 42 ∧ ¬ c = 47
def noA (c : Int32) : Prop := (¬ c = 42 ∧ ¬ c = 47) ∧ ¬ c = 43 ∧ ¬ c = 45
def no1 (c : Int32) : Prop := noA c ∧ ¬ c = 221
def no0 (c : Int32) : Prop := (noA c ∧ ¬ c = 221) ∧ ¬ c = 222
theorem Rd.nx {c D dd : Nat} {T : List Tok} {L : List (Int32 × Int32)} {n1 n2 : Int32 → Prop} (h : Rd tk ts tn tw w1 w2 N ne nt ep c D T L dd n1) (hn : ∀ c, n2 c → n1 c) : Rd tk ts tn tw w1 w2 N ne nt ep c D T L dd n2 := fun i d sc sk sp a1 a2 a3 a4 a5 => h i d sc sk sp a1 a2 a3 a4 (hn _ a5)
theorem Rd.dd {c D dd d2 : Nat} {T : List Tok} {L : List (Int32 × Int32)} {n1 : Int32 → Prop} (h : Rd tk ts tn tw w1 w2 N ne nt ep c D T L dd n1) (hd : dd ≤ d2) : Rd tk ts tn tw w1 w2 N ne nt ep c D T L d2 n1 := fun i d sc sk sp a1 a2 a3 a4 a5 => h i d sc sk sp (by omega) a2 a3 a4 a5

theorem x_5 {rec : Nat → Int32 → Int32 → S8 → Option S8} {z a k d e p c : Int32} {sk sp : Nat → Int32} (hz : ¬ 400 ≤ z) (h42 : ¬ k = 42) (h47 : ¬ k = 47) {n : Nat} (hn : 0 < n) : lpS (f_Re_readProduct_L6 tk rec) none n (z, a, k, d, e, p, c, sk, sp) = some (a, k, d, e, p, c, sk, sp) := by
  obtain ⟨n, rfl⟩ : ∃ m, n = m + 1 := ⟨n - 1, by omega⟩
  refine lp_out ?_
  unfold f_Re_readProduct_L6
  rw [if_neg hz, if_neg h42, if_neg h47]
theorem y_5_42 {rec : Nat → Int32 → Int32 → S8 → Option S8} {i j sc sc2 : Nat} {d e p : Int32} {sk sp sk2 sp2 : Nat → Int32} (hi : i + 1 < 401) (hs : sc2 < 400) (hr : rec 6 0 0 (nI (i + 1), tk (i + 1), d, e, p, nI sc, sk, sp) = some (nI j, tk j, d, e, p, nI sc2, sk2, sp2)) (h42 : ¬ tk j = 42) (h47 : ¬ tk j = 47) {n : Nat} (hn : 1 < n) : lpS (f_Re_readProduct_L6 tk rec) none n (0, nI i, 42, d, e, p, nI sc, sk, sp) = some (nI j, tk j, d, e, p, nI (sc2 + 1), upd sk2 sc2 42, upd sp2 sc2 0) := by
  obtain ⟨n, rfl⟩ : ∃ m, n = m + 1 := ⟨n - 1, by omega⟩
  have h1 : f_Re_readProduct_L6 tk rec (0, nI i, 42, d, e, p, nI sc, sk, sp) = .inl (0 + 1, nI j, tk j, d, e, p, nI (sc2 + 1), upd sk2 sc2 42, upd sp2 sc2 0) := by
    unfold f_Re_readProduct_L6
    dsimp only
    rw [if_neg (by decide), if_pos rfl, r_adv hi, oB_s, hr, oB_s, r_add hs, oB_s]
  rw [lp_in h1]
  exact x_5 (by decide) h42 h47 (by omega)
theorem y_5_47 {rec : Nat → Int32 → Int32 → S8 → Option S8} {i j sc sc2 : Nat} {d e p : Int32} {sk sp sk2 sp2 : Nat → Int32} (hi : i + 1 < 401) (hs : sc2 < 400) (hr : rec 6 0 0 (nI (i + 1), tk (i + 1), d, e, p, nI sc, sk, sp) = some (nI j, tk j, d, e, p, nI sc2, sk2, sp2)) (h42 : ¬ tk j = 42) (h47 : ¬ tk j = 47) {n : Nat} (hn : 1 < n) : lpS (f_Re_readProduct_L6 tk rec) none n (0, nI i, 47, d, e, p, nI sc, sk, sp) = some (nI j, tk j, d, e, p, nI (sc2 + 1), upd sk2 sc2 47, upd sp2 sc2 0) := by
  obtain ⟨n, rfl⟩ : ∃ m, n = m + 1 := ⟨n - 1, by omega⟩
  have h1 : f_Re_readProduct_L6 tk rec (0, nI i, 47, d, e, p, nI sc, sk, sp) = .inl (0 + 1, nI j, tk j, d, e, p, nI (sc2 + 1), upd sk2 sc2 47, upd sp2 sc2 0) := by
    unfold f_Re_readProduct_L6
    dsimp only
    rw [if_neg (by decide), if_neg (by decide), if_pos rfl, r_adv hi, oB_s, hr, oB_s, r_add hs, oB_s]
  rw [lp_in h1]
  exact x_5 (by decide) h42 h47 (by omega)
theorem x_4 {rec : Nat → Int32 → Int32 → S8 → Option S8} {z a k d e p c : Int32} {sk sp : Nat → Int32} (hz : ¬ 400 ≤ z) (h43 : ¬ k = 43) (h45 : ¬ k = 45) {n : Nat} (hn : 0 < n) : lpS (f_Re_readSum_L6 tk rec) none n (z, a, k, d, e, p, c, sk, sp) = some (a, k, d, e, p, c, sk, sp) := by
  obtain ⟨n, rfl⟩ : ∃ m, n = m + 1 := ⟨n - 1, by omega⟩
  refine lp_out ?_
  unfold f_Re_readSum_L6
  rw [if_neg hz, if_neg h43, if_neg h45]
theorem y_4_43 {rec : Nat → Int32 → Int32 → S8 → Option S8} {i j sc sc2 : Nat} {d e p : Int32} {sk sp sk2 sp2 : Nat → Int32} (hi : i + 1 < 401) (hs : sc2 < 400) (hr : rec 5 0 0 (nI (i + 1), tk (i + 1), d, e, p, nI sc, sk, sp) = some (nI j, tk j, d, e, p, nI sc2, sk2, sp2)) (h43 : ¬ tk j = 43) (h45 : ¬ tk j = 45) {n : Nat} (hn : 1 < n) : lpS (f_Re_readSum_L6 tk rec) none n (0, nI i, 43, d, e, p, nI sc, sk, sp) = some (nI j, tk j, d, e, p, nI (sc2 + 1), upd sk2 sc2 43, upd sp2 sc2 0) := by
  obtain ⟨n, rfl⟩ : ∃ m, n = m + 1 := ⟨n - 1, by omega⟩
  have h1 : f_Re_readSum_L6 tk rec (0, nI i, 43, d, e, p, nI sc, sk, sp) = .inl (0 + 1, nI j, tk j, d, e, p, nI (sc2 + 1), upd sk2 sc2 43, upd sp2 sc2 0) := by
    unfold f_Re_readSum_L6
    dsimp only
    rw [if_neg (by decide), if_pos rfl, r_adv hi, oB_s, hr, oB_s, r_add hs, oB_s]
  rw [lp_in h1]
  exact x_4 (by decide) h43 h45 (by omega)
theorem y_4_45 {rec : Nat → Int32 → Int32 → S8 → Option S8} {i j sc sc2 : Nat} {d e p : Int32} {sk sp sk2 sp2 : Nat → Int32} (hi : i + 1 < 401) (hs : sc2 < 400) (hr : rec 5 0 0 (nI (i + 1), tk (i + 1), d, e, p, nI sc, sk, sp) = some (nI j, tk j, d, e, p, nI sc2, sk2, sp2)) (h43 : ¬ tk j = 43) (h45 : ¬ tk j = 45) {n : Nat} (hn : 1 < n) : lpS (f_Re_readSum_L6 tk rec) none n (0, nI i, 45, d, e, p, nI sc, sk, sp) = some (nI j, tk j, d, e, p, nI (sc2 + 1), upd sk2 sc2 45, upd sp2 sc2 0) := by
  obtain ⟨n, rfl⟩ : ∃ m, n = m + 1 := ⟨n - 1, by omega⟩
  have h1 : f_Re_readSum_L6 tk rec (0, nI i, 45, d, e, p, nI sc, sk, sp) = .inl (0 + 1, nI j, tk j, d, e, p, nI (sc2 + 1), upd sk2 sc2 45, upd sp2 sc2 0) := by
    unfold f_Re_readSum_L6
    dsimp only
    rw [if_neg (by decide), if_neg (by decide), if_pos rfl, r_adv hi, oB_s, hr, oB_s, r_add hs, oB_s]
  rw [lp_in h1]
  exact x_4 (by decide) h43 h45 (by omega)
theorem x_1 {rec : Nat → Int32 → Int32 → S8 → Option S8} {z a k d e p c : Int32} {sk sp : Nat → Int32} (hz : ¬ 400 ≤ z) (h221 : ¬ k = 221) {n : Nat} (hn : 0 < n) : lpS (f_Re_readBoth_L6 tk rec) none n (z, a, k, d, e, p, c, sk, sp) = some (a, k, d, e, p, c, sk, sp) := by
  obtain ⟨n, rfl⟩ : ∃ m, n = m + 1 := ⟨n - 1, by omega⟩
  refine lp_out ?_
  unfold f_Re_readBoth_L6
  rw [if_neg hz, if_neg h221]
theorem y_1_221 {rec : Nat → Int32 → Int32 → S8 → Option S8} {i j sc sc2 : Nat} {d e p : Int32} {sk sp sk2 sp2 : Nat → Int32} (hi : i + 1 < 401) (hs : sc2 < 400) (hr : rec 2 0 0 (nI (i + 1), tk (i + 1), d, e, p, nI sc, sk, sp) = some (nI j, tk j, d, e, p, nI sc2, sk2, sp2)) (h221 : ¬ tk j = 221) {n : Nat} (hn : 1 < n) : lpS (f_Re_readBoth_L6 tk rec) none n (0, nI i, 221, d, e, p, nI sc, sk, sp) = some (nI j, tk j, d, e, p, nI (sc2 + 1), upd sk2 sc2 221, upd sp2 sc2 0) := by
  obtain ⟨n, rfl⟩ : ∃ m, n = m + 1 := ⟨n - 1, by omega⟩
  have h1 : f_Re_readBoth_L6 tk rec (0, nI i, 221, d, e, p, nI sc, sk, sp) = .inl (0 + 1, nI j, tk j, d, e, p, nI (sc2 + 1), upd sk2 sc2 221, upd sp2 sc2 0) := by
    unfold f_Re_readBoth_L6
    dsimp only
    rw [if_neg (by decide), if_pos rfl, r_adv hi, oB_s, hr, oB_s, r_add hs, oB_s]
  rw [lp_in h1]
  exact x_1 (by decide) h221 (by omega)
theorem x_0 {rec : Nat → Int32 → Int32 → S8 → Option S8} {z a k d e p c : Int32} {sk sp : Nat → Int32} (hz : ¬ 400 ≤ z) (h222 : ¬ k = 222) {n : Nat} (hn : 0 < n) : lpS (f_Re_readTest_L6 tk rec) none n (z, a, k, d, e, p, c, sk, sp) = some (a, k, d, e, p, c, sk, sp) := by
  obtain ⟨n, rfl⟩ : ∃ m, n = m + 1 := ⟨n - 1, by omega⟩
  refine lp_out ?_
  unfold f_Re_readTest_L6
  rw [if_neg hz, if_neg h222]
theorem y_0_222 {rec : Nat → Int32 → Int32 → S8 → Option S8} {i j sc sc2 : Nat} {d e p : Int32} {sk sp sk2 sp2 : Nat → Int32} (hi : i + 1 < 401) (hs : sc2 < 400) (hr : rec 1 0 0 (nI (i + 1), tk (i + 1), d, e, p, nI sc, sk, sp) = some (nI j, tk j, d, e, p, nI sc2, sk2, sp2)) (h222 : ¬ tk j = 222) {n : Nat} (hn : 1 < n) : lpS (f_Re_readTest_L6 tk rec) none n (0, nI i, 222, d, e, p, nI sc, sk, sp) = some (nI j, tk j, d, e, p, nI (sc2 + 1), upd sk2 sc2 222, upd sp2 sc2 0) := by
  obtain ⟨n, rfl⟩ : ∃ m, n = m + 1 := ⟨n - 1, by omega⟩
  have h1 : f_Re_readTest_L6 tk rec (0, nI i, 222, d, e, p, nI sc, sk, sp) = .inl (0 + 1, nI j, tk j, d, e, p, nI (sc2 + 1), upd sk2 sc2 222, upd sp2 sc2 0) := by
    unfold f_Re_readTest_L6
    dsimp only
    rw [if_neg (by decide), if_pos rfl, r_adv hi, oB_s, hr, oB_s, r_add hs, oB_s]
  rw [lp_in h1]
  exact x_0 (by decide) h222 (by omega)
theorem Rd.lift5 {D dd : Nat} {T : List Tok} {L : List (Int32 × Int32)} {nx : Int32 → Prop} (hN : 400 < N) (h : Rd tk ts tn tw w1 w2 N ne nt ep 6 D T L dd nx) (q42 : ∀ c, nx c → ¬ c = 42) (q47 : ∀ c, nx c → ¬ c = 47) : Rd tk ts tn tw w1 w2 N ne nt ep 5 (D + 1) T L dd nx := by
  intro i d sc sk sp a1 a2 a3 a4 a5
  have h1 := h i d sc sk sp a1 a2 a3 a4 a5
  rw [p_5]
  unfold f_Re_readProduct
  rw [h1, oB_s]
  exact x_5 (by decide) (q42 _ a5) (q47 _ a5) (by omega)
theorem Rd.bin5_42 {D dd : Nat} {ta tb : List Tok} {La Lb : List (Int32 × Int32)} {nx n1 : Int32 → Prop} {op : Tok} (hN : 400 < N) (hop : kd op = 42) (hn1 : n1 42) (ha : Rd tk ts tn tw w1 w2 N ne nt ep 6 D ta La dd n1) (hb : Rd tk ts tn tw w1 w2 N ne nt ep 6 D tb Lb dd nx) (q42 : ∀ c, nx c → ¬ c = 42) (q47 : ∀ c, nx c → ¬ c = 47) : Rd tk ts tn tw w1 w2 N ne nt ep 5 (D + 1) (ta ++ op :: tb) ((La ++ Lb) ++ [(42, 0)]) dd nx := by
  intro i d sc sk sp a1 a2 a3 a4 a5
  obtain ⟨t1, t2, t3⟩ := Tks.app ta (op :: tb) i a2
  have l1 : (ta ++ op :: tb).length = ta.length + (tb.length + 1) := by rw [List.length_append]; rfl
  have l2 : ((La ++ Lb) ++ [((42 : Int32), (0 : Int32))]).length = La.length + Lb.length + 1 := by rw [List.length_append, List.length_append]; rfl
  rw [l1] at a3 a5 ⊢
  rw [l2] at a4 ⊢
  have e1 : i + (ta.length + (tb.length + 1)) = i + ta.length + 1 + tb.length := by omega
  rw [e1] at a5 ⊢
  have ek : tk (i + ta.length) = 42 := by rw [t2.1, hop]
  have h1 := ha i d sc sk sp a1 t1 (by omega) (by omega) (by rw [ek]; exact hn1)
  have h2 := hb (i + ta.length + 1) d (sc + La.length) (adA sk sc La) (adB sp sc La) a1 t3 (by omega) (by omega) a5
  rw [p_5]
  unfold f_Re_readProduct
  rw [h1, oB_s]
  show lpS (f_Re_readProduct_L6 tk _) none N (0, nI (i + ta.length), tk (i + ta.length), nI d, 0, ep, nI (sc + La.length), adA sk sc La, adB sp sc La) = _
  rw [ek, y_5_42 (show i + ta.length + 1 < 401 by omega) (show sc + La.length + Lb.length < 400 by omega) h2 (q42 _ a5) (q47 _ a5) (show 1 < N by omega), adA_app, adB_app, adA_app, adB_app, show sc + (La ++ Lb).length = sc + La.length + Lb.length by rw [List.length_append]; omega, show sc + (La.length + Lb.length + 1) = sc + La.length + Lb.length + 1 by omega]
  rfl
theorem Rd.bin5_47 {D dd : Nat} {ta tb : List Tok} {La Lb : List (Int32 × Int32)} {nx n1 : Int32 → Prop} {op : Tok} (hN : 400 < N) (hop : kd op = 47) (hn1 : n1 47) (ha : Rd tk ts tn tw w1 w2 N ne nt ep 6 D ta La dd n1) (hb : Rd tk ts tn tw w1 w2 N ne nt ep 6 D tb Lb dd nx) (q42 : ∀ c, nx c → ¬ c = 42) (q47 : ∀ c, nx c → ¬ c = 47) : Rd tk ts tn tw w1 w2 N ne nt ep 5 (D + 1) (ta ++ op :: tb) ((La ++ Lb) ++ [(47, 0)]) dd nx := by
  intro i d sc sk sp a1 a2 a3 a4 a5
  obtain ⟨t1, t2, t3⟩ := Tks.app ta (op :: tb) i a2
  have l1 : (ta ++ op :: tb).length = ta.length + (tb.length + 1) := by rw [List.length_append]; rfl
  have l2 : ((La ++ Lb) ++ [((47 : Int32), (0 : Int32))]).length = La.length + Lb.length + 1 := by rw [List.length_append, List.length_append]; rfl
  rw [l1] at a3 a5 ⊢
  rw [l2] at a4 ⊢
  have e1 : i + (ta.length + (tb.length + 1)) = i + ta.length + 1 + tb.length := by omega
  rw [e1] at a5 ⊢
  have ek : tk (i + ta.length) = 47 := by rw [t2.1, hop]
  have h1 := ha i d sc sk sp a1 t1 (by omega) (by omega) (by rw [ek]; exact hn1)
  have h2 := hb (i + ta.length + 1) d (sc + La.length) (adA sk sc La) (adB sp sc La) a1 t3 (by omega) (by omega) a5
  rw [p_5]
  unfold f_Re_readProduct
  rw [h1, oB_s]
  show lpS (f_Re_readProduct_L6 tk _) none N (0, nI (i + ta.length), tk (i + ta.length), nI d, 0, ep, nI (sc + La.length), adA sk sc La, adB sp sc La) = _
  rw [ek, y_5_47 (show i + ta.length + 1 < 401 by omega) (show sc + La.length + Lb.length < 400 by omega) h2 (q42 _ a5) (q47 _ a5) (show 1 < N by omega), adA_app, adB_app, adA_app, adB_app, show sc + (La ++ Lb).length = sc + La.length + Lb.length by rw [List.length_append]; omega, show sc + (La.length + Lb.length + 1) = sc + La.length + Lb.length + 1 by omega]
  rfl
theorem Rd.lift4 {D dd : Nat} {T : List Tok} {L : List (Int32 × Int32)} {nx : Int32 → Prop} (hN : 400 < N) (h : Rd tk ts tn tw w1 w2 N ne nt ep 5 D T L dd nx) (q43 : ∀ c, nx c → ¬ c = 43) (q45 : ∀ c, nx c → ¬ c = 45) : Rd tk ts tn tw w1 w2 N ne nt ep 4 (D + 1) T L dd nx := by
  intro i d sc sk sp a1 a2 a3 a4 a5
  have h1 := h i d sc sk sp a1 a2 a3 a4 a5
  rw [p_4]
  unfold f_Re_readSum
  rw [h1, oB_s]
  exact x_4 (by decide) (q43 _ a5) (q45 _ a5) (by omega)
theorem Rd.bin4_43 {D dd : Nat} {ta tb : List Tok} {La Lb : List (Int32 × Int32)} {nx n1 : Int32 → Prop} {op : Tok} (hN : 400 < N) (hop : kd op = 43) (hn1 : n1 43) (ha : Rd tk ts tn tw w1 w2 N ne nt ep 5 D ta La dd n1) (hb : Rd tk ts tn tw w1 w2 N ne nt ep 5 D tb Lb dd nx) (q43 : ∀ c, nx c → ¬ c = 43) (q45 : ∀ c, nx c → ¬ c = 45) : Rd tk ts tn tw w1 w2 N ne nt ep 4 (D + 1) (ta ++ op :: tb) ((La ++ Lb) ++ [(43, 0)]) dd nx := by
  intro i d sc sk sp a1 a2 a3 a4 a5
  obtain ⟨t1, t2, t3⟩ := Tks.app ta (op :: tb) i a2
  have l1 : (ta ++ op :: tb).length = ta.length + (tb.length + 1) := by rw [List.length_append]; rfl
  have l2 : ((La ++ Lb) ++ [((43 : Int32), (0 : Int32))]).length = La.length + Lb.length + 1 := by rw [List.length_append, List.length_append]; rfl
  rw [l1] at a3 a5 ⊢
  rw [l2] at a4 ⊢
  have e1 : i + (ta.length + (tb.length + 1)) = i + ta.length + 1 + tb.length := by omega
  rw [e1] at a5 ⊢
  have ek : tk (i + ta.length) = 43 := by rw [t2.1, hop]
  have h1 := ha i d sc sk sp a1 t1 (by omega) (by omega) (by rw [ek]; exact hn1)
  have h2 := hb (i + ta.length + 1) d (sc + La.length) (adA sk sc La) (adB sp sc La) a1 t3 (by omega) (by omega) a5
  rw [p_4]
  unfold f_Re_readSum
  rw [h1, oB_s]
  show lpS (f_Re_readSum_L6 tk _) none N (0, nI (i + ta.length), tk (i + ta.length), nI d, 0, ep, nI (sc + La.length), adA sk sc La, adB sp sc La) = _
  rw [ek, y_4_43 (show i + ta.length + 1 < 401 by omega) (show sc + La.length + Lb.length < 400 by omega) h2 (q43 _ a5) (q45 _ a5) (show 1 < N by omega), adA_app, adB_app, adA_app, adB_app, show sc + (La ++ Lb).length = sc + La.length + Lb.length by rw [List.length_append]; omega, show sc + (La.length + Lb.length + 1) = sc + La.length + Lb.length + 1 by omega]
  rfl
theorem Rd.bin4_45 {D dd : Nat} {ta tb : List Tok} {La Lb : List (Int32 × Int32)} {nx n1 : Int32 → Prop} {op : Tok} (hN : 400 < N) (hop : kd op = 45) (hn1 : n1 45) (ha : Rd tk ts tn tw w1 w2 N ne nt ep 5 D ta La dd n1) (hb : Rd tk ts tn tw w1 w2 N ne nt ep 5 D tb Lb dd nx) (q43 : ∀ c, nx c → ¬ c = 43) (q45 : ∀ c, nx c → ¬ c = 45) : Rd tk ts tn tw w1 w2 N ne nt ep 4 (D + 1) (ta ++ op :: tb) ((La ++ Lb) ++ [(45, 0)]) dd nx := by
  intro i d sc sk sp a1 a2 a3 a4 a5
  obtain ⟨t1, t2, t3⟩ := Tks.app ta (op :: tb) i a2
  have l1 : (ta ++ op :: tb).length = ta.length + (tb.length + 1) := by rw [List.length_append]; rfl
  have l2 : ((La ++ Lb) ++ [((45 : Int32), (0 : Int32))]).length = La.length + Lb.length + 1 := by rw [List.length_append, List.length_append]; rfl
  rw [l1] at a3 a5 ⊢
  rw [l2] at a4 ⊢
  have e1 : i + (ta.length + (tb.length + 1)) = i + ta.length + 1 + tb.length := by omega
  rw [e1] at a5 ⊢
  have ek : tk (i + ta.length) = 45 := by rw [t2.1, hop]
  have h1 := ha i d sc sk sp a1 t1 (by omega) (by omega) (by rw [ek]; exact hn1)
  have h2 := hb (i + ta.length + 1) d (sc + La.length) (adA sk sc La) (adB sp sc La) a1 t3 (by omega) (by omega) a5
  rw [p_4]
  unfold f_Re_readSum
  rw [h1, oB_s]
  show lpS (f_Re_readSum_L6 tk _) none N (0, nI (i + ta.length), tk (i + ta.length), nI d, 0, ep, nI (sc + La.length), adA sk sc La, adB sp sc La) = _
  rw [ek, y_4_45 (show i + ta.length + 1 < 401 by omega) (show sc + La.length + Lb.length < 400 by omega) h2 (q43 _ a5) (q45 _ a5) (show 1 < N by omega), adA_app, adB_app, adA_app, adB_app, show sc + (La ++ Lb).length = sc + La.length + Lb.length by rw [List.length_append]; omega, show sc + (La.length + Lb.length + 1) = sc + La.length + Lb.length + 1 by omega]
  rfl
theorem Rd.lift1 {D dd : Nat} {T : List Tok} {L : List (Int32 × Int32)} {nx : Int32 → Prop} (hN : 400 < N) (h : Rd tk ts tn tw w1 w2 N ne nt ep 2 D T L dd nx) (q221 : ∀ c, nx c → ¬ c = 221) : Rd tk ts tn tw w1 w2 N ne nt ep 1 (D + 1) T L dd nx := by
  intro i d sc sk sp a1 a2 a3 a4 a5
  have h1 := h i d sc sk sp a1 a2 a3 a4 a5
  rw [p_1]
  unfold f_Re_readBoth
  rw [h1, oB_s]
  exact x_1 (by decide) (q221 _ a5) (by omega)
theorem Rd.bin1_221 {D dd : Nat} {ta tb : List Tok} {La Lb : List (Int32 × Int32)} {nx n1 : Int32 → Prop} {op : Tok} (hN : 400 < N) (hop : kd op = 221) (hn1 : n1 221) (ha : Rd tk ts tn tw w1 w2 N ne nt ep 2 D ta La dd n1) (hb : Rd tk ts tn tw w1 w2 N ne nt ep 2 D tb Lb dd nx) (q221 : ∀ c, nx c → ¬ c = 221) : Rd tk ts tn tw w1 w2 N ne nt ep 1 (D + 1) (ta ++ op :: tb) ((La ++ Lb) ++ [(221, 0)]) dd nx := by
  intro i d sc sk sp a1 a2 a3 a4 a5
  obtain ⟨t1, t2, t3⟩ := Tks.app ta (op :: tb) i a2
  have l1 : (ta ++ op :: tb).length = ta.length + (tb.length + 1) := by rw [List.length_append]; rfl
  have l2 : ((La ++ Lb) ++ [((221 : Int32), (0 : Int32))]).length = La.length + Lb.length + 1 := by rw [List.length_append, List.length_append]; rfl
  rw [l1] at a3 a5 ⊢
  rw [l2] at a4 ⊢
  have e1 : i + (ta.length + (tb.length + 1)) = i + ta.length + 1 + tb.length := by omega
  rw [e1] at a5 ⊢
  have ek : tk (i + ta.length) = 221 := by rw [t2.1, hop]
  have h1 := ha i d sc sk sp a1 t1 (by omega) (by omega) (by rw [ek]; exact hn1)
  have h2 := hb (i + ta.length + 1) d (sc + La.length) (adA sk sc La) (adB sp sc La) a1 t3 (by omega) (by omega) a5
  rw [p_1]
  unfold f_Re_readBoth
  rw [h1, oB_s]
  show lpS (f_Re_readBoth_L6 tk _) none N (0, nI (i + ta.length), tk (i + ta.length), nI d, 0, ep, nI (sc + La.length), adA sk sc La, adB sp sc La) = _
  rw [ek, y_1_221 (show i + ta.length + 1 < 401 by omega) (show sc + La.length + Lb.length < 400 by omega) h2 (q221 _ a5) (show 1 < N by omega), adA_app, adB_app, adA_app, adB_app, show sc + (La ++ Lb).length = sc + La.length + Lb.length by rw [List.length_append]; omega, show sc + (La.length + Lb.length + 1) = sc + La.length + Lb.length + 1 by omega]
  rfl
theorem Rd.lift0 {D dd : Nat} {T : List Tok} {L : List (Int32 × Int32)} {nx : Int32 → Prop} (hN : 400 < N) (h : Rd tk ts tn tw w1 w2 N ne nt ep 1 D T L dd nx) (q222 : ∀ c, nx c → ¬ c = 222) : Rd tk ts tn tw w1 w2 N ne nt ep 0 (D + 1) T L dd nx := by
  intro i d sc sk sp a1 a2 a3 a4 a5
  have h1 := h i d sc sk sp a1 a2 a3 a4 a5
  rw [p_0]
  unfold f_Re_readTest
  rw [h1, oB_s]
  exact x_0 (by decide) (q222 _ a5) (by omega)
theorem Rd.bin0_222 {D dd : Nat} {ta tb : List Tok} {La Lb : List (Int32 × Int32)} {nx n1 : Int32 → Prop} {op : Tok} (hN : 400 < N) (hop : kd op = 222) (hn1 : n1 222) (ha : Rd tk ts tn tw w1 w2 N ne nt ep 1 D ta La dd n1) (hb : Rd tk ts tn tw w1 w2 N ne nt ep 1 D tb Lb dd nx) (q222 : ∀ c, nx c → ¬ c = 222) : Rd tk ts tn tw w1 w2 N ne nt ep 0 (D + 1) (ta ++ op :: tb) ((La ++ Lb) ++ [(222, 0)]) dd nx := by
  intro i d sc sk sp a1 a2 a3 a4 a5
  obtain ⟨t1, t2, t3⟩ := Tks.app ta (op :: tb) i a2
  have l1 : (ta ++ op :: tb).length = ta.length + (tb.length + 1) := by rw [List.length_append]; rfl
  have l2 : ((La ++ Lb) ++ [((222 : Int32), (0 : Int32))]).length = La.length + Lb.length + 1 := by rw [List.length_append, List.length_append]; rfl
  rw [l1] at a3 a5 ⊢
  rw [l2] at a4 ⊢
  have e1 : i + (ta.length + (tb.length + 1)) = i + ta.length + 1 + tb.length := by omega
  rw [e1] at a5 ⊢
  have ek : tk (i + ta.length) = 222 := by rw [t2.1, hop]
  have h1 := ha i d sc sk sp a1 t1 (by omega) (by omega) (by rw [ek]; exact hn1)
  have h2 := hb (i + ta.length + 1) d (sc + La.length) (adA sk sc La) (adB sp sc La) a1 t3 (by omega) (by omega) a5
  rw [p_0]
  unfold f_Re_readTest
  rw [h1, oB_s]
  show lpS (f_Re_readTest_L6 tk _) none N (0, nI (i + ta.length), tk (i + ta.length), nI d, 0, ep, nI (sc + La.length), adA sk sc La, adB sp sc La) = _
  rw [ek, y_0_222 (show i + ta.length + 1 < 401 by omega) (show sc + La.length + Lb.length < 400 by omega) h2 (q222 _ a5) (show 1 < N by omega), adA_app, adB_app, adA_app, adB_app, show sc + (La ++ Lb).length = sc + La.length + Lb.length by rw [List.length_append]; omega, show sc + (La.length + Lb.length + 1) = sc + La.length + Lb.length + 1 by omega]
  rfl
end PR
